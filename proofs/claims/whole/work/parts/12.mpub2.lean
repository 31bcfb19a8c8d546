set_option maxHeartbeats 4000000 in
set_option maxRecDepth 100000 in
theorem c9_award (l : Launch) (D : va_G) (ad : Nat → Nat) (cI cZ cC : ClassId) (th : Nat) (M : MS) (hM : MI M) {A : Nat → Prop} (hD : mDis A ad) (t : Int32) (k : Int32) : Met l yX9_award wsX9_award ({ frames := 6, cells := 0, slots := 0, locals := 140 }) (va_Pc [.ref (ad 0), .int t, .int k] (mB D ad cI cZ cC th M)) (va_Qi (fun (r : Int32) (_ : Unit) => r = r_award M t k) (fun _ U9 => va_P D vwCl (mws ad cI cZ cC (k_award M t k) (g_award M t k)) U9.heap) A) 0 0 A := by
  refine Met.ofW (cc := cX9_award) (maxL := 4) (ret := (some .int)) (by decide) rfl ?_
  intro p e s m args below meth c s₁ B hml hv
  obtain ⟨rfl, hP, hK⟩ := hv
  have hx := B.exec
  have hb := B.bytes
  have hr := B.returns
  have hts := atoms_spec (ws := wsX9_award) B.pre
  have hown : s.vm.findClass RX9 = some m.cls := findClass_of_methodNamed B.named
  have hlocks := B.notSynchronized
  have hin : ∀ w ∈ wsX90, w ∈ wsX9_award := fun w h => List.mem_cons_of_mem _ (List.mem_append_right _ h)
  have l_thrown := (hts (.fieldLink RX9 93 "TenderHallModel" "thrown" "I") (List.mem_of_getElem? (i := 1) rfl))
  have l_awards := (hts (.fieldLink RX9 157 "TenderHallModel" "awards" "I") (List.mem_of_getElem? (i := 2) rfl))
  have hS : va_S A s.heap s.heap [] := va_S.rf
  have hl := lv_entry ([.ref (ad 0), .int t, .int k]) (n := 4) (Nat.le_of_ble_eq_true rfl)
  rw [lg_entry_eq]
  generalize (lg_sl ([.ref (ad 0), .int t, .int k]) ++ List.replicate (4 - (lg_sl ([.ref (ad 0), .int t, .int k])).length) Slot.unset).toArray = ls at hl ⊢
  have hl : lv_has ls 4 [(0, .ref (ad 0)), (1, .int t), (2, .int k)] := hl
  have h36 : M 3 0 ≤ 6 := hM 3 0
  have h160 : M 16 0 ≤ 60 := hM 16 0
  have h220 : M 22 0 ≤ 60 := hM 22 0
  have h290 : M 29 0 ≤ 60 := hM 29 0
  have h120 : M 1 0 ≤ 2000 := hM 1 0
  refine lv_aload_n hx hb dX9_award_0 rfl (lv_at hl 0 rfl) ?_
  refine lv_aload_n hx hb dX9_award_1 rfl (lv_at hl 0 rfl) ?_
  refine lv_iload_n hx hb dX9_award_2 rfl (lv_at hl 1 rfl) ?_
  refine lv_iload_n hx hb dX9_award_3 rfl (lv_at hl 2 rfl) ?_
  refine vp_callSi (W.runV (As := [.int t, .int k]) (rest := [.ref (ad 0)]) ⟨hx, hb, hml, hown, hts⟩ (c9_isLot l D ad cI cZ cC th M hM  t k) (cwV 2 hts gX9_award_X9_isLot rfl rfl rfl kd_X9_isLot ⟨Nat.le_of_ble_eq_true rfl, Nat.le_of_ble_eq_true rfl⟩) ⟨mB_blind, m_recv hK hP, m_pre hK hP _⟩ rfl rfl hl.1 rfl (lv_room (Nat.le_of_ble_eq_true rfl)) dX9_award_4 ⟨Nat.le_of_ble_eq_true rfl, Nat.le_of_ble_eq_true rfl⟩) (fun r_1 hr_1 => ?_)
  subst hr_1
  refine b_if_eq (tgt := 14) hx hb dX9_award_7 (by decide)  (fun c_2 => ?_) (fun c_2 => ?_)
  · refine lv_iconst (v := nI 1) hx hb dX9_award_14 (by decide) ?_
    refine m_putT hx hb hts hin hown hK hP hD hS l_thrown dX9_award_15 (fun H locs hP hS => ?_)
    refine lv_aload_n hx hb dX9_award_18 rfl (lv_at hl 0 rfl) ?_
    refine m_get (v := .int (nI 1)) hx hb hts hin hown hK hP 0 (by decide) l_thrown rfl dX9_award_19 ?_
    refine n_if_ne (tgt := 76) hx hb dX9_award_22 (by decide) (by decide) (fun _ => ?_) (fun c9 => absurd c9 (by decide))
    refine lv_aload_n hx hb dX9_award_76 rfl (lv_at hl 0 rfl) ?_
    refine m_get (v := .int (nI 1)) hx hb hts hin hown hK hP 0 (by decide) l_thrown rfl dX9_award_77 ?_
    refine n_if_le (tgt := 87) hx hb dX9_award_80 (by decide) (by decide) (fun c9 => absurd c9 (by decide)) (fun _ => ?_)
    refine lv_iconst (v := nI 0) hx hb dX9_award_83 (by decide) ?_
    refine lv_goto (tgt := 96) hx hb dX9_award_84 (by decide) ?_
    have eM_3 : g_award M t k = M := by simp [g_award, k_award, m_lt, c_2]
    have eT_4 : k_award M t k = 1 := by simp [k_award, m_lt, c_2]
    exact W.iret (v := nI 0) hx hb hr (fun U9 ht hW => ⟨⟨_, (), rfl, (show nI 0 = r_award M t k from by simp [r_award, k_award, m_lt, c_2]), by show va_P D vwCl _ U9.heap; rw [ht, eM_3, eT_4]; exact hP⟩, hS.F ht⟩) hS.2.2 dX9_award_96
  · obtain ⟨t1, k1, ht1, hk1, rfl, rfl⟩ := m_isLot_of hM c_2
    have ht16 : t1 < 6 := by have f1 : M 3 0 ≤ 6 := hM 3 0; omega
    have hk13 : k1 < 3 := by have f1 : M 8 t1 ≤ 3 := hM 8 t1; omega
    have kt19 : (nI t1).toNatClampNeg = t1 := nI_clamp (by omega)
    have kk19 : (nI k1).toNatClampNeg = k1 := nI_clamp (by omega)
    refine lv_iconst (v := nI 0) hx hb dX9_award_10 (by decide) ?_
    refine lv_goto (tgt := 15) hx hb dX9_award_11 (by decide) ?_
    refine m_putT hx hb hts hin hown hK hP hD hS l_thrown dX9_award_15 (fun H locs hP hS => ?_)
    refine lv_aload_n hx hb dX9_award_18 rfl (lv_at hl 0 rfl) ?_
    refine m_get (v := .int (nI 0)) hx hb hts hin hown hK hP 0 (by decide) l_thrown rfl dX9_award_19 ?_
    refine n_if_ne (tgt := 76) hx hb dX9_award_22 (by decide) (by decide) (fun c9 => absurd c9 (by decide)) (fun _ => ?_)
    refine lv_iconst (v := nI 3) hx hb dX9_award_25 (by decide) ?_
    refine lv_iload_n hx hb dX9_award_26 rfl (lv_at hl 1 rfl) ?_
    refine n_imul hx hb dX9_award_27 (z := 3 * t1) rfl ?_
    refine lv_iload_n hx hb dX9_award_28 rfl (lv_at hl 2 rfl) ?_
    refine n_iadd hx hb dX9_award_29 (z := (3 * t1) + k1) rfl ?_
    refine lv_istore_n (lv' := [(3, .int (nI ((3 * t1) + k1))), (0, .ref (ad 0)), (1, .int (nI t1)), (2, .int (nI k1))]) hx hb dX9_award_30 rfl hl (by decide) rfl (fun ls hl => ?_)
    refine lv_aload_n hx hb dX9_award_31 rfl (lv_at hl 1 rfl) ?_
    refine lv_aload_n hx hb dX9_award_32 rfl (lv_at hl 1 rfl) ?_
    refine lv_iload_n hx hb dX9_award_33 rfl (lv_at hl 2 rfl) ?_
    refine vp_callSi (W.runV (As := [.int (nI t1)]) (rest := [.ref (ad 0)]) ⟨hx, hb, hml, hown, hts⟩ (c9_isOpened l D ad cI cZ cC 0 M hM  t1 (by omega)) (cwV 1 hts gX9_award_X9_isOpened rfl rfl rfl kd_X9_isOpened ⟨Nat.le_of_ble_eq_true rfl, Nat.le_of_ble_eq_true rfl⟩) ⟨mB_blind, m_recv hK hP, m_pre hK hP _⟩ rfl rfl hl.1 rfl (lv_room (Nat.le_of_ble_eq_true rfl)) dX9_award_34 ⟨Nat.le_of_ble_eq_true rfl, Nat.le_of_ble_eq_true rfl⟩) (fun r_5 hr_5 => ?_)
    subst hr_5
    refine b_if_eq (tgt := 68) hx hb dX9_award_37 (by decide)  (fun c_6 => ?_) (fun c_6 => ?_)
    · refine lv_iconst (v := nI 2) hx hb dX9_award_68 (by decide) ?_
      refine lv_goto (tgt := 73) hx hb dX9_award_69 (by decide) ?_
      refine m_putT hx hb hts hin hown hK hP hD hS l_thrown dX9_award_73 (fun H locs hP hS => ?_)
      refine lv_aload_n hx hb dX9_award_76 rfl (lv_at hl 1 rfl) ?_
      refine m_get (v := .int (nI 2)) hx hb hts hin hown hK hP 0 (by decide) l_thrown rfl dX9_award_77 ?_
      refine n_if_le (tgt := 87) hx hb dX9_award_80 (by decide) (by decide) (fun c9 => absurd c9 (by decide)) (fun _ => ?_)
      refine lv_iconst (v := nI 0) hx hb dX9_award_83 (by decide) ?_
      refine lv_goto (tgt := 96) hx hb dX9_award_84 (by decide) ?_
      have eM_7 : g_award M (nI t1) (nI k1) = M := by simp [g_award, k_award, m_lt, c_2, kt19, kk19, c_6]
      have eT_8 : k_award M (nI t1) (nI k1) = 2 := by simp [k_award, m_lt, c_2, kt19, kk19, c_6]
      exact W.iret (v := nI 0) hx hb hr (fun U9 ht hW => ⟨⟨_, (), rfl, (show nI 0 = r_award M (nI t1) (nI k1) from by simp [r_award, k_award, m_lt, c_2, kt19, kk19, c_6]), by show va_P D vwCl _ U9.heap; rw [ht, eM_7, eT_8]; exact hP⟩, hS.F ht⟩) hS.2.2 dX9_award_96
    · refine lv_aload_n hx hb dX9_award_40 rfl (lv_at hl 1 rfl) ?_
      refine lv_iload_n hx hb dX9_award_41 rfl (lv_at hl 0 rfl) ?_
      refine vp_callSi (W.runV (As := [.int (nI ((3 * t1) + k1))]) (rest := [.ref (ad 0)]) ⟨hx, hb, hml, hown, hts⟩ (c9_awardFor l D ad cI cZ cC 0 M hM  ((3 * t1) + k1) (by omega)) (cwV 1 hts gX9_award_X9_awardFor rfl rfl rfl kd_X9_awardFor ⟨Nat.le_of_ble_eq_true rfl, Nat.le_of_ble_eq_true rfl⟩) ⟨mB_blind, m_recv hK hP, m_pre hK hP _⟩ rfl rfl hl.1 rfl (lv_room (Nat.le_of_ble_eq_true rfl)) dX9_award_42 ⟨Nat.le_of_ble_eq_true rfl, Nat.le_of_ble_eq_true rfl⟩) (fun r_9 hr_9 => ?_)
      subst hr_9
      rcases ho_10 : m_af M ((3 * t1) + k1) with _ | o_10
      · have hn1 : optI (none : Option Nat) = (-1) := rfl
        rw [hn1]
        refine lv_iconst (v := (-1)) hx hb dX9_award_45 (by decide) ?_
        refine lv_icmp_ne (tgt := 68) hx hb dX9_award_46 (by decide)  (fun c9 => absurd c9 (by decide)) (fun _ => ?_)
        refine lv_aload_n hx hb dX9_award_49 rfl (lv_at hl 1 rfl) ?_
        refine lv_iload_n hx hb dX9_award_50 rfl (lv_at hl 0 rfl) ?_
        refine lv_iconst (v := nI 0) hx hb dX9_award_51 (by decide) ?_
        refine vp_callSi (W.runV (As := [.int (nI ((3 * t1) + k1)), .int (nI 0)]) (rest := [.ref (ad 0)]) ⟨hx, hb, hml, hown, hts⟩ (c9_rankedAt l D ad cI cZ cC 0 M hM  ((3 * t1) + k1) 0 (by omega) (by omega)) (cwV 2 hts gX9_award_X9_rankedAt rfl rfl rfl kd_X9_rankedAt ⟨Nat.le_of_ble_eq_true rfl, Nat.le_of_ble_eq_true rfl⟩) ⟨mB_blind, m_recv hK hP, m_pre hK hP _⟩ rfl rfl hl.1 rfl (lv_room (Nat.le_of_ble_eq_true rfl)) dX9_award_52 ⟨Nat.le_of_ble_eq_true rfl, Nat.le_of_ble_eq_true rfl⟩) (fun r_11 hr_11 => ?_)
        subst hr_11
        rcases ho_12 : m_rk M ((3 * t1) + k1) 0 with _ | o_12
        · have hn1 : optI (none : Option Nat) = (-1) := rfl
          rw [hn1]
          refine lv_iconst (v := (-1)) hx hb dX9_award_55 (by decide) ?_
          refine lv_icmp_eq (tgt := 68) hx hb dX9_award_56 (by decide)  (fun _ => ?_) (fun c9 => absurd c9 (by decide))
          refine lv_iconst (v := nI 2) hx hb dX9_award_68 (by decide) ?_
          refine lv_goto (tgt := 73) hx hb dX9_award_69 (by decide) ?_
          refine m_putT hx hb hts hin hown hK hP hD hS l_thrown dX9_award_73 (fun H locs hP hS => ?_)
          refine lv_aload_n hx hb dX9_award_76 rfl (lv_at hl 1 rfl) ?_
          refine m_get (v := .int (nI 2)) hx hb hts hin hown hK hP 0 (by decide) l_thrown rfl dX9_award_77 ?_
          refine n_if_le (tgt := 87) hx hb dX9_award_80 (by decide) (by decide) (fun c9 => absurd c9 (by decide)) (fun _ => ?_)
          refine lv_iconst (v := nI 0) hx hb dX9_award_83 (by decide) ?_
          refine lv_goto (tgt := 96) hx hb dX9_award_84 (by decide) ?_
          have eM_13 : g_award M (nI t1) (nI k1) = M := by simp [g_award, k_award, m_lt, c_2, kt19, kk19, c_6, ho_10, ho_12]
          have eT_14 : k_award M (nI t1) (nI k1) = 2 := by simp [k_award, m_lt, c_2, kt19, kk19, c_6, ho_10, ho_12]
          exact W.iret (v := nI 0) hx hb hr (fun U9 ht hW => ⟨⟨_, (), rfl, (show nI 0 = r_award M (nI t1) (nI k1) from by simp [r_award, k_award, m_lt, c_2, kt19, kk19, c_6, ho_10, ho_12]), by show va_P D vwCl _ U9.heap; rw [ht, eM_13, eT_14]; exact hP⟩, hS.F ht⟩) hS.2.2 dX9_award_96
        · have hn1 : optI (some o_12) = nI o_12 := rfl
          rw [hn1]
          refine lv_iconst (v := (-1)) hx hb dX9_award_55 (by decide) ?_
          refine lv_icmp_eq (tgt := 68) hx hb dX9_award_56 (by decide) (fun c9 => absurd c9 (nI_nem1 (by have f1 := (m_rkf_lt M ((3 * t1) + k1) 0 8 o_12 ho_12).1; omega))) (fun _ => ?_)
          refine lv_aload_n hx hb dX9_award_59 rfl (lv_at hl 1 rfl) ?_
          refine m_get (v := .int (nI (M 16 0))) hx hb hts hin hown hK hP 16 (by decide) l_awards rfl dX9_award_60 ?_
          refine lv_bipush (v := nI 60) hx hb dX9_award_63 (by decide) ?_
          refine n_icmp_ne (tgt := 72) hx hb dX9_award_65 (by decide) (by have f1 : M 16 0 ≤ 60 := hM 16 0; omega) (by decide) (fun c_15 => ?_) (fun c_15 => ?_)
          · refine lv_iconst (v := nI 0) hx hb dX9_award_72 (by decide) ?_
            refine m_putT hx hb hts hin hown hK hP hD hS l_thrown dX9_award_73 (fun H locs hP hS => ?_)
            refine lv_aload_n hx hb dX9_award_76 rfl (lv_at hl 1 rfl) ?_
            refine m_get (v := .int (nI 0)) hx hb hts hin hown hK hP 0 (by decide) l_thrown rfl dX9_award_77 ?_
            refine n_if_le (tgt := 87) hx hb dX9_award_80 (by decide) (by decide) (fun _ => ?_) (fun c9 => absurd c9 (by decide))
            refine lv_aload_n hx hb dX9_award_87 rfl (lv_at hl 1 rfl) ?_
            refine lv_iconst (v := nI 3) hx hb dX9_award_88 (by decide) ?_
            refine lv_iload_n hx hb dX9_award_89 rfl (lv_at hl 2 rfl) ?_
            refine n_imul hx hb dX9_award_90 (z := 3 * t1) rfl ?_
            refine lv_iload_n hx hb dX9_award_91 rfl (lv_at hl 3 rfl) ?_
            refine n_iadd hx hb dX9_award_92 (z := (3 * t1) + k1) rfl ?_
            refine va_calli (va_runV (As := [.int (nI ((3 * t1) + k1))]) (rest := []) ⟨hx, hb, hml, hown, hts⟩ (c9_gives l D ad cI cZ cC 0 M hM hD  ((3 * t1) + k1) (by omega) (by omega)) (cwV 1 hts gX9_award_X9_gives rfl rfl rfl kd_X9_gives ⟨Nat.le_of_ble_eq_true rfl, Nat.le_of_ble_eq_true rfl⟩) ⟨mB_blind, m_recv hK hP, m_pre hK hP _⟩ rfl rfl hl.1 rfl (lv_room (Nat.le_of_ble_eq_true rfl)) dX9_award_93 ⟨Nat.le_of_ble_eq_true rfl, Nat.le_of_ble_eq_true rfl⟩) hS (fun _ _ h => h) (fun _ h => h) (fun r_16 u U8 H1 locs1 ht hvm hr_16 hP1 hz1 hk1 hS1 => ?_)
            rw [ht] at hP1
            clear hS
            have hS := hS1
            have hP : va_P D vwCl (mws ad cI cZ cC 0 (m_gv M ((3 * t1) + k1))) H1 := hP1
            generalize H1 = H at hP hS ⊢
            have hM_17 : MI (m_gv M ((3 * t1) + k1)) := (MI_gv hM (by omega) (by omega))
            subst hr_16
            have eM_18 : g_award M (nI t1) (nI k1) = m_gv M ((3 * t1) + k1) := by simp [g_award, k_award, m_lt, c_2, kt19, kk19, c_6, ho_10, ho_12, c_15]
            have eT_19 : k_award M (nI t1) (nI k1) = 0 := by simp [k_award, m_lt, c_2, kt19, kk19, c_6, ho_10, ho_12, c_15]
            exact W.iret (v := m_gvr M ((3 * t1) + k1)) hx hb hr (fun U9 ht hW => ⟨⟨_, (), rfl, (show m_gvr M ((3 * t1) + k1) = r_award M (nI t1) (nI k1) from by simp [r_award, k_award, m_lt, c_2, kt19, kk19, c_6, ho_10, ho_12, c_15]), by show va_P D vwCl _ U9.heap; rw [ht, eM_18, eT_19]; exact hP⟩, hS.F ht⟩) hS.2.2 dX9_award_96
          · refine lv_iconst (v := nI 2) hx hb dX9_award_68 (by decide) ?_
            refine lv_goto (tgt := 73) hx hb dX9_award_69 (by decide) ?_
            refine m_putT hx hb hts hin hown hK hP hD hS l_thrown dX9_award_73 (fun H locs hP hS => ?_)
            refine lv_aload_n hx hb dX9_award_76 rfl (lv_at hl 1 rfl) ?_
            refine m_get (v := .int (nI 2)) hx hb hts hin hown hK hP 0 (by decide) l_thrown rfl dX9_award_77 ?_
            refine n_if_le (tgt := 87) hx hb dX9_award_80 (by decide) (by decide) (fun c9 => absurd c9 (by decide)) (fun _ => ?_)
            refine lv_iconst (v := nI 0) hx hb dX9_award_83 (by decide) ?_
            refine lv_goto (tgt := 96) hx hb dX9_award_84 (by decide) ?_
            have eM_20 : g_award M (nI t1) (nI k1) = M := by simp [g_award, k_award, m_lt, c_2, kt19, kk19, c_6, ho_10, ho_12, c_15]
            have eT_21 : k_award M (nI t1) (nI k1) = 2 := by simp [k_award, m_lt, c_2, kt19, kk19, c_6, ho_10, ho_12, c_15]
            exact W.iret (v := nI 0) hx hb hr (fun U9 ht hW => ⟨⟨_, (), rfl, (show nI 0 = r_award M (nI t1) (nI k1) from by simp [r_award, k_award, m_lt, c_2, kt19, kk19, c_6, ho_10, ho_12, c_15]), by show va_P D vwCl _ U9.heap; rw [ht, eM_20, eT_21]; exact hP⟩, hS.F ht⟩) hS.2.2 dX9_award_96
      · have hn1 : optI (some o_10) = nI o_10 := rfl
        rw [hn1]
        refine lv_iconst (v := (-1)) hx hb dX9_award_45 (by decide) ?_
        refine lv_icmp_ne (tgt := 68) hx hb dX9_award_46 (by decide) (fun _ => ?_) (fun c9 => absurd c9 (nI_nem1 (by have f1 := (m_aff_lt M ((3 * t1) + k1) _ o_10 ho_10).1; have f2 : M 16 0 ≤ 60 := hM 16 0; omega)))
        refine lv_iconst (v := nI 2) hx hb dX9_award_68 (by decide) ?_
        refine lv_goto (tgt := 73) hx hb dX9_award_69 (by decide) ?_
        refine m_putT hx hb hts hin hown hK hP hD hS l_thrown dX9_award_73 (fun H locs hP hS => ?_)
        refine lv_aload_n hx hb dX9_award_76 rfl (lv_at hl 1 rfl) ?_
        refine m_get (v := .int (nI 2)) hx hb hts hin hown hK hP 0 (by decide) l_thrown rfl dX9_award_77 ?_
        refine n_if_le (tgt := 87) hx hb dX9_award_80 (by decide) (by decide) (fun c9 => absurd c9 (by decide)) (fun _ => ?_)
        refine lv_iconst (v := nI 0) hx hb dX9_award_83 (by decide) ?_
        refine lv_goto (tgt := 96) hx hb dX9_award_84 (by decide) ?_
        have eM_22 : g_award M (nI t1) (nI k1) = M := by simp [g_award, k_award, m_lt, c_2, kt19, kk19, c_6, ho_10]
        have eT_23 : k_award M (nI t1) (nI k1) = 2 := by simp [k_award, m_lt, c_2, kt19, kk19, c_6, ho_10]
        exact W.iret (v := nI 0) hx hb hr (fun U9 ht hW => ⟨⟨_, (), rfl, (show nI 0 = r_award M (nI t1) (nI k1) from by simp [r_award, k_award, m_lt, c_2, kt19, kk19, c_6, ho_10]), by show va_P D vwCl _ U9.heap; rw [ht, eM_22, eT_23]; exact hP⟩, hS.F ht⟩) hS.2.2 dX9_award_96
set_option maxHeartbeats 4000000 in
set_option maxRecDepth 100000 in
theorem c9_awardOf (l : Launch) (D : va_G) (ad : Nat → Nat) (cI cZ cC : ClassId) (th : Nat) (M : MS) (hM : MI M) {A : Nat → Prop} (hD : mDis A ad) (t : Int32) (k : Int32) : Met l yX9_awardOf wsX9_awardOf ({ frames := 3, cells := 0, slots := 0, locals := 65 }) (va_Pc [.ref (ad 0), .int t, .int k] (mB D ad cI cZ cC th M)) (va_Qi (fun (r : Int32) (_ : Unit) => r = r_awardOf M t k) (fun _ U9 => va_P D vwCl (mws ad cI cZ cC (k_lot M t k) M) U9.heap) A) 0 0 A := by
  refine Met.ofW (cc := cX9_awardOf) (maxL := 3) (ret := (some .int)) (by decide) rfl ?_
  intro p e s m args below meth c s₁ B hml hv
  obtain ⟨rfl, hP, hK⟩ := hv
  have hx := B.exec
  have hb := B.bytes
  have hr := B.returns
  have hts := atoms_spec (ws := wsX9_awardOf) B.pre
  have hown : s.vm.findClass RX9 = some m.cls := findClass_of_methodNamed B.named
  have hlocks := B.notSynchronized
  have hin : ∀ w ∈ wsX90, w ∈ wsX9_awardOf := fun w h => List.mem_cons_of_mem _ (List.mem_append_right _ h)
  have l_thrown := (hts (.fieldLink RX9 93 "TenderHallModel" "thrown" "I") (List.mem_of_getElem? (i := 1) rfl))
  have hS : va_S A s.heap s.heap [] := va_S.rf
  have hl := lv_entry ([.ref (ad 0), .int t, .int k]) (n := 3) (Nat.le_of_ble_eq_true rfl)
  rw [lg_entry_eq]
  generalize (lg_sl ([.ref (ad 0), .int t, .int k]) ++ List.replicate (3 - (lg_sl ([.ref (ad 0), .int t, .int k])).length) Slot.unset).toArray = ls at hl ⊢
  have hl : lv_has ls 3 [(0, .ref (ad 0)), (1, .int t), (2, .int k)] := hl
  have h36 : M 3 0 ≤ 6 := hM 3 0
  have h160 : M 16 0 ≤ 60 := hM 16 0
  have h220 : M 22 0 ≤ 60 := hM 22 0
  have h290 : M 29 0 ≤ 60 := hM 29 0
  have h120 : M 1 0 ≤ 2000 := hM 1 0
  refine lv_aload_n hx hb dX9_awardOf_0 rfl (lv_at hl 0 rfl) ?_
  refine lv_aload_n hx hb dX9_awardOf_1 rfl (lv_at hl 0 rfl) ?_
  refine lv_iload_n hx hb dX9_awardOf_2 rfl (lv_at hl 1 rfl) ?_
  refine lv_iload_n hx hb dX9_awardOf_3 rfl (lv_at hl 2 rfl) ?_
  refine vp_callSi (W.runV (As := [.int t, .int k]) (rest := [.ref (ad 0)]) ⟨hx, hb, hml, hown, hts⟩ (c9_isLot l D ad cI cZ cC th M hM  t k) (cwV 2 hts gX9_awardOf_X9_isLot rfl rfl rfl kd_X9_isLot ⟨Nat.le_of_ble_eq_true rfl, Nat.le_of_ble_eq_true rfl⟩) ⟨mB_blind, m_recv hK hP, m_pre hK hP _⟩ rfl rfl hl.1 rfl (lv_room (Nat.le_of_ble_eq_true rfl)) dX9_awardOf_4 ⟨Nat.le_of_ble_eq_true rfl, Nat.le_of_ble_eq_true rfl⟩) (fun r_1 hr_1 => ?_)
  subst hr_1
  refine b_if_eq (tgt := 14) hx hb dX9_awardOf_7 (by decide)  (fun c_2 => ?_) (fun c_2 => ?_)
  · refine lv_iconst (v := nI 1) hx hb dX9_awardOf_14 (by decide) ?_
    refine m_putT hx hb hts hin hown hK hP hD hS l_thrown dX9_awardOf_15 (fun H locs hP hS => ?_)
    refine lv_aload_n hx hb dX9_awardOf_18 rfl (lv_at hl 0 rfl) ?_
    refine m_get (v := .int (nI 1)) hx hb hts hin hown hK hP 0 (by decide) l_thrown rfl dX9_awardOf_19 ?_
    refine n_if_le (tgt := 29) hx hb dX9_awardOf_22 (by decide) (by decide) (fun c9 => absurd c9 (by decide)) (fun _ => ?_)
    refine lv_iconst (v := nI 0) hx hb dX9_awardOf_25 (by decide) ?_
    refine lv_goto (tgt := 38) hx hb dX9_awardOf_26 (by decide) ?_
    have eT_3 : k_lot M t k = 1 := by simp [k_lot, m_lt, c_2]
    exact W.iret (v := nI 0) hx hb hr (fun U9 ht hW => ⟨⟨_, (), rfl, (show nI 0 = r_awardOf M t k from by simp [r_awardOf, optI, k_lot, m_lt, c_2]), by show va_P D vwCl _ U9.heap; rw [ht, eT_3]; exact hP⟩, hS.F ht⟩) hS.2.2 dX9_awardOf_38
  · obtain ⟨t1, k1, ht1, hk1, rfl, rfl⟩ := m_isLot_of hM c_2
    have ht16 : t1 < 6 := by have f1 : M 3 0 ≤ 6 := hM 3 0; omega
    have hk13 : k1 < 3 := by have f1 : M 8 t1 ≤ 3 := hM 8 t1; omega
    have kt19 : (nI t1).toNatClampNeg = t1 := nI_clamp (by omega)
    have kk19 : (nI k1).toNatClampNeg = k1 := nI_clamp (by omega)
    refine lv_iconst (v := nI 0) hx hb dX9_awardOf_10 (by decide) ?_
    refine lv_goto (tgt := 15) hx hb dX9_awardOf_11 (by decide) ?_
    refine m_putT hx hb hts hin hown hK hP hD hS l_thrown dX9_awardOf_15 (fun H locs hP hS => ?_)
    refine lv_aload_n hx hb dX9_awardOf_18 rfl (lv_at hl 0 rfl) ?_
    refine m_get (v := .int (nI 0)) hx hb hts hin hown hK hP 0 (by decide) l_thrown rfl dX9_awardOf_19 ?_
    refine n_if_le (tgt := 29) hx hb dX9_awardOf_22 (by decide) (by decide) (fun _ => ?_) (fun c9 => absurd c9 (by decide))
    refine lv_aload_n hx hb dX9_awardOf_29 rfl (lv_at hl 0 rfl) ?_
    refine lv_iconst (v := nI 3) hx hb dX9_awardOf_30 (by decide) ?_
    refine lv_iload_n hx hb dX9_awardOf_31 rfl (lv_at hl 1 rfl) ?_
    refine n_imul hx hb dX9_awardOf_32 (z := 3 * t1) rfl ?_
    refine lv_iload_n hx hb dX9_awardOf_33 rfl (lv_at hl 2 rfl) ?_
    refine n_iadd hx hb dX9_awardOf_34 (z := (3 * t1) + k1) rfl ?_
    refine vp_callSi (W.runV (As := [.int (nI ((3 * t1) + k1))]) (rest := []) ⟨hx, hb, hml, hown, hts⟩ (c9_awardFor l D ad cI cZ cC 0 M hM  ((3 * t1) + k1) (by omega)) (cwV 1 hts gX9_awardOf_X9_awardFor rfl rfl rfl kd_X9_awardFor ⟨Nat.le_of_ble_eq_true rfl, Nat.le_of_ble_eq_true rfl⟩) ⟨mB_blind, m_recv hK hP, m_pre hK hP _⟩ rfl rfl hl.1 rfl (lv_room (Nat.le_of_ble_eq_true rfl)) dX9_awardOf_35 ⟨Nat.le_of_ble_eq_true rfl, Nat.le_of_ble_eq_true rfl⟩) (fun r_4 hr_4 => ?_)
    subst hr_4
    rcases ho_5 : m_af M ((3 * t1) + k1) with _ | o_5
    · have hn1 : optI (none : Option Nat) = (-1) := rfl
      rw [hn1]
      have eT_6 : k_lot M (nI t1) (nI k1) = 0 := by simp [k_lot, m_lt, c_2, kt19, kk19, ho_5]
      exact W.iret (v := (-1)) hx hb hr (fun U9 ht hW => ⟨⟨_, (), rfl, (show (-1) = r_awardOf M (nI t1) (nI k1) from by simp [r_awardOf, optI, k_lot, m_lt, c_2, kt19, kk19, ho_5]), by show va_P D vwCl _ U9.heap; rw [ht, eT_6]; exact hP⟩, hS.F ht⟩) hS.2.2 dX9_awardOf_38
    · have hn1 : optI (some o_5) = nI o_5 := rfl
      rw [hn1]
      have eT_7 : k_lot M (nI t1) (nI k1) = 0 := by simp [k_lot, m_lt, c_2, kt19, kk19, ho_5]
      exact W.iret (v := nI o_5) hx hb hr (fun U9 ht hW => ⟨⟨_, (), rfl, (show nI o_5 = r_awardOf M (nI t1) (nI k1) from by simp [r_awardOf, optI, k_lot, m_lt, c_2, kt19, kk19, ho_5]), by show va_P D vwCl _ U9.heap; rw [ht, eT_7]; exact hP⟩, hS.F ht⟩) hS.2.2 dX9_awardOf_38
set_option maxHeartbeats 4000000 in
set_option maxRecDepth 100000 in
theorem c9_winnerAnew (l : Launch) (D : va_G) (ad : Nat → Nat) (cI cZ cC : ClassId) (th : Nat) (M : MS) (hM : MI M) {A : Nat → Prop} (hD : mDis A ad) (t : Int32) (k : Int32) : Met l yX9_winnerAnew wsX9_winnerAnew ({ frames := 5, cells := 0, slots := 0, locals := 118 }) (va_Pc [.ref (ad 0), .int t, .int k] (mB D ad cI cZ cC th M)) (va_Qi (fun (r : Int32) (_ : Unit) => r = r_winnerAnew M t k) (fun _ U9 => va_P D vwCl (mws ad cI cZ cC (k_lot M t k) M) U9.heap) A) 0 0 A := by
  refine Met.ofW (cc := cX9_winnerAnew) (maxL := 3) (ret := (some .int)) (by decide) rfl ?_
  intro p e s m args below meth c s₁ B hml hv
  obtain ⟨rfl, hP, hK⟩ := hv
  have hx := B.exec
  have hb := B.bytes
  have hr := B.returns
  have hts := atoms_spec (ws := wsX9_winnerAnew) B.pre
  have hown : s.vm.findClass RX9 = some m.cls := findClass_of_methodNamed B.named
  have hlocks := B.notSynchronized
  have hin : ∀ w ∈ wsX90, w ∈ wsX9_winnerAnew := fun w h => List.mem_cons_of_mem _ (List.mem_append_right _ h)
  have l_thrown := (hts (.fieldLink RX9 93 "TenderHallModel" "thrown" "I") (List.mem_of_getElem? (i := 1) rfl))
  have hS : va_S A s.heap s.heap [] := va_S.rf
  have hl := lv_entry ([.ref (ad 0), .int t, .int k]) (n := 3) (Nat.le_of_ble_eq_true rfl)
  rw [lg_entry_eq]
  generalize (lg_sl ([.ref (ad 0), .int t, .int k]) ++ List.replicate (3 - (lg_sl ([.ref (ad 0), .int t, .int k])).length) Slot.unset).toArray = ls at hl ⊢
  have hl : lv_has ls 3 [(0, .ref (ad 0)), (1, .int t), (2, .int k)] := hl
  have h36 : M 3 0 ≤ 6 := hM 3 0
  have h160 : M 16 0 ≤ 60 := hM 16 0
  have h220 : M 22 0 ≤ 60 := hM 22 0
  have h290 : M 29 0 ≤ 60 := hM 29 0
  have h120 : M 1 0 ≤ 2000 := hM 1 0
  refine lv_aload_n hx hb dX9_winnerAnew_0 rfl (lv_at hl 0 rfl) ?_
  refine lv_aload_n hx hb dX9_winnerAnew_1 rfl (lv_at hl 0 rfl) ?_
  refine lv_iload_n hx hb dX9_winnerAnew_2 rfl (lv_at hl 1 rfl) ?_
  refine lv_iload_n hx hb dX9_winnerAnew_3 rfl (lv_at hl 2 rfl) ?_
  refine vp_callSi (W.runV (As := [.int t, .int k]) (rest := [.ref (ad 0)]) ⟨hx, hb, hml, hown, hts⟩ (c9_isLot l D ad cI cZ cC th M hM  t k) (cwV 2 hts gX9_winnerAnew_X9_isLot rfl rfl rfl kd_X9_isLot ⟨Nat.le_of_ble_eq_true rfl, Nat.le_of_ble_eq_true rfl⟩) ⟨mB_blind, m_recv hK hP, m_pre hK hP _⟩ rfl rfl hl.1 rfl (lv_room (Nat.le_of_ble_eq_true rfl)) dX9_winnerAnew_4 ⟨Nat.le_of_ble_eq_true rfl, Nat.le_of_ble_eq_true rfl⟩) (fun r_1 hr_1 => ?_)
  subst hr_1
  refine b_if_eq (tgt := 14) hx hb dX9_winnerAnew_7 (by decide)  (fun c_2 => ?_) (fun c_2 => ?_)
  · refine lv_iconst (v := nI 1) hx hb dX9_winnerAnew_14 (by decide) ?_
    refine m_putT hx hb hts hin hown hK hP hD hS l_thrown dX9_winnerAnew_15 (fun H locs hP hS => ?_)
    refine lv_aload_n hx hb dX9_winnerAnew_18 rfl (lv_at hl 0 rfl) ?_
    refine m_get (v := .int (nI 1)) hx hb hts hin hown hK hP 0 (by decide) l_thrown rfl dX9_winnerAnew_19 ?_
    refine n_if_le (tgt := 29) hx hb dX9_winnerAnew_22 (by decide) (by decide) (fun c9 => absurd c9 (by decide)) (fun _ => ?_)
    refine lv_iconst (v := nI 0) hx hb dX9_winnerAnew_25 (by decide) ?_
    refine lv_goto (tgt := 39) hx hb dX9_winnerAnew_26 (by decide) ?_
    have eT_3 : k_lot M t k = 1 := by simp [k_lot, m_lt, c_2]
    exact W.iret (v := nI 0) hx hb hr (fun U9 ht hW => ⟨⟨_, (), rfl, (show nI 0 = r_winnerAnew M t k from by simp [r_winnerAnew, optI, k_lot, m_lt, c_2]), by show va_P D vwCl _ U9.heap; rw [ht, eT_3]; exact hP⟩, hS.F ht⟩) hS.2.2 dX9_winnerAnew_39
  · obtain ⟨t1, k1, ht1, hk1, rfl, rfl⟩ := m_isLot_of hM c_2
    have ht16 : t1 < 6 := by have f1 : M 3 0 ≤ 6 := hM 3 0; omega
    have hk13 : k1 < 3 := by have f1 : M 8 t1 ≤ 3 := hM 8 t1; omega
    have kt19 : (nI t1).toNatClampNeg = t1 := nI_clamp (by omega)
    have kk19 : (nI k1).toNatClampNeg = k1 := nI_clamp (by omega)
    refine lv_iconst (v := nI 0) hx hb dX9_winnerAnew_10 (by decide) ?_
    refine lv_goto (tgt := 15) hx hb dX9_winnerAnew_11 (by decide) ?_
    refine m_putT hx hb hts hin hown hK hP hD hS l_thrown dX9_winnerAnew_15 (fun H locs hP hS => ?_)
    refine lv_aload_n hx hb dX9_winnerAnew_18 rfl (lv_at hl 0 rfl) ?_
    refine m_get (v := .int (nI 0)) hx hb hts hin hown hK hP 0 (by decide) l_thrown rfl dX9_winnerAnew_19 ?_
    refine n_if_le (tgt := 29) hx hb dX9_winnerAnew_22 (by decide) (by decide) (fun _ => ?_) (fun c9 => absurd c9 (by decide))
    refine lv_aload_n hx hb dX9_winnerAnew_29 rfl (lv_at hl 0 rfl) ?_
    refine lv_iconst (v := nI 3) hx hb dX9_winnerAnew_30 (by decide) ?_
    refine lv_iload_n hx hb dX9_winnerAnew_31 rfl (lv_at hl 1 rfl) ?_
    refine n_imul hx hb dX9_winnerAnew_32 (z := 3 * t1) rfl ?_
    refine lv_iload_n hx hb dX9_winnerAnew_33 rfl (lv_at hl 2 rfl) ?_
    refine n_iadd hx hb dX9_winnerAnew_34 (z := (3 * t1) + k1) rfl ?_
    refine lv_iconst (v := nI 0) hx hb dX9_winnerAnew_35 (by decide) ?_
    refine vp_callSi (W.runV (As := [.int (nI ((3 * t1) + k1)), .int (nI 0)]) (rest := []) ⟨hx, hb, hml, hown, hts⟩ (c9_rankedAt l D ad cI cZ cC 0 M hM  ((3 * t1) + k1) 0 (by omega) (by omega)) (cwV 2 hts gX9_winnerAnew_X9_rankedAt rfl rfl rfl kd_X9_rankedAt ⟨Nat.le_of_ble_eq_true rfl, Nat.le_of_ble_eq_true rfl⟩) ⟨mB_blind, m_recv hK hP, m_pre hK hP _⟩ rfl rfl hl.1 rfl (lv_room (Nat.le_of_ble_eq_true rfl)) dX9_winnerAnew_36 ⟨Nat.le_of_ble_eq_true rfl, Nat.le_of_ble_eq_true rfl⟩) (fun r_4 hr_4 => ?_)
    subst hr_4
    rcases ho_5 : m_rk M ((3 * t1) + k1) 0 with _ | o_5
    · have hn1 : optI (none : Option Nat) = (-1) := rfl
      rw [hn1]
      have eT_6 : k_lot M (nI t1) (nI k1) = 0 := by simp [k_lot, m_lt, c_2, kt19, kk19, ho_5]
      exact W.iret (v := (-1)) hx hb hr (fun U9 ht hW => ⟨⟨_, (), rfl, (show (-1) = r_winnerAnew M (nI t1) (nI k1) from by simp [r_winnerAnew, optI, k_lot, m_lt, c_2, kt19, kk19, ho_5]), by show va_P D vwCl _ U9.heap; rw [ht, eT_6]; exact hP⟩, hS.F ht⟩) hS.2.2 dX9_winnerAnew_39
    · have hn1 : optI (some o_5) = nI o_5 := rfl
      rw [hn1]
      have eT_7 : k_lot M (nI t1) (nI k1) = 0 := by simp [k_lot, m_lt, c_2, kt19, kk19, ho_5]
      exact W.iret (v := nI o_5) hx hb hr (fun U9 ht hW => ⟨⟨_, (), rfl, (show nI o_5 = r_winnerAnew M (nI t1) (nI k1) from by simp [r_winnerAnew, optI, k_lot, m_lt, c_2, kt19, kk19, ho_5]), by show va_P D vwCl _ U9.heap; rw [ht, eT_7]; exact hP⟩, hS.F ht⟩) hS.2.2 dX9_winnerAnew_39
set_option maxHeartbeats 4000000 in
set_option maxRecDepth 100000 in
theorem c9_asksAward (l : Launch) (D : va_G) (ad : Nat → Nat) (cI cZ cC : ClassId) (th : Nat) (M : MS) (hM : MI M) {A : Nat → Prop} (hD : mDis A ad) (a : Int32) : Met l yX9_asksAward wsX9_asksAward ({ frames := 1, cells := 0, slots := 0, locals := 22 }) (va_Pc [.ref (ad 0), .int a] (mB D ad cI cZ cC th M)) (va_Qi (fun (r : Int32) (_ : Unit) => r = bi (isIx a (M 16 0))) (fun _ U9 => va_P D vwCl (mws ad cI cZ cC (k_aw M a) M) U9.heap) A) 0 0 A := by
  refine Met.ofW (cc := cX9_asksAward) (maxL := 2) (ret := (some .boolean)) (by decide) rfl ?_
  intro p e s m args below meth c s₁ B hml hv
  obtain ⟨rfl, hP, hK⟩ := hv
  have hx := B.exec
  have hb := B.bytes
  have hr := B.returns
  have hts := atoms_spec (ws := wsX9_asksAward) B.pre
  have hown : s.vm.findClass RX9 = some m.cls := findClass_of_methodNamed B.named
  have hlocks := B.notSynchronized
  have hin : ∀ w ∈ wsX90, w ∈ wsX9_asksAward := fun w h => List.mem_cons_of_mem _ (List.mem_append_right _ h)
  have l_awards := (hts (.fieldLink RX9 157 "TenderHallModel" "awards" "I") (List.mem_of_getElem? (i := 1) rfl))
  have l_thrown := (hts (.fieldLink RX9 93 "TenderHallModel" "thrown" "I") (List.mem_of_getElem? (i := 2) rfl))
  have hS : va_S A s.heap s.heap [] := va_S.rf
  have hl := lv_entry ([.ref (ad 0), .int a]) (n := 2) (Nat.le_of_ble_eq_true rfl)
  rw [lg_entry_eq]
  generalize (lg_sl ([.ref (ad 0), .int a]) ++ List.replicate (2 - (lg_sl ([.ref (ad 0), .int a])).length) Slot.unset).toArray = ls at hl ⊢
  have hl : lv_has ls 2 [(0, .ref (ad 0)), (1, .int a)] := hl
  have h36 : M 3 0 ≤ 6 := hM 3 0
  have h160 : M 16 0 ≤ 60 := hM 16 0
  have h220 : M 22 0 ≤ 60 := hM 22 0
  have h290 : M 29 0 ≤ 60 := hM 29 0
  have h120 : M 1 0 ≤ 2000 := hM 1 0
  refine lv_aload_n hx hb dX9_asksAward_0 rfl (lv_at hl 0 rfl) ?_
  refine lv_iload_n hx hb dX9_asksAward_1 rfl (lv_at hl 1 rfl) ?_
  refine lv_iconst (v := nI 0) hx hb dX9_asksAward_2 (by decide) ?_
  refine lv_aload_n hx hb dX9_asksAward_3 rfl (lv_at hl 0 rfl) ?_
  refine m_get (v := .int (nI (M 16 0))) hx hb hts hin hown hK hP 16 (by decide) l_awards rfl dX9_asksAward_4 ?_
  refine lv_iconst (v := nI 1) hx hb dX9_asksAward_7 (by decide) ?_
  refine lv_isub hx hb dX9_asksAward_8 ?_
  refine vp_callSi (W.runS (As := [.int a, .int (nI 0), .int ((nI (M 16 0)) - (nI 1))]) (rest := [.ref (ad 0)]) ⟨hx, hb, hml, hown, hts⟩ (c9_in l  a (nI 0) ((nI (M 16 0)) - (nI 1))) (va_cwS 3 hts gX9_asksAward_X9_in rfl rfl rfl kd_X9_in ⟨Nat.le_of_ble_eq_true rfl, Nat.le_of_ble_eq_true rfl⟩) ⟨fun _ _ _ _ q => q, fun U hU hW => ⟨rfl, trivial⟩⟩ rfl rfl hl.1 rfl (lv_room (Nat.le_of_ble_eq_true rfl)) dX9_asksAward_9 ⟨Nat.le_of_ble_eq_true rfl, Nat.le_of_ble_eq_true rfl⟩) (fun r_1 hr_1 => ?_)
  subst hr_1
  refine b_if_eq (tgt := 19) hx hb dX9_asksAward_12 (by decide)  (fun c_2 => ?_) (fun c_2 => ?_)
  · have cc_3 : isIx a (M 16 0) = false := c_2
    refine lv_iconst (v := nI 1) hx hb dX9_asksAward_19 (by decide) ?_
    refine m_putT hx hb hts hin hown hK hP hD hS l_thrown dX9_asksAward_20 (fun H locs hP hS => ?_)
    refine lv_aload_n hx hb dX9_asksAward_23 rfl (lv_at hl 0 rfl) ?_
    refine m_get (v := .int (nI 1)) hx hb hts hin hown hK hP 0 (by decide) l_thrown rfl dX9_asksAward_24 ?_
    refine n_if_ne (tgt := 34) hx hb dX9_asksAward_27 (by decide) (by decide) (fun _ => ?_) (fun c9 => absurd c9 (by decide))
    refine lv_iconst (v := nI 0) hx hb dX9_asksAward_34 (by decide) ?_
    have eT_4 : k_aw M a = 1 := by simp [k_aw, cc_3]
    exact W.zret (v := nI 0) hx hb hr rfl (fun U9 ht hW => ⟨⟨_, (), rfl, bi_zero (by simp [cc_3]), by show va_P D vwCl _ U9.heap; rw [ht, eT_4]; exact hP⟩, hS.F ht⟩) hS.2.2 dX9_asksAward_35
  · have cc_5 : isIx a (M 16 0) = true := c_2
    refine lv_iconst (v := nI 0) hx hb dX9_asksAward_15 (by decide) ?_
    refine lv_goto (tgt := 20) hx hb dX9_asksAward_16 (by decide) ?_
    refine m_putT hx hb hts hin hown hK hP hD hS l_thrown dX9_asksAward_20 (fun H locs hP hS => ?_)
    refine lv_aload_n hx hb dX9_asksAward_23 rfl (lv_at hl 0 rfl) ?_
    refine m_get (v := .int (nI 0)) hx hb hts hin hown hK hP 0 (by decide) l_thrown rfl dX9_asksAward_24 ?_
    refine n_if_ne (tgt := 34) hx hb dX9_asksAward_27 (by decide) (by decide) (fun c9 => absurd c9 (by decide)) (fun _ => ?_)
    refine lv_iconst (v := nI 1) hx hb dX9_asksAward_30 (by decide) ?_
    refine lv_goto (tgt := 35) hx hb dX9_asksAward_31 (by decide) ?_
    have eT_6 : k_aw M a = 0 := by simp [k_aw, cc_5]
    exact W.zret (v := nI 1) hx hb hr rfl (fun U9 ht hW => ⟨⟨_, (), rfl, bi_one (by simp [cc_5]), by show va_P D vwCl _ U9.heap; rw [ht, eT_6]; exact hP⟩, hS.F ht⟩) hS.2.2 dX9_asksAward_35
set_option maxHeartbeats 4000000 in
set_option maxRecDepth 100000 in
theorem c9_winner (l : Launch) (D : va_G) (ad : Nat → Nat) (cI cZ cC : ClassId) (th : Nat) (M : MS) (hM : MI M) {A : Nat → Prop} (hD : mDis A ad) (a : Int32) : Met l yX9_winner wsX9_winner ({ frames := 2, cells := 0, slots := 0, locals := 43 }) (va_Pc [.ref (ad 0), .int a] (mB D ad cI cZ cC th M)) (va_Qi (fun (r : Int32) (_ : Unit) => r = r_winner M a) (fun _ U9 => va_P D vwCl (mws ad cI cZ cC (k_aw M a) M) U9.heap) A) 0 0 A := by
  refine Met.ofW (cc := cX9_winner) (maxL := 2) (ret := (some .int)) (by decide) rfl ?_
  intro p e s m args below meth c s₁ B hml hv
  obtain ⟨rfl, hP, hK⟩ := hv
  have hx := B.exec
  have hb := B.bytes
  have hr := B.returns
  have hts := atoms_spec (ws := wsX9_winner) B.pre
  have hown : s.vm.findClass RX9 = some m.cls := findClass_of_methodNamed B.named
  have hlocks := B.notSynchronized
  have hin : ∀ w ∈ wsX90, w ∈ wsX9_winner := fun w h => List.mem_cons_of_mem _ (List.mem_append_right _ h)
  have l_won := (hts (.fieldLink RX9 50 "TenderHallModel" "won" "[I") (List.mem_of_getElem? (i := 1) rfl))
  have hS : va_S A s.heap s.heap [] := va_S.rf
  have hl := lv_entry ([.ref (ad 0), .int a]) (n := 2) (Nat.le_of_ble_eq_true rfl)
  rw [lg_entry_eq]
  generalize (lg_sl ([.ref (ad 0), .int a]) ++ List.replicate (2 - (lg_sl ([.ref (ad 0), .int a])).length) Slot.unset).toArray = ls at hl ⊢
  have hl : lv_has ls 2 [(0, .ref (ad 0)), (1, .int a)] := hl
  have h36 : M 3 0 ≤ 6 := hM 3 0
  have h160 : M 16 0 ≤ 60 := hM 16 0
  have h220 : M 22 0 ≤ 60 := hM 22 0
  have h290 : M 29 0 ≤ 60 := hM 29 0
  have h120 : M 1 0 ≤ 2000 := hM 1 0
  refine lv_aload_n hx hb dX9_winner_0 rfl (lv_at hl 0 rfl) ?_
  refine lv_iload_n hx hb dX9_winner_1 rfl (lv_at hl 1 rfl) ?_
  refine va_calli (va_runV (As := [.int a]) (rest := []) ⟨hx, hb, hml, hown, hts⟩ (c9_asksAward l D ad cI cZ cC th M hM hD  a) (cwV 1 hts gX9_winner_X9_asksAward rfl rfl rfl kd_X9_asksAward ⟨Nat.le_of_ble_eq_true rfl, Nat.le_of_ble_eq_true rfl⟩) ⟨mB_blind, m_recv hK hP, m_pre hK hP _⟩ rfl rfl hl.1 rfl (lv_room (Nat.le_of_ble_eq_true rfl)) dX9_winner_2 ⟨Nat.le_of_ble_eq_true rfl, Nat.le_of_ble_eq_true rfl⟩) hS (fun _ _ h => h) (fun _ h => h) (fun r_1 u U8 H1 locs1 ht hvm hr_1 hP1 hz1 hk1 hS1 => ?_)
  rw [ht] at hP1
  clear hS
  have hS := hS1
  have hP : va_P D vwCl (mws ad cI cZ cC (k_aw M a) M) H1 := hP1
  generalize H1 = H at hP hS ⊢
  subst hr_1
  refine b_if_eq (tgt := 17) hx hb dX9_winner_5 (by decide)  (fun c_2 => ?_) (fun c_2 => ?_)
  · refine lv_iconst (v := nI 0) hx hb dX9_winner_17 (by decide) ?_
    exact W.iret (v := nI 0) hx hb hr (fun U9 ht hW => ⟨⟨_, (), rfl, (show nI 0 = r_winner M a from by simp [r_winner, c_2]), by show va_P D vwCl _ U9.heap; rw [ht]; exact hP⟩, hS.F ht⟩) hS.2.2 dX9_winner_18
  · obtain ⟨a1, ha1, rfl⟩ := isIx_of (by omega) c_2
    have ka19 : (nI a1).toNatClampNeg = a1 := nI_clamp (by omega)
    refine lv_aload_n hx hb dX9_winner_8 rfl (lv_at hl 0 rfl) ?_
    refine m_get hx hb hts hin hown hK hP 18 (by decide) l_won rfl dX9_winner_9 ?_
    refine lv_iload_n hx hb dX9_winner_12 rfl (lv_at hl 1 rfl) ?_
    refine m_iald (f := 18) hx hb hK hP 14 rfl (by omega) (by decide) dX9_winner_13 ?_
    refine lv_goto (tgt := 18) hx hb dX9_winner_14 (by decide) ?_
    have eT_3 : k_aw M (nI a1) = k_aw M ((nI a1)) := by simp [c_2, ka19]
    exact W.iret (v := nI (M 18 a1)) hx hb hr (fun U9 ht hW => ⟨⟨_, (), rfl, (show nI (M 18 a1) = r_winner M (nI a1) from by simp [r_winner, c_2, ka19]), by show va_P D vwCl _ U9.heap; rw [ht, eT_3]; exact hP⟩, hS.F ht⟩) hS.2.2 dX9_winner_18
set_option maxHeartbeats 4000000 in
set_option maxRecDepth 100000 in
theorem c9_isVoid (l : Launch) (D : va_G) (ad : Nat → Nat) (cI cZ cC : ClassId) (th : Nat) (M : MS) (hM : MI M) {A : Nat → Prop} (hD : mDis A ad) (a : Int32) : Met l yX9_isVoid wsX9_isVoid ({ frames := 2, cells := 0, slots := 0, locals := 43 }) (va_Pc [.ref (ad 0), .int a] (mB D ad cI cZ cC th M)) (va_Qi (fun (r : Int32) (_ : Unit) => r = bi (r_isVoid M a)) (fun _ U9 => va_P D vwCl (mws ad cI cZ cC (k_aw M a) M) U9.heap) A) 0 0 A := by
  refine Met.ofW (cc := cX9_isVoid) (maxL := 2) (ret := (some .boolean)) (by decide) rfl ?_
  intro p e s m args below meth c s₁ B hml hv
  obtain ⟨rfl, hP, hK⟩ := hv
  have hx := B.exec
  have hb := B.bytes
  have hr := B.returns
  have hts := atoms_spec (ws := wsX9_isVoid) B.pre
  have hown : s.vm.findClass RX9 = some m.cls := findClass_of_methodNamed B.named
  have hlocks := B.notSynchronized
  have hin : ∀ w ∈ wsX90, w ∈ wsX9_isVoid := fun w h => List.mem_cons_of_mem _ (List.mem_append_right _ h)
  have l_isVoid := (hts (.fieldLink RX9 56 "TenderHallModel" "isVoid" "[Z") (List.mem_of_getElem? (i := 1) rfl))
  have hS : va_S A s.heap s.heap [] := va_S.rf
  have hl := lv_entry ([.ref (ad 0), .int a]) (n := 2) (Nat.le_of_ble_eq_true rfl)
  rw [lg_entry_eq]
  generalize (lg_sl ([.ref (ad 0), .int a]) ++ List.replicate (2 - (lg_sl ([.ref (ad 0), .int a])).length) Slot.unset).toArray = ls at hl ⊢
  have hl : lv_has ls 2 [(0, .ref (ad 0)), (1, .int a)] := hl
  have h36 : M 3 0 ≤ 6 := hM 3 0
  have h160 : M 16 0 ≤ 60 := hM 16 0
  have h220 : M 22 0 ≤ 60 := hM 22 0
  have h290 : M 29 0 ≤ 60 := hM 29 0
  have h120 : M 1 0 ≤ 2000 := hM 1 0
  refine lv_aload_n hx hb dX9_isVoid_0 rfl (lv_at hl 0 rfl) ?_
  refine lv_iload_n hx hb dX9_isVoid_1 rfl (lv_at hl 1 rfl) ?_
  refine va_calli (va_runV (As := [.int a]) (rest := []) ⟨hx, hb, hml, hown, hts⟩ (c9_asksAward l D ad cI cZ cC th M hM hD  a) (cwV 1 hts gX9_isVoid_X9_asksAward rfl rfl rfl kd_X9_asksAward ⟨Nat.le_of_ble_eq_true rfl, Nat.le_of_ble_eq_true rfl⟩) ⟨mB_blind, m_recv hK hP, m_pre hK hP _⟩ rfl rfl hl.1 rfl (lv_room (Nat.le_of_ble_eq_true rfl)) dX9_isVoid_2 ⟨Nat.le_of_ble_eq_true rfl, Nat.le_of_ble_eq_true rfl⟩) hS (fun _ _ h => h) (fun _ h => h) (fun r_1 u U8 H1 locs1 ht hvm hr_1 hP1 hz1 hk1 hS1 => ?_)
  rw [ht] at hP1
  clear hS
  have hS := hS1
  have hP : va_P D vwCl (mws ad cI cZ cC (k_aw M a) M) H1 := hP1
  generalize H1 = H at hP hS ⊢
  subst hr_1
  refine b_if_eq (tgt := 21) hx hb dX9_isVoid_5 (by decide)  (fun c_2 => ?_) (fun c_2 => ?_)
  · refine lv_iconst (v := nI 0) hx hb dX9_isVoid_21 (by decide) ?_
    exact W.zret (v := nI 0) hx hb hr rfl (fun U9 ht hW => ⟨⟨_, (), rfl, bi_zero (by simp [r_isVoid, c_2]), by show va_P D vwCl _ U9.heap; rw [ht]; exact hP⟩, hS.F ht⟩) hS.2.2 dX9_isVoid_22
  · obtain ⟨a1, ha1, rfl⟩ := isIx_of (by omega) c_2
    have ka19 : (nI a1).toNatClampNeg = a1 := nI_clamp (by omega)
    refine lv_aload_n hx hb dX9_isVoid_8 rfl (lv_at hl 0 rfl) ?_
    refine m_get hx hb hts hin hown hK hP 20 (by decide) l_isVoid rfl dX9_isVoid_9 ?_
    refine lv_iload_n hx hb dX9_isVoid_12 rfl (lv_at hl 1 rfl) ?_
    refine m_zald (f := 20) hx hb hK hP 16 rfl (by omega) (by decide) dX9_isVoid_13 ?_
    refine n_if_eq (tgt := 21) hx hb dX9_isVoid_14 (by decide) (by have f1 : M 20 a1 ≤ 1 := hM 20 a1; omega) (fun c_3 => ?_) (fun c_3 => ?_)
    · refine lv_iconst (v := nI 0) hx hb dX9_isVoid_21 (by decide) ?_
      have eT_4 : k_aw M (nI a1) = k_aw M ((nI a1)) := by simp [c_2, ka19, c_3]
      exact W.zret (v := nI 0) hx hb hr rfl (fun U9 ht hW => ⟨⟨_, (), rfl, bi_zero (by simp [r_isVoid, c_2, ka19, c_3]), by show va_P D vwCl _ U9.heap; rw [ht, eT_4]; exact hP⟩, hS.F ht⟩) hS.2.2 dX9_isVoid_22
    · refine lv_iconst (v := nI 1) hx hb dX9_isVoid_17 (by decide) ?_
      refine lv_goto (tgt := 22) hx hb dX9_isVoid_18 (by decide) ?_
      have eT_5 : k_aw M (nI a1) = k_aw M ((nI a1)) := by simp [c_2, ka19, c_3]
      exact W.zret (v := nI 1) hx hb hr rfl (fun U9 ht hW => ⟨⟨_, (), rfl, bi_one (by simp [r_isVoid, c_2, ka19, c_3]), by show va_P D vwCl _ U9.heap; rw [ht, eT_5]; exact hP⟩, hS.F ht⟩) hS.2.2 dX9_isVoid_22
set_option maxHeartbeats 4000000 in
set_option maxRecDepth 100000 in
theorem c9_isFinal (l : Launch) (D : va_G) (ad : Nat → Nat) (cI cZ cC : ClassId) (th : Nat) (M : MS) (hM : MI M) {A : Nat → Prop} (hD : mDis A ad) (a : Int32) : Met l yX9_isFinal wsX9_isFinal ({ frames := 2, cells := 0, slots := 0, locals := 44 }) (va_Pc [.ref (ad 0), .int a] (mB D ad cI cZ cC th M)) (va_Qi (fun (r : Int32) (_ : Unit) => r = bi (r_isFinal M a)) (fun _ U9 => va_P D vwCl (mws ad cI cZ cC (k_aw M a) M) U9.heap) A) 0 0 A := by
  refine Met.ofW (cc := cX9_isFinal) (maxL := 2) (ret := (some .boolean)) (by decide) rfl ?_
  intro p e s m args below meth c s₁ B hml hv
  obtain ⟨rfl, hP, hK⟩ := hv
  have hx := B.exec
  have hb := B.bytes
  have hr := B.returns
  have hts := atoms_spec (ws := wsX9_isFinal) B.pre
  have hown : s.vm.findClass RX9 = some m.cls := findClass_of_methodNamed B.named
  have hlocks := B.notSynchronized
  have hS : va_S A s.heap s.heap [] := va_S.rf
  have hl := lv_entry ([.ref (ad 0), .int a]) (n := 2) (Nat.le_of_ble_eq_true rfl)
  rw [lg_entry_eq]
  generalize (lg_sl ([.ref (ad 0), .int a]) ++ List.replicate (2 - (lg_sl ([.ref (ad 0), .int a])).length) Slot.unset).toArray = ls at hl ⊢
  have hl : lv_has ls 2 [(0, .ref (ad 0)), (1, .int a)] := hl
  have h36 : M 3 0 ≤ 6 := hM 3 0
  have h160 : M 16 0 ≤ 60 := hM 16 0
  have h220 : M 22 0 ≤ 60 := hM 22 0
  have h290 : M 29 0 ≤ 60 := hM 29 0
  have h120 : M 1 0 ≤ 2000 := hM 1 0
  refine lv_aload_n hx hb dX9_isFinal_0 rfl (lv_at hl 0 rfl) ?_
  refine lv_iload_n hx hb dX9_isFinal_1 rfl (lv_at hl 1 rfl) ?_
  refine va_calli (va_runV (As := [.int a]) (rest := []) ⟨hx, hb, hml, hown, hts⟩ (c9_asksAward l D ad cI cZ cC th M hM hD  a) (cwV 1 hts gX9_isFinal_X9_asksAward rfl rfl rfl kd_X9_asksAward ⟨Nat.le_of_ble_eq_true rfl, Nat.le_of_ble_eq_true rfl⟩) ⟨mB_blind, m_recv hK hP, m_pre hK hP _⟩ rfl rfl hl.1 rfl (lv_room (Nat.le_of_ble_eq_true rfl)) dX9_isFinal_2 ⟨Nat.le_of_ble_eq_true rfl, Nat.le_of_ble_eq_true rfl⟩) hS (fun _ _ h => h) (fun _ h => h) (fun r_1 u U8 H1 locs1 ht hvm hr_1 hP1 hz1 hk1 hS1 => ?_)
  rw [ht] at hP1
  clear hS
  have hS := hS1
  have hP : va_P D vwCl (mws ad cI cZ cC (k_aw M a) M) H1 := hP1
  generalize H1 = H at hP hS ⊢
  subst hr_1
  refine b_if_eq (tgt := 20) hx hb dX9_isFinal_5 (by decide)  (fun c_2 => ?_) (fun c_2 => ?_)
  · refine lv_iconst (v := nI 0) hx hb dX9_isFinal_20 (by decide) ?_
    exact W.zret (v := nI 0) hx hb hr rfl (fun U9 ht hW => ⟨⟨_, (), rfl, bi_zero (by simp [r_isFinal, c_2]), by show va_P D vwCl _ U9.heap; rw [ht]; exact hP⟩, hS.F ht⟩) hS.2.2 dX9_isFinal_21
  · obtain ⟨a1, ha1, rfl⟩ := isIx_of (by omega) c_2
    have ka19 : (nI a1).toNatClampNeg = a1 := nI_clamp (by omega)
    refine lv_aload_n hx hb dX9_isFinal_8 rfl (lv_at hl 0 rfl) ?_
    refine lv_iload_n hx hb dX9_isFinal_9 rfl (lv_at hl 1 rfl) ?_
    refine vp_callSi (W.runV (As := [.int (nI a1)]) (rest := []) ⟨hx, hb, hml, hown, hts⟩ (c9_isFinalNow l D ad cI cZ cC (k_aw M ((nI a1))) M hM  a1 (by omega)) (cwV 1 hts gX9_isFinal_X9_isFinalNow rfl rfl rfl kd_X9_isFinalNow ⟨Nat.le_of_ble_eq_true rfl, Nat.le_of_ble_eq_true rfl⟩) ⟨mB_blind, m_recv hK hP, m_pre hK hP _⟩ rfl rfl hl.1 rfl (lv_room (Nat.le_of_ble_eq_true rfl)) dX9_isFinal_10 ⟨Nat.le_of_ble_eq_true rfl, Nat.le_of_ble_eq_true rfl⟩) (fun r_3 hr_3 => ?_)
    subst hr_3
    refine b_if_eq (tgt := 20) hx hb dX9_isFinal_13 (by decide)  (fun c_4 => ?_) (fun c_4 => ?_)
    · refine lv_iconst (v := nI 0) hx hb dX9_isFinal_20 (by decide) ?_
      have eT_5 : k_aw M (nI a1) = k_aw M ((nI a1)) := by simp [c_2, ka19, c_4]
      exact W.zret (v := nI 0) hx hb hr rfl (fun U9 ht hW => ⟨⟨_, (), rfl, bi_zero (by simp [r_isFinal, c_2, ka19, c_4]), by show va_P D vwCl _ U9.heap; rw [ht, eT_5]; exact hP⟩, hS.F ht⟩) hS.2.2 dX9_isFinal_21
    · refine lv_iconst (v := nI 1) hx hb dX9_isFinal_16 (by decide) ?_
      refine lv_goto (tgt := 21) hx hb dX9_isFinal_17 (by decide) ?_
      have eT_6 : k_aw M (nI a1) = k_aw M ((nI a1)) := by simp [c_2, ka19, c_4]
      exact W.zret (v := nI 1) hx hb hr rfl (fun U9 ht hW => ⟨⟨_, (), rfl, bi_one (by simp [r_isFinal, c_2, ka19, c_4]), by show va_P D vwCl _ U9.heap; rw [ht, eT_6]; exact hP⟩, hS.F ht⟩) hS.2.2 dX9_isFinal_21
set_option maxHeartbeats 4000000 in
set_option maxRecDepth 100000 in
theorem c9_writes (l : Launch) (D : va_G) (ad : Nat → Nat) (cI cZ cC : ClassId) (th : Nat) (M : MS) (hM : MI M) {A : Nat → Prop} (hD : mDis A ad) (x : Nat) (hx9 : x < 128) (h33 : M 33 0 < 20) : Met l yX9_writes wsX9_writes ({ frames := 0, cells := 0, slots := 0, locals := 0 }) (va_Pc [.ref (ad 0), .int (nI x)] (mB D ad cI cZ cC th M)) (va_Qv (fun (_ : Unit) => True) (fun _ U9 => va_P D vwCl (mws ad cI cZ cC th (m_wr M x)) U9.heap) A) 0 0 A := by
  refine Met.ofW (cc := cX9_writes) (maxL := 2) (ret := none) (by decide) rfl ?_
  intro p e s m args below meth c s₁ B hml hv
  obtain ⟨rfl, hP, hK⟩ := hv
  have hx := B.exec
  have hb := B.bytes
  have hr := B.returns
  have hts := atoms_spec (ws := wsX9_writes) B.pre
  have hown : s.vm.findClass RX9 = some m.cls := findClass_of_methodNamed B.named
  have hlocks := B.notSynchronized
  have hin : ∀ w ∈ wsX90, w ∈ wsX9_writes := fun w h => List.mem_cons_of_mem _ (List.mem_append_right _ h)
  have l_line := (hts (.fieldLink RX9 89 "TenderHallModel" "line" "[C") (List.mem_of_getElem? (i := 1) rfl))
  have l_chars := (hts (.fieldLink RX9 180 "TenderHallModel" "chars" "I") (List.mem_of_getElem? (i := 2) rfl))
  have hS : va_S A s.heap s.heap [] := va_S.rf
  have hl := lv_entry ([.ref (ad 0), .int (nI x)]) (n := 2) (Nat.le_of_ble_eq_true rfl)
  rw [lg_entry_eq]
  generalize (lg_sl ([.ref (ad 0), .int (nI x)]) ++ List.replicate (2 - (lg_sl ([.ref (ad 0), .int (nI x)])).length) Slot.unset).toArray = ls at hl ⊢
  have hl : lv_has ls 2 [(0, .ref (ad 0)), (1, .int (nI x))] := hl
  have h36 : M 3 0 ≤ 6 := hM 3 0
  have h160 : M 16 0 ≤ 60 := hM 16 0
  have h220 : M 22 0 ≤ 60 := hM 22 0
  have h290 : M 29 0 ≤ 60 := hM 29 0
  have h120 : M 1 0 ≤ 2000 := hM 1 0
  refine lv_aload_n hx hb dX9_writes_0 rfl (lv_at hl 0 rfl) ?_
  refine m_get hx hb hts hin hown hK hP 34 (by decide) l_line rfl dX9_writes_1 ?_
  refine lv_aload_n hx hb dX9_writes_4 rfl (lv_at hl 0 rfl) ?_
  refine m_get (v := .int (nI (M 33 0))) hx hb hts hin hown hK hP 33 (by decide) l_chars rfl dX9_writes_5 ?_
  refine lv_iload_n hx hb dX9_writes_8 rfl (lv_at hl 1 rfl) ?_
  refine lv_i2c (v := nI x) hx hb dX9_writes_9 (n_i2c (by omega)) ?_
  refine m_cast (f := 34) (v := x) hx hb hK hP hD hS 27 rfl (by have f1 : M 33 0 ≤ 20 := hM 33 0; omega) (by decide) (n_nar_char (by omega)) (mset_34 _ _ _ _ _ _ _ _) dX9_writes_10 (fun H locs hP hS => ?_)
  refine lv_aload_n hx hb dX9_writes_11 rfl (lv_at hl 0 rfl) ?_
  refine lv_dup hx hb dX9_writes_12 rfl ?_
  refine m_get (v := .int (nI (M 33 0))) hx hb hts hin hown hK hP 33 (by decide) l_chars rfl dX9_writes_13 ?_
  refine lv_iconst (v := nI 1) hx hb dX9_writes_16 (by decide) ?_
  refine n_iadd hx hb dX9_writes_17 (z := (M 33 0) + 1) rfl ?_
  refine m_put hx hb hts hin hown hK hP hD hS 33 (by decide) l_chars rfl rfl (mset_33 _ _ _ _ _ _ _) dX9_writes_18 (fun H locs hP hS => ?_)
  have eM_1 : m_wr M x = mu (mu M 34 (M 33 0) x) 33 0 ((M 33 0) + 1) := by simp [m_wr, ]
  exact W.vret hx hb hr (fun U9 ht hW => ⟨⟨(), rfl, trivial, by show va_P D vwCl _ U9.heap; rw [ht, eM_1]; exact hP⟩, hS.F ht⟩) hS.2.2 dX9_writes_21
set_option maxHeartbeats 4000000 in
set_option maxRecDepth 100000 in
theorem c9_writesLine (l : Launch) (D : va_G) (ad : Nat → Nat) (cI cZ cC : ClassId) (th : Nat) (M : MS) (hM : MI M) {A : Nat → Prop} (hD : mDis A ad) (a : Nat) (ha : a < 60) : Met l yX9_writesLine wsX9_writesLine ({ frames := 2, cells := 0, slots := 0, locals := 44 }) (va_Pc [.ref (ad 0), .int (nI a)] (mB D ad cI cZ cC th M)) (va_Qv (fun (_ : Unit) => True) (fun _ U9 => va_P D vwCl (mws ad cI cZ cC th (m_wl M a)) U9.heap) A) 0 0 A := by
  refine Met.ofW (cc := cX9_writesLine) (maxL := 2) (ret := none) (by decide) rfl ?_
  intro p e s m args below meth c s₁ B hml hv
  obtain ⟨rfl, hP, hK⟩ := hv
  have hx := B.exec
  have hb := B.bytes
  have hr := B.returns
  have hts := atoms_spec (ws := wsX9_writesLine) B.pre
  have hown : s.vm.findClass RX9 = some m.cls := findClass_of_methodNamed B.named
  have hlocks := B.notSynchronized
  have hin : ∀ w ∈ wsX90, w ∈ wsX9_writesLine := fun w h => List.mem_cons_of_mem _ (List.mem_append_right _ h)
  have l_chars := (hts (.fieldLink RX9 180 "TenderHallModel" "chars" "I") (List.mem_of_getElem? (i := 1) rfl))
  have l_lotOf := (hts (.fieldLink RX9 47 "TenderHallModel" "lotOf" "[I") (List.mem_of_getElem? (i := 2) rfl))
  have l_won := (hts (.fieldLink RX9 50 "TenderHallModel" "won" "[I") (List.mem_of_getElem? (i := 3) rfl))
  have l_isVoid := (hts (.fieldLink RX9 56 "TenderHallModel" "isVoid" "[Z") (List.mem_of_getElem? (i := 4) rfl))
  have l_signed := (hts (.fieldLink RX9 59 "TenderHallModel" "signed" "[I") (List.mem_of_getElem? (i := 5) rfl))
  have hS : va_S A s.heap s.heap [] := va_S.rf
  have hl := lv_entry ([.ref (ad 0), .int (nI a)]) (n := 2) (Nat.le_of_ble_eq_true rfl)
  rw [lg_entry_eq]
  generalize (lg_sl ([.ref (ad 0), .int (nI a)]) ++ List.replicate (2 - (lg_sl ([.ref (ad 0), .int (nI a)])).length) Slot.unset).toArray = ls at hl ⊢
  have hl : lv_has ls 2 [(0, .ref (ad 0)), (1, .int (nI a))] := hl
  have h36 : M 3 0 ≤ 6 := hM 3 0
  have h160 : M 16 0 ≤ 60 := hM 16 0
  have h220 : M 22 0 ≤ 60 := hM 22 0
  have h290 : M 29 0 ≤ 60 := hM 29 0
  have h120 : M 1 0 ≤ 2000 := hM 1 0
  refine lv_aload_n hx hb dX9_writesLine_0 rfl (lv_at hl 0 rfl) ?_
  refine lv_iconst (v := nI 0) hx hb dX9_writesLine_1 (by decide) ?_
  refine m_put hx hb hts hin hown hK hP hD hS 33 (by decide) l_chars rfl rfl (mset_33 _ _ _ _ _ _ _) dX9_writesLine_2 (fun H locs hP hS => ?_)
  refine lv_aload_n hx hb dX9_writesLine_5 rfl (lv_at hl 0 rfl) ?_
  refine lv_bipush (v := nI 35) hx hb dX9_writesLine_6 (by decide) ?_
  refine va_callv (va_runV (As := [.int (nI 35)]) (rest := []) ⟨hx, hb, hml, hown, hts⟩ (c9_writes l D ad cI cZ cC th (mu M 33 0 0) (MI_mu hM (by show 0 ≤ 20; omega)) hD  35 (by omega) (by show 0 < 20; decide)) (cwV 1 hts gX9_writesLine_X9_writes rfl rfl rfl kd_X9_writes ⟨Nat.le_of_ble_eq_true rfl, Nat.le_of_ble_eq_true rfl⟩) ⟨mB_blind, m_recv hK hP, m_pre hK hP _⟩ rfl rfl hl.1 rfl (lv_room (Nat.le_of_ble_eq_true rfl)) dX9_writesLine_8 ⟨Nat.le_of_ble_eq_true rfl, Nat.le_of_ble_eq_true rfl⟩) hS (fun _ _ h => h) (fun _ h => h) (fun u U8 H1 locs1 ht hvm hr_1 hP1 hz1 hk1 hS1 => ?_)
  rw [ht] at hP1
  clear hS
  have hS := hS1
  have hP : va_P D vwCl (mws ad cI cZ cC th (m_wr (mu M 33 0 0) 35)) H1 := hP1
  generalize H1 = H at hP hS ⊢
  have hM_2 : MI (m_wr (mu M 33 0 0) 35) := (MI_wr (MI_mu hM (by show 0 ≤ 20; omega)) (by omega) (by show 0 < 20; decide))
  refine lv_iload_n hx hb dX9_writesLine_11 rfl (lv_at hl 1 rfl) ?_
  refine lv_bipush (v := nI 9) hx hb dX9_writesLine_12 (by decide) ?_
  refine n_icmp_le (tgt := 28) hx hb dX9_writesLine_14 (by decide) (by omega) (by decide) (fun c_3 => ?_) (fun c_3 => ?_)
  · refine lv_aload_n hx hb dX9_writesLine_28 rfl (lv_at hl 0 rfl) ?_
    refine lv_bipush (v := nI 48) hx hb dX9_writesLine_29 (by decide) ?_
    refine lv_iload_n hx hb dX9_writesLine_31 rfl (lv_at hl 1 rfl) ?_
    refine lv_bipush (v := nI 10) hx hb dX9_writesLine_32 (by decide) ?_
    refine n_irem hx hb dX9_writesLine_34 (z := a % 10) (by omega) (by decide) (by decide) rfl ?_
    refine n_iadd hx hb dX9_writesLine_35 (z := 48 + (a % 10)) rfl ?_
    refine va_callv (va_runV (As := [.int (nI (48 + (a % 10)))]) (rest := []) ⟨hx, hb, hml, hown, hts⟩ (c9_writes l D ad cI cZ cC th (m_wr (mu M 33 0 0) 35) hM_2 hD  (48 + (a % 10)) (by omega) (by show 1 < 20; decide)) (cwV 1 hts gX9_writesLine_X9_writes rfl rfl rfl kd_X9_writes ⟨Nat.le_of_ble_eq_true rfl, Nat.le_of_ble_eq_true rfl⟩) ⟨mB_blind, m_recv hK hP, m_pre hK hP _⟩ rfl rfl hl.1 rfl (lv_room (Nat.le_of_ble_eq_true rfl)) dX9_writesLine_36 ⟨Nat.le_of_ble_eq_true rfl, Nat.le_of_ble_eq_true rfl⟩) hS (fun _ _ h => h) (fun _ h => h) (fun u U8 H1 locs1 ht hvm hr_4 hP1 hz1 hk1 hS1 => ?_)
    rw [ht] at hP1
    clear hS
    have hS := hS1
    have hP : va_P D vwCl (mws ad cI cZ cC th (m_wr (m_wr (mu M 33 0 0) 35) (48 + (a % 10)))) H1 := hP1
    generalize H1 = H at hP hS ⊢
    have hM_5 : MI (m_wr (m_wr (mu M 33 0 0) 35) (48 + (a % 10))) := (MI_wr hM_2 (by omega) (by show 1 < 20; decide))
    refine lv_aload_n hx hb dX9_writesLine_39 rfl (lv_at hl 0 rfl) ?_
    refine lv_bipush (v := nI 32) hx hb dX9_writesLine_40 (by decide) ?_
    refine va_callv (va_runV (As := [.int (nI 32)]) (rest := []) ⟨hx, hb, hml, hown, hts⟩ (c9_writes l D ad cI cZ cC th (m_wr (m_wr (mu M 33 0 0) 35) (48 + (a % 10))) hM_5 hD  32 (by omega) (by show 2 < 20; decide)) (cwV 1 hts gX9_writesLine_X9_writes rfl rfl rfl kd_X9_writes ⟨Nat.le_of_ble_eq_true rfl, Nat.le_of_ble_eq_true rfl⟩) ⟨mB_blind, m_recv hK hP, m_pre hK hP _⟩ rfl rfl hl.1 rfl (lv_room (Nat.le_of_ble_eq_true rfl)) dX9_writesLine_42 ⟨Nat.le_of_ble_eq_true rfl, Nat.le_of_ble_eq_true rfl⟩) hS (fun _ _ h => h) (fun _ h => h) (fun u U8 H1 locs1 ht hvm hr_6 hP1 hz1 hk1 hS1 => ?_)
    rw [ht] at hP1
    clear hS
    have hS := hS1
    have hP : va_P D vwCl (mws ad cI cZ cC th (m_wr (m_wr (m_wr (mu M 33 0 0) 35) (48 + (a % 10))) 32)) H1 := hP1
    generalize H1 = H at hP hS ⊢
    have hM_7 : MI (m_wr (m_wr (m_wr (mu M 33 0 0) 35) (48 + (a % 10))) 32) := (MI_wr hM_5 (by omega) (by show 2 < 20; decide))
    refine lv_aload_n hx hb dX9_writesLine_45 rfl (lv_at hl 0 rfl) ?_
    refine lv_bipush (v := nI 84) hx hb dX9_writesLine_46 (by decide) ?_
    refine va_callv (va_runV (As := [.int (nI 84)]) (rest := []) ⟨hx, hb, hml, hown, hts⟩ (c9_writes l D ad cI cZ cC th (m_wr (m_wr (m_wr (mu M 33 0 0) 35) (48 + (a % 10))) 32) hM_7 hD  84 (by omega) (by show 3 < 20; decide)) (cwV 1 hts gX9_writesLine_X9_writes rfl rfl rfl kd_X9_writes ⟨Nat.le_of_ble_eq_true rfl, Nat.le_of_ble_eq_true rfl⟩) ⟨mB_blind, m_recv hK hP, m_pre hK hP _⟩ rfl rfl hl.1 rfl (lv_room (Nat.le_of_ble_eq_true rfl)) dX9_writesLine_48 ⟨Nat.le_of_ble_eq_true rfl, Nat.le_of_ble_eq_true rfl⟩) hS (fun _ _ h => h) (fun _ h => h) (fun u U8 H1 locs1 ht hvm hr_8 hP1 hz1 hk1 hS1 => ?_)
    rw [ht] at hP1
    clear hS
    have hS := hS1
    have hP : va_P D vwCl (mws ad cI cZ cC th (m_wr (m_wr (m_wr (m_wr (mu M 33 0 0) 35) (48 + (a % 10))) 32) 84)) H1 := hP1
    generalize H1 = H at hP hS ⊢
    have hM_9 : MI (m_wr (m_wr (m_wr (m_wr (mu M 33 0 0) 35) (48 + (a % 10))) 32) 84) := (MI_wr hM_7 (by omega) (by show 3 < 20; decide))
    refine lv_aload_n hx hb dX9_writesLine_51 rfl (lv_at hl 0 rfl) ?_
    refine lv_bipush (v := nI 48) hx hb dX9_writesLine_52 (by decide) ?_
    refine lv_aload_n hx hb dX9_writesLine_54 rfl (lv_at hl 0 rfl) ?_
    refine m_get hx hb hts hin hown hK hP 17 (by decide) l_lotOf rfl dX9_writesLine_55 ?_
    refine lv_iload_n hx hb dX9_writesLine_58 rfl (lv_at hl 1 rfl) ?_
    refine m_iald (f := 17) hx hb hK hP 13 rfl (by omega) (by decide) dX9_writesLine_59 ?_
    rw [show (m_wr (m_wr (m_wr (m_wr (mu M 33 0 0) 35) (48 + (a % 10))) 32) 84) 17 a = M 17 a from rfl]
    refine lv_iconst (v := nI 3) hx hb dX9_writesLine_60 (by decide) ?_
    refine n_idiv hx hb dX9_writesLine_61 (z := (M 17 a) / 3) (by have f1 : M 17 a ≤ 17 := hM_9 17 a; omega) (by decide) (by decide) rfl ?_
    refine n_iadd hx hb dX9_writesLine_62 (z := 48 + ((M 17 a) / 3)) rfl ?_
    refine va_callv (va_runV (As := [.int (nI (48 + ((M 17 a) / 3)))]) (rest := []) ⟨hx, hb, hml, hown, hts⟩ (c9_writes l D ad cI cZ cC th (m_wr (m_wr (m_wr (m_wr (mu M 33 0 0) 35) (48 + (a % 10))) 32) 84) hM_9 hD  (48 + ((M 17 a) / 3)) (by have f1 : M 17 a ≤ 17 := hM_9 17 a; omega) (by show 4 < 20; decide)) (cwV 1 hts gX9_writesLine_X9_writes rfl rfl rfl kd_X9_writes ⟨Nat.le_of_ble_eq_true rfl, Nat.le_of_ble_eq_true rfl⟩) ⟨mB_blind, m_recv hK hP, m_pre hK hP _⟩ rfl rfl hl.1 rfl (lv_room (Nat.le_of_ble_eq_true rfl)) dX9_writesLine_63 ⟨Nat.le_of_ble_eq_true rfl, Nat.le_of_ble_eq_true rfl⟩) hS (fun _ _ h => h) (fun _ h => h) (fun u U8 H1 locs1 ht hvm hr_10 hP1 hz1 hk1 hS1 => ?_)
    rw [ht] at hP1
    clear hS
    have hS := hS1
    have hP : va_P D vwCl (mws ad cI cZ cC th (m_wr (m_wr (m_wr (m_wr (m_wr (mu M 33 0 0) 35) (48 + (a % 10))) 32) 84) (48 + ((M 17 a) / 3)))) H1 := hP1
    generalize H1 = H at hP hS ⊢
    have hM_11 : MI (m_wr (m_wr (m_wr (m_wr (m_wr (mu M 33 0 0) 35) (48 + (a % 10))) 32) 84) (48 + ((M 17 a) / 3))) := (MI_wr hM_9 (by have f1 : M 17 a ≤ 17 := hM_9 17 a; omega) (by show 4 < 20; decide))
    refine lv_aload_n hx hb dX9_writesLine_66 rfl (lv_at hl 0 rfl) ?_
    refine lv_bipush (v := nI 76) hx hb dX9_writesLine_67 (by decide) ?_
    refine va_callv (va_runV (As := [.int (nI 76)]) (rest := []) ⟨hx, hb, hml, hown, hts⟩ (c9_writes l D ad cI cZ cC th (m_wr (m_wr (m_wr (m_wr (m_wr (mu M 33 0 0) 35) (48 + (a % 10))) 32) 84) (48 + ((M 17 a) / 3))) hM_11 hD  76 (by omega) (by show 5 < 20; decide)) (cwV 1 hts gX9_writesLine_X9_writes rfl rfl rfl kd_X9_writes ⟨Nat.le_of_ble_eq_true rfl, Nat.le_of_ble_eq_true rfl⟩) ⟨mB_blind, m_recv hK hP, m_pre hK hP _⟩ rfl rfl hl.1 rfl (lv_room (Nat.le_of_ble_eq_true rfl)) dX9_writesLine_69 ⟨Nat.le_of_ble_eq_true rfl, Nat.le_of_ble_eq_true rfl⟩) hS (fun _ _ h => h) (fun _ h => h) (fun u U8 H1 locs1 ht hvm hr_12 hP1 hz1 hk1 hS1 => ?_)
    rw [ht] at hP1
    clear hS
    have hS := hS1
    have hP : va_P D vwCl (mws ad cI cZ cC th (m_wr (m_wr (m_wr (m_wr (m_wr (m_wr (mu M 33 0 0) 35) (48 + (a % 10))) 32) 84) (48 + ((M 17 a) / 3))) 76)) H1 := hP1
    generalize H1 = H at hP hS ⊢
    have hM_13 : MI (m_wr (m_wr (m_wr (m_wr (m_wr (m_wr (mu M 33 0 0) 35) (48 + (a % 10))) 32) 84) (48 + ((M 17 a) / 3))) 76) := (MI_wr hM_11 (by omega) (by show 5 < 20; decide))
    refine lv_aload_n hx hb dX9_writesLine_72 rfl (lv_at hl 0 rfl) ?_
    refine lv_bipush (v := nI 48) hx hb dX9_writesLine_73 (by decide) ?_
    refine lv_aload_n hx hb dX9_writesLine_75 rfl (lv_at hl 0 rfl) ?_
    refine m_get hx hb hts hin hown hK hP 17 (by decide) l_lotOf rfl dX9_writesLine_76 ?_
    refine lv_iload_n hx hb dX9_writesLine_79 rfl (lv_at hl 1 rfl) ?_
    refine m_iald (f := 17) hx hb hK hP 13 rfl (by omega) (by decide) dX9_writesLine_80 ?_
    rw [show (m_wr (m_wr (m_wr (m_wr (m_wr (m_wr (mu M 33 0 0) 35) (48 + (a % 10))) 32) 84) (48 + ((M 17 a) / 3))) 76) 17 a = M 17 a from rfl]
    refine lv_iconst (v := nI 3) hx hb dX9_writesLine_81 (by decide) ?_
    refine n_irem hx hb dX9_writesLine_82 (z := (M 17 a) % 3) (by have f1 : M 17 a ≤ 17 := hM_13 17 a; omega) (by decide) (by decide) rfl ?_
    refine n_iadd hx hb dX9_writesLine_83 (z := 48 + ((M 17 a) % 3)) rfl ?_
    refine va_callv (va_runV (As := [.int (nI (48 + ((M 17 a) % 3)))]) (rest := []) ⟨hx, hb, hml, hown, hts⟩ (c9_writes l D ad cI cZ cC th (m_wr (m_wr (m_wr (m_wr (m_wr (m_wr (mu M 33 0 0) 35) (48 + (a % 10))) 32) 84) (48 + ((M 17 a) / 3))) 76) hM_13 hD  (48 + ((M 17 a) % 3)) (by have f1 : M 17 a ≤ 17 := hM_13 17 a; omega) (by show 6 < 20; decide)) (cwV 1 hts gX9_writesLine_X9_writes rfl rfl rfl kd_X9_writes ⟨Nat.le_of_ble_eq_true rfl, Nat.le_of_ble_eq_true rfl⟩) ⟨mB_blind, m_recv hK hP, m_pre hK hP _⟩ rfl rfl hl.1 rfl (lv_room (Nat.le_of_ble_eq_true rfl)) dX9_writesLine_84 ⟨Nat.le_of_ble_eq_true rfl, Nat.le_of_ble_eq_true rfl⟩) hS (fun _ _ h => h) (fun _ h => h) (fun u U8 H1 locs1 ht hvm hr_14 hP1 hz1 hk1 hS1 => ?_)
    rw [ht] at hP1
    clear hS
    have hS := hS1
    have hP : va_P D vwCl (mws ad cI cZ cC th (m_wr (m_wr (m_wr (m_wr (m_wr (m_wr (m_wr (mu M 33 0 0) 35) (48 + (a % 10))) 32) 84) (48 + ((M 17 a) / 3))) 76) (48 + ((M 17 a) % 3)))) H1 := hP1
    generalize H1 = H at hP hS ⊢
    have hM_15 : MI (m_wr (m_wr (m_wr (m_wr (m_wr (m_wr (m_wr (mu M 33 0 0) 35) (48 + (a % 10))) 32) 84) (48 + ((M 17 a) / 3))) 76) (48 + ((M 17 a) % 3))) := (MI_wr hM_13 (by have f1 : M 17 a ≤ 17 := hM_13 17 a; omega) (by show 6 < 20; decide))
    refine lv_aload_n hx hb dX9_writesLine_87 rfl (lv_at hl 0 rfl) ?_
    refine lv_bipush (v := nI 32) hx hb dX9_writesLine_88 (by decide) ?_
    refine va_callv (va_runV (As := [.int (nI 32)]) (rest := []) ⟨hx, hb, hml, hown, hts⟩ (c9_writes l D ad cI cZ cC th (m_wr (m_wr (m_wr (m_wr (m_wr (m_wr (m_wr (mu M 33 0 0) 35) (48 + (a % 10))) 32) 84) (48 + ((M 17 a) / 3))) 76) (48 + ((M 17 a) % 3))) hM_15 hD  32 (by omega) (by show 7 < 20; decide)) (cwV 1 hts gX9_writesLine_X9_writes rfl rfl rfl kd_X9_writes ⟨Nat.le_of_ble_eq_true rfl, Nat.le_of_ble_eq_true rfl⟩) ⟨mB_blind, m_recv hK hP, m_pre hK hP _⟩ rfl rfl hl.1 rfl (lv_room (Nat.le_of_ble_eq_true rfl)) dX9_writesLine_90 ⟨Nat.le_of_ble_eq_true rfl, Nat.le_of_ble_eq_true rfl⟩) hS (fun _ _ h => h) (fun _ h => h) (fun u U8 H1 locs1 ht hvm hr_16 hP1 hz1 hk1 hS1 => ?_)
    rw [ht] at hP1
    clear hS
    have hS := hS1
    have hP : va_P D vwCl (mws ad cI cZ cC th (m_wr (m_wr (m_wr (m_wr (m_wr (m_wr (m_wr (m_wr (mu M 33 0 0) 35) (48 + (a % 10))) 32) 84) (48 + ((M 17 a) / 3))) 76) (48 + ((M 17 a) % 3))) 32)) H1 := hP1
    generalize H1 = H at hP hS ⊢
    have hM_17 : MI (m_wr (m_wr (m_wr (m_wr (m_wr (m_wr (m_wr (m_wr (mu M 33 0 0) 35) (48 + (a % 10))) 32) 84) (48 + ((M 17 a) / 3))) 76) (48 + ((M 17 a) % 3))) 32) := (MI_wr hM_15 (by omega) (by show 7 < 20; decide))
    refine lv_aload_n hx hb dX9_writesLine_93 rfl (lv_at hl 0 rfl) ?_
    refine lv_bipush (v := nI 66) hx hb dX9_writesLine_94 (by decide) ?_
    refine va_callv (va_runV (As := [.int (nI 66)]) (rest := []) ⟨hx, hb, hml, hown, hts⟩ (c9_writes l D ad cI cZ cC th (m_wr (m_wr (m_wr (m_wr (m_wr (m_wr (m_wr (m_wr (mu M 33 0 0) 35) (48 + (a % 10))) 32) 84) (48 + ((M 17 a) / 3))) 76) (48 + ((M 17 a) % 3))) 32) hM_17 hD  66 (by omega) (by show 8 < 20; decide)) (cwV 1 hts gX9_writesLine_X9_writes rfl rfl rfl kd_X9_writes ⟨Nat.le_of_ble_eq_true rfl, Nat.le_of_ble_eq_true rfl⟩) ⟨mB_blind, m_recv hK hP, m_pre hK hP _⟩ rfl rfl hl.1 rfl (lv_room (Nat.le_of_ble_eq_true rfl)) dX9_writesLine_96 ⟨Nat.le_of_ble_eq_true rfl, Nat.le_of_ble_eq_true rfl⟩) hS (fun _ _ h => h) (fun _ h => h) (fun u U8 H1 locs1 ht hvm hr_18 hP1 hz1 hk1 hS1 => ?_)
    rw [ht] at hP1
    clear hS
    have hS := hS1
    have hP : va_P D vwCl (mws ad cI cZ cC th (m_wr (m_wr (m_wr (m_wr (m_wr (m_wr (m_wr (m_wr (m_wr (mu M 33 0 0) 35) (48 + (a % 10))) 32) 84) (48 + ((M 17 a) / 3))) 76) (48 + ((M 17 a) % 3))) 32) 66)) H1 := hP1
    generalize H1 = H at hP hS ⊢
    have hM_19 : MI (m_wr (m_wr (m_wr (m_wr (m_wr (m_wr (m_wr (m_wr (m_wr (mu M 33 0 0) 35) (48 + (a % 10))) 32) 84) (48 + ((M 17 a) / 3))) 76) (48 + ((M 17 a) % 3))) 32) 66) := (MI_wr hM_17 (by omega) (by show 8 < 20; decide))
    refine lv_aload_n hx hb dX9_writesLine_99 rfl (lv_at hl 0 rfl) ?_
    refine lv_bipush (v := nI 48) hx hb dX9_writesLine_100 (by decide) ?_
    refine lv_aload_n hx hb dX9_writesLine_102 rfl (lv_at hl 0 rfl) ?_
    refine m_get hx hb hts hin hown hK hP 18 (by decide) l_won rfl dX9_writesLine_103 ?_
    refine lv_iload_n hx hb dX9_writesLine_106 rfl (lv_at hl 1 rfl) ?_
    refine m_iald (f := 18) hx hb hK hP 14 rfl (by omega) (by decide) dX9_writesLine_107 ?_
    rw [show (m_wr (m_wr (m_wr (m_wr (m_wr (m_wr (m_wr (m_wr (m_wr (mu M 33 0 0) 35) (48 + (a % 10))) 32) 84) (48 + ((M 17 a) / 3))) 76) (48 + ((M 17 a) % 3))) 32) 66) 18 a = M 18 a from rfl]
    refine n_iadd hx hb dX9_writesLine_108 (z := 48 + (M 18 a)) rfl ?_
    refine va_callv (va_runV (As := [.int (nI (48 + (M 18 a)))]) (rest := []) ⟨hx, hb, hml, hown, hts⟩ (c9_writes l D ad cI cZ cC th (m_wr (m_wr (m_wr (m_wr (m_wr (m_wr (m_wr (m_wr (m_wr (mu M 33 0 0) 35) (48 + (a % 10))) 32) 84) (48 + ((M 17 a) / 3))) 76) (48 + ((M 17 a) % 3))) 32) 66) hM_19 hD  (48 + (M 18 a)) (by have f1 : M 18 a ≤ 7 := hM_19 18 a; omega) (by show 9 < 20; decide)) (cwV 1 hts gX9_writesLine_X9_writes rfl rfl rfl kd_X9_writes ⟨Nat.le_of_ble_eq_true rfl, Nat.le_of_ble_eq_true rfl⟩) ⟨mB_blind, m_recv hK hP, m_pre hK hP _⟩ rfl rfl hl.1 rfl (lv_room (Nat.le_of_ble_eq_true rfl)) dX9_writesLine_109 ⟨Nat.le_of_ble_eq_true rfl, Nat.le_of_ble_eq_true rfl⟩) hS (fun _ _ h => h) (fun _ h => h) (fun u U8 H1 locs1 ht hvm hr_20 hP1 hz1 hk1 hS1 => ?_)
    rw [ht] at hP1
    clear hS
    have hS := hS1
    have hP : va_P D vwCl (mws ad cI cZ cC th (m_wr (m_wr (m_wr (m_wr (m_wr (m_wr (m_wr (m_wr (m_wr (m_wr (mu M 33 0 0) 35) (48 + (a % 10))) 32) 84) (48 + ((M 17 a) / 3))) 76) (48 + ((M 17 a) % 3))) 32) 66) (48 + (M 18 a)))) H1 := hP1
    generalize H1 = H at hP hS ⊢
    have hM_21 : MI (m_wr (m_wr (m_wr (m_wr (m_wr (m_wr (m_wr (m_wr (m_wr (m_wr (mu M 33 0 0) 35) (48 + (a % 10))) 32) 84) (48 + ((M 17 a) / 3))) 76) (48 + ((M 17 a) % 3))) 32) 66) (48 + (M 18 a))) := (MI_wr hM_19 (by have f1 : M 18 a ≤ 7 := hM_19 18 a; omega) (by show 9 < 20; decide))
    refine lv_aload_n hx hb dX9_writesLine_112 rfl (lv_at hl 0 rfl) ?_
    refine m_get hx hb hts hin hown hK hP 20 (by decide) l_isVoid rfl dX9_writesLine_113 ?_
    refine lv_iload_n hx hb dX9_writesLine_116 rfl (lv_at hl 1 rfl) ?_
    refine m_zald (f := 20) hx hb hK hP 16 rfl (by omega) (by decide) dX9_writesLine_117 ?_
    rw [show (m_wr (m_wr (m_wr (m_wr (m_wr (m_wr (m_wr (m_wr (m_wr (m_wr (mu M 33 0 0) 35) (48 + (a % 10))) 32) 84) (48 + ((M 17 a) / 3))) 76) (48 + ((M 17 a) % 3))) 32) 66) (48 + (M 18 a))) 20 a = M 20 a from rfl]
    refine n_if_ne (tgt := 138) hx hb dX9_writesLine_118 (by decide) (by have f1 : M 20 a ≤ 1 := hM_21 20 a; omega) (fun c_22 => ?_) (fun c_22 => ?_)
    · refine lv_aload_n hx hb dX9_writesLine_138 rfl (lv_at hl 0 rfl) ?_
      refine lv_aload_n hx hb dX9_writesLine_139 rfl (lv_at hl 0 rfl) ?_
      refine m_get hx hb hts hin hown hK hP 20 (by decide) l_isVoid rfl dX9_writesLine_140 ?_
      refine lv_iload_n hx hb dX9_writesLine_143 rfl (lv_at hl 1 rfl) ?_
      refine m_zald (f := 20) hx hb hK hP 16 rfl (by omega) (by decide) dX9_writesLine_144 ?_
      rw [show (m_wr (m_wr (m_wr (m_wr (m_wr (m_wr (m_wr (m_wr (m_wr (m_wr (mu M 33 0 0) 35) (48 + (a % 10))) 32) 84) (48 + ((M 17 a) / 3))) 76) (48 + ((M 17 a) % 3))) 32) 66) (48 + (M 18 a))) 20 a = M 20 a from rfl]
      refine n_if_eq (tgt := 153) hx hb dX9_writesLine_145 (by decide) (by have f1 : M 20 a ≤ 1 := hM_21 20 a; omega) (fun c_23 => ?_) (fun c_23 => ?_)
      · refine lv_aload_n hx hb dX9_writesLine_153 rfl (lv_at hl 0 rfl) ?_
        refine m_get hx hb hts hin hown hK hP 21 (by decide) l_signed rfl dX9_writesLine_154 ?_
        refine lv_iload_n hx hb dX9_writesLine_157 rfl (lv_at hl 1 rfl) ?_
        refine m_iald (f := 21) hx hb hK hP 17 rfl (by omega) (by decide) dX9_writesLine_158 ?_
        rw [show (m_wr (m_wr (m_wr (m_wr (m_wr (m_wr (m_wr (m_wr (m_wr (m_wr (mu M 33 0 0) 35) (48 + (a % 10))) 32) 84) (48 + ((M 17 a) / 3))) 76) (48 + ((M 17 a) % 3))) 32) 66) (48 + (M 18 a))) 21 a = M 21 a from rfl]
        refine n_if_le (tgt := 167) hx hb dX9_writesLine_159 (by decide) (by have f1 : M 21 a ≤ 60 := hM_21 21 a; omega) (fun c_24 => ?_) (fun c_24 => ?_)
        · refine lv_bipush (v := nI 70) hx hb dX9_writesLine_167 (by decide) ?_
          refine va_callv (va_runV (As := [.int (nI 70)]) (rest := []) ⟨hx, hb, hml, hown, hts⟩ (c9_writes l D ad cI cZ cC th (m_wr (m_wr (m_wr (m_wr (m_wr (m_wr (m_wr (m_wr (m_wr (m_wr (mu M 33 0 0) 35) (48 + (a % 10))) 32) 84) (48 + ((M 17 a) / 3))) 76) (48 + ((M 17 a) % 3))) 32) 66) (48 + (M 18 a))) hM_21 hD  70 (by omega) (by show 10 < 20; decide)) (cwV 1 hts gX9_writesLine_X9_writes rfl rfl rfl kd_X9_writes ⟨Nat.le_of_ble_eq_true rfl, Nat.le_of_ble_eq_true rfl⟩) ⟨mB_blind, m_recv hK hP, m_pre hK hP _⟩ rfl rfl hl.1 rfl (lv_room (Nat.le_of_ble_eq_true rfl)) dX9_writesLine_169 ⟨Nat.le_of_ble_eq_true rfl, Nat.le_of_ble_eq_true rfl⟩) hS (fun _ _ h => h) (fun _ h => h) (fun u U8 H1 locs1 ht hvm hr_25 hP1 hz1 hk1 hS1 => ?_)
          rw [ht] at hP1
          clear hS
          have hS := hS1
          have hP : va_P D vwCl (mws ad cI cZ cC th (m_wr (m_wr (m_wr (m_wr (m_wr (m_wr (m_wr (m_wr (m_wr (m_wr (m_wr (mu M 33 0 0) 35) (48 + (a % 10))) 32) 84) (48 + ((M 17 a) / 3))) 76) (48 + ((M 17 a) % 3))) 32) 66) (48 + (M 18 a))) 70)) H1 := hP1
          generalize H1 = H at hP hS ⊢
          have hM_26 : MI (m_wr (m_wr (m_wr (m_wr (m_wr (m_wr (m_wr (m_wr (m_wr (m_wr (m_wr (mu M 33 0 0) 35) (48 + (a % 10))) 32) 84) (48 + ((M 17 a) / 3))) 76) (48 + ((M 17 a) % 3))) 32) 66) (48 + (M 18 a))) 70) := (MI_wr hM_21 (by omega) (by show 10 < 20; decide))
          have eM_27 : m_wl M a = m_wr (m_wr (m_wr (m_wr (m_wr (m_wr (m_wr (m_wr (m_wr (m_wr (m_wr (mu M 33 0 0) 35) (48 + (a % 10))) 32) 84) (48 + ((M 17 a) / 3))) 76) (48 + ((M 17 a) % 3))) 32) 66) (48 + (M 18 a))) 70 := by first | (exfalso; omega) | (simp [m_wl, m_ll, List.foldl, c_3, c_22, c_23, c_24]; done) | (simp [m_wl, m_ll, List.foldl, Nat.not_lt.mpr c_3, c_3, c_22, c_23, c_24]; done) | (simp [m_wl, m_ll, List.foldl, show ¬ 9 < a from by omega, c_3, c_22, c_23, c_24])
          exact W.vret hx hb hr (fun U9 ht hW => ⟨⟨(), rfl, trivial, by show va_P D vwCl _ U9.heap; rw [ht, eM_27]; exact hP⟩, hS.F ht⟩) hS.2.2 dX9_writesLine_172
        · refine lv_bipush (v := nI 83) hx hb dX9_writesLine_162 (by decide) ?_
          refine lv_goto (tgt := 169) hx hb dX9_writesLine_164 (by decide) ?_
          refine va_callv (va_runV (As := [.int (nI 83)]) (rest := []) ⟨hx, hb, hml, hown, hts⟩ (c9_writes l D ad cI cZ cC th (m_wr (m_wr (m_wr (m_wr (m_wr (m_wr (m_wr (m_wr (m_wr (m_wr (mu M 33 0 0) 35) (48 + (a % 10))) 32) 84) (48 + ((M 17 a) / 3))) 76) (48 + ((M 17 a) % 3))) 32) 66) (48 + (M 18 a))) hM_21 hD  83 (by omega) (by show 10 < 20; decide)) (cwV 1 hts gX9_writesLine_X9_writes rfl rfl rfl kd_X9_writes ⟨Nat.le_of_ble_eq_true rfl, Nat.le_of_ble_eq_true rfl⟩) ⟨mB_blind, m_recv hK hP, m_pre hK hP _⟩ rfl rfl hl.1 rfl (lv_room (Nat.le_of_ble_eq_true rfl)) dX9_writesLine_169 ⟨Nat.le_of_ble_eq_true rfl, Nat.le_of_ble_eq_true rfl⟩) hS (fun _ _ h => h) (fun _ h => h) (fun u U8 H1 locs1 ht hvm hr_28 hP1 hz1 hk1 hS1 => ?_)
          rw [ht] at hP1
          clear hS
          have hS := hS1
          have hP : va_P D vwCl (mws ad cI cZ cC th (m_wr (m_wr (m_wr (m_wr (m_wr (m_wr (m_wr (m_wr (m_wr (m_wr (m_wr (mu M 33 0 0) 35) (48 + (a % 10))) 32) 84) (48 + ((M 17 a) / 3))) 76) (48 + ((M 17 a) % 3))) 32) 66) (48 + (M 18 a))) 83)) H1 := hP1
          generalize H1 = H at hP hS ⊢
          have hM_29 : MI (m_wr (m_wr (m_wr (m_wr (m_wr (m_wr (m_wr (m_wr (m_wr (m_wr (m_wr (mu M 33 0 0) 35) (48 + (a % 10))) 32) 84) (48 + ((M 17 a) / 3))) 76) (48 + ((M 17 a) % 3))) 32) 66) (48 + (M 18 a))) 83) := (MI_wr hM_21 (by omega) (by show 10 < 20; decide))
          have eM_30 : m_wl M a = m_wr (m_wr (m_wr (m_wr (m_wr (m_wr (m_wr (m_wr (m_wr (m_wr (m_wr (mu M 33 0 0) 35) (48 + (a % 10))) 32) 84) (48 + ((M 17 a) / 3))) 76) (48 + ((M 17 a) % 3))) 32) 66) (48 + (M 18 a))) 83 := by first | (exfalso; omega) | (simp [m_wl, m_ll, List.foldl, c_3, c_22, c_23, c_24]; done) | (simp [m_wl, m_ll, List.foldl, Nat.not_lt.mpr c_3, c_3, c_22, c_23, c_24]; done) | (simp [m_wl, m_ll, List.foldl, show ¬ 9 < a from by omega, c_3, c_22, c_23, c_24])
          exact W.vret hx hb hr (fun U9 ht hW => ⟨⟨(), rfl, trivial, by show va_P D vwCl _ U9.heap; rw [ht, eM_30]; exact hP⟩, hS.F ht⟩) hS.2.2 dX9_writesLine_172
      · refine lv_bipush (v := nI 86) hx hb dX9_writesLine_148 (by decide) ?_
        refine lv_goto (tgt := 169) hx hb dX9_writesLine_150 (by decide) ?_
        refine va_callv (va_runV (As := [.int (nI 86)]) (rest := []) ⟨hx, hb, hml, hown, hts⟩ (c9_writes l D ad cI cZ cC th (m_wr (m_wr (m_wr (m_wr (m_wr (m_wr (m_wr (m_wr (m_wr (m_wr (mu M 33 0 0) 35) (48 + (a % 10))) 32) 84) (48 + ((M 17 a) / 3))) 76) (48 + ((M 17 a) % 3))) 32) 66) (48 + (M 18 a))) hM_21 hD  86 (by omega) (by show 10 < 20; decide)) (cwV 1 hts gX9_writesLine_X9_writes rfl rfl rfl kd_X9_writes ⟨Nat.le_of_ble_eq_true rfl, Nat.le_of_ble_eq_true rfl⟩) ⟨mB_blind, m_recv hK hP, m_pre hK hP _⟩ rfl rfl hl.1 rfl (lv_room (Nat.le_of_ble_eq_true rfl)) dX9_writesLine_169 ⟨Nat.le_of_ble_eq_true rfl, Nat.le_of_ble_eq_true rfl⟩) hS (fun _ _ h => h) (fun _ h => h) (fun u U8 H1 locs1 ht hvm hr_31 hP1 hz1 hk1 hS1 => ?_)
        rw [ht] at hP1
        clear hS
        have hS := hS1
        have hP : va_P D vwCl (mws ad cI cZ cC th (m_wr (m_wr (m_wr (m_wr (m_wr (m_wr (m_wr (m_wr (m_wr (m_wr (m_wr (mu M 33 0 0) 35) (48 + (a % 10))) 32) 84) (48 + ((M 17 a) / 3))) 76) (48 + ((M 17 a) % 3))) 32) 66) (48 + (M 18 a))) 86)) H1 := hP1
        generalize H1 = H at hP hS ⊢
        have hM_32 : MI (m_wr (m_wr (m_wr (m_wr (m_wr (m_wr (m_wr (m_wr (m_wr (m_wr (m_wr (mu M 33 0 0) 35) (48 + (a % 10))) 32) 84) (48 + ((M 17 a) / 3))) 76) (48 + ((M 17 a) % 3))) 32) 66) (48 + (M 18 a))) 86) := (MI_wr hM_21 (by omega) (by show 10 < 20; decide))
        have eM_33 : m_wl M a = m_wr (m_wr (m_wr (m_wr (m_wr (m_wr (m_wr (m_wr (m_wr (m_wr (m_wr (mu M 33 0 0) 35) (48 + (a % 10))) 32) 84) (48 + ((M 17 a) / 3))) 76) (48 + ((M 17 a) % 3))) 32) 66) (48 + (M 18 a))) 86 := by first | (exfalso; omega) | (simp [m_wl, m_ll, List.foldl, c_3, c_22, c_23]; done) | (simp [m_wl, m_ll, List.foldl, Nat.not_lt.mpr c_3, c_3, c_22, c_23]; done) | (simp [m_wl, m_ll, List.foldl, show ¬ 9 < a from by omega, c_3, c_22, c_23])
        exact W.vret hx hb hr (fun U9 ht hW => ⟨⟨(), rfl, trivial, by show va_P D vwCl _ U9.heap; rw [ht, eM_33]; exact hP⟩, hS.F ht⟩) hS.2.2 dX9_writesLine_172
    · refine lv_aload_n hx hb dX9_writesLine_121 rfl (lv_at hl 0 rfl) ?_
      refine m_get hx hb hts hin hown hK hP 21 (by decide) l_signed rfl dX9_writesLine_122 ?_
      refine lv_iload_n hx hb dX9_writesLine_125 rfl (lv_at hl 1 rfl) ?_
      refine m_iald (f := 21) hx hb hK hP 17 rfl (by omega) (by decide) dX9_writesLine_126 ?_
      rw [show (m_wr (m_wr (m_wr (m_wr (m_wr (m_wr (m_wr (m_wr (m_wr (m_wr (mu M 33 0 0) 35) (48 + (a % 10))) 32) 84) (48 + ((M 17 a) / 3))) 76) (48 + ((M 17 a) % 3))) 32) 66) (48 + (M 18 a))) 21 a = M 21 a from rfl]
      refine n_if_gt (tgt := 138) hx hb dX9_writesLine_127 (by decide) (by have f1 : M 21 a ≤ 60 := hM_21 21 a; omega) (fun c_34 => ?_) (fun c_34 => ?_)
      · refine lv_aload_n hx hb dX9_writesLine_138 rfl (lv_at hl 0 rfl) ?_
        refine lv_aload_n hx hb dX9_writesLine_139 rfl (lv_at hl 0 rfl) ?_
        refine m_get hx hb hts hin hown hK hP 20 (by decide) l_isVoid rfl dX9_writesLine_140 ?_
        refine lv_iload_n hx hb dX9_writesLine_143 rfl (lv_at hl 1 rfl) ?_
        refine m_zald (f := 20) hx hb hK hP 16 rfl (by omega) (by decide) dX9_writesLine_144 ?_
        rw [show (m_wr (m_wr (m_wr (m_wr (m_wr (m_wr (m_wr (m_wr (m_wr (m_wr (mu M 33 0 0) 35) (48 + (a % 10))) 32) 84) (48 + ((M 17 a) / 3))) 76) (48 + ((M 17 a) % 3))) 32) 66) (48 + (M 18 a))) 20 a = M 20 a from rfl]
        refine n_if_eq (tgt := 153) hx hb dX9_writesLine_145 (by decide) (by have f1 : M 20 a ≤ 1 := hM_21 20 a; omega) (fun c_35 => ?_) (fun c_35 => ?_)
        · refine lv_aload_n hx hb dX9_writesLine_153 rfl (lv_at hl 0 rfl) ?_
          refine m_get hx hb hts hin hown hK hP 21 (by decide) l_signed rfl dX9_writesLine_154 ?_
          refine lv_iload_n hx hb dX9_writesLine_157 rfl (lv_at hl 1 rfl) ?_
          refine m_iald (f := 21) hx hb hK hP 17 rfl (by omega) (by decide) dX9_writesLine_158 ?_
          rw [show (m_wr (m_wr (m_wr (m_wr (m_wr (m_wr (m_wr (m_wr (m_wr (m_wr (mu M 33 0 0) 35) (48 + (a % 10))) 32) 84) (48 + ((M 17 a) / 3))) 76) (48 + ((M 17 a) % 3))) 32) 66) (48 + (M 18 a))) 21 a = M 21 a from rfl]
          refine n_if_le (tgt := 167) hx hb dX9_writesLine_159 (by decide) (by have f1 : M 21 a ≤ 60 := hM_21 21 a; omega) (fun c_36 => ?_) (fun c_36 => ?_)
          · refine lv_bipush (v := nI 70) hx hb dX9_writesLine_167 (by decide) ?_
            refine va_callv (va_runV (As := [.int (nI 70)]) (rest := []) ⟨hx, hb, hml, hown, hts⟩ (c9_writes l D ad cI cZ cC th (m_wr (m_wr (m_wr (m_wr (m_wr (m_wr (m_wr (m_wr (m_wr (m_wr (mu M 33 0 0) 35) (48 + (a % 10))) 32) 84) (48 + ((M 17 a) / 3))) 76) (48 + ((M 17 a) % 3))) 32) 66) (48 + (M 18 a))) hM_21 hD  70 (by omega) (by show 10 < 20; decide)) (cwV 1 hts gX9_writesLine_X9_writes rfl rfl rfl kd_X9_writes ⟨Nat.le_of_ble_eq_true rfl, Nat.le_of_ble_eq_true rfl⟩) ⟨mB_blind, m_recv hK hP, m_pre hK hP _⟩ rfl rfl hl.1 rfl (lv_room (Nat.le_of_ble_eq_true rfl)) dX9_writesLine_169 ⟨Nat.le_of_ble_eq_true rfl, Nat.le_of_ble_eq_true rfl⟩) hS (fun _ _ h => h) (fun _ h => h) (fun u U8 H1 locs1 ht hvm hr_37 hP1 hz1 hk1 hS1 => ?_)
            rw [ht] at hP1
            clear hS
            have hS := hS1
            have hP : va_P D vwCl (mws ad cI cZ cC th (m_wr (m_wr (m_wr (m_wr (m_wr (m_wr (m_wr (m_wr (m_wr (m_wr (m_wr (mu M 33 0 0) 35) (48 + (a % 10))) 32) 84) (48 + ((M 17 a) / 3))) 76) (48 + ((M 17 a) % 3))) 32) 66) (48 + (M 18 a))) 70)) H1 := hP1
            generalize H1 = H at hP hS ⊢
            have hM_38 : MI (m_wr (m_wr (m_wr (m_wr (m_wr (m_wr (m_wr (m_wr (m_wr (m_wr (m_wr (mu M 33 0 0) 35) (48 + (a % 10))) 32) 84) (48 + ((M 17 a) / 3))) 76) (48 + ((M 17 a) % 3))) 32) 66) (48 + (M 18 a))) 70) := (MI_wr hM_21 (by omega) (by show 10 < 20; decide))
            have eM_39 : m_wl M a = m_wr (m_wr (m_wr (m_wr (m_wr (m_wr (m_wr (m_wr (m_wr (m_wr (m_wr (mu M 33 0 0) 35) (48 + (a % 10))) 32) 84) (48 + ((M 17 a) / 3))) 76) (48 + ((M 17 a) % 3))) 32) 66) (48 + (M 18 a))) 70 := by first | (exfalso; omega) | (simp [m_wl, m_ll, List.foldl, c_3, c_22, c_34, c_35, c_36]; done) | (simp [m_wl, m_ll, List.foldl, Nat.not_lt.mpr c_3, c_3, c_22, c_34, c_35, c_36]; done) | (simp [m_wl, m_ll, List.foldl, show ¬ 9 < a from by omega, c_3, c_22, c_34, c_35, c_36])
            exact W.vret hx hb hr (fun U9 ht hW => ⟨⟨(), rfl, trivial, by show va_P D vwCl _ U9.heap; rw [ht, eM_39]; exact hP⟩, hS.F ht⟩) hS.2.2 dX9_writesLine_172
          · refine lv_bipush (v := nI 83) hx hb dX9_writesLine_162 (by decide) ?_
            refine lv_goto (tgt := 169) hx hb dX9_writesLine_164 (by decide) ?_
            refine va_callv (va_runV (As := [.int (nI 83)]) (rest := []) ⟨hx, hb, hml, hown, hts⟩ (c9_writes l D ad cI cZ cC th (m_wr (m_wr (m_wr (m_wr (m_wr (m_wr (m_wr (m_wr (m_wr (m_wr (mu M 33 0 0) 35) (48 + (a % 10))) 32) 84) (48 + ((M 17 a) / 3))) 76) (48 + ((M 17 a) % 3))) 32) 66) (48 + (M 18 a))) hM_21 hD  83 (by omega) (by show 10 < 20; decide)) (cwV 1 hts gX9_writesLine_X9_writes rfl rfl rfl kd_X9_writes ⟨Nat.le_of_ble_eq_true rfl, Nat.le_of_ble_eq_true rfl⟩) ⟨mB_blind, m_recv hK hP, m_pre hK hP _⟩ rfl rfl hl.1 rfl (lv_room (Nat.le_of_ble_eq_true rfl)) dX9_writesLine_169 ⟨Nat.le_of_ble_eq_true rfl, Nat.le_of_ble_eq_true rfl⟩) hS (fun _ _ h => h) (fun _ h => h) (fun u U8 H1 locs1 ht hvm hr_40 hP1 hz1 hk1 hS1 => ?_)
            rw [ht] at hP1
            clear hS
            have hS := hS1
            have hP : va_P D vwCl (mws ad cI cZ cC th (m_wr (m_wr (m_wr (m_wr (m_wr (m_wr (m_wr (m_wr (m_wr (m_wr (m_wr (mu M 33 0 0) 35) (48 + (a % 10))) 32) 84) (48 + ((M 17 a) / 3))) 76) (48 + ((M 17 a) % 3))) 32) 66) (48 + (M 18 a))) 83)) H1 := hP1
            generalize H1 = H at hP hS ⊢
            have hM_41 : MI (m_wr (m_wr (m_wr (m_wr (m_wr (m_wr (m_wr (m_wr (m_wr (m_wr (m_wr (mu M 33 0 0) 35) (48 + (a % 10))) 32) 84) (48 + ((M 17 a) / 3))) 76) (48 + ((M 17 a) % 3))) 32) 66) (48 + (M 18 a))) 83) := (MI_wr hM_21 (by omega) (by show 10 < 20; decide))
            have eM_42 : m_wl M a = m_wr (m_wr (m_wr (m_wr (m_wr (m_wr (m_wr (m_wr (m_wr (m_wr (m_wr (mu M 33 0 0) 35) (48 + (a % 10))) 32) 84) (48 + ((M 17 a) / 3))) 76) (48 + ((M 17 a) % 3))) 32) 66) (48 + (M 18 a))) 83 := by first | (exfalso; omega) | (simp [m_wl, m_ll, List.foldl, c_3, c_22, c_34, c_35, c_36]; done) | (simp [m_wl, m_ll, List.foldl, Nat.not_lt.mpr c_3, c_3, c_22, c_34, c_35, c_36]; done) | (simp [m_wl, m_ll, List.foldl, show ¬ 9 < a from by omega, c_3, c_22, c_34, c_35, c_36])
            exact W.vret hx hb hr (fun U9 ht hW => ⟨⟨(), rfl, trivial, by show va_P D vwCl _ U9.heap; rw [ht, eM_42]; exact hP⟩, hS.F ht⟩) hS.2.2 dX9_writesLine_172
        · refine lv_bipush (v := nI 86) hx hb dX9_writesLine_148 (by decide) ?_
          refine lv_goto (tgt := 169) hx hb dX9_writesLine_150 (by decide) ?_
          refine va_callv (va_runV (As := [.int (nI 86)]) (rest := []) ⟨hx, hb, hml, hown, hts⟩ (c9_writes l D ad cI cZ cC th (m_wr (m_wr (m_wr (m_wr (m_wr (m_wr (m_wr (m_wr (m_wr (m_wr (mu M 33 0 0) 35) (48 + (a % 10))) 32) 84) (48 + ((M 17 a) / 3))) 76) (48 + ((M 17 a) % 3))) 32) 66) (48 + (M 18 a))) hM_21 hD  86 (by omega) (by show 10 < 20; decide)) (cwV 1 hts gX9_writesLine_X9_writes rfl rfl rfl kd_X9_writes ⟨Nat.le_of_ble_eq_true rfl, Nat.le_of_ble_eq_true rfl⟩) ⟨mB_blind, m_recv hK hP, m_pre hK hP _⟩ rfl rfl hl.1 rfl (lv_room (Nat.le_of_ble_eq_true rfl)) dX9_writesLine_169 ⟨Nat.le_of_ble_eq_true rfl, Nat.le_of_ble_eq_true rfl⟩) hS (fun _ _ h => h) (fun _ h => h) (fun u U8 H1 locs1 ht hvm hr_43 hP1 hz1 hk1 hS1 => ?_)
          rw [ht] at hP1
          clear hS
          have hS := hS1
          have hP : va_P D vwCl (mws ad cI cZ cC th (m_wr (m_wr (m_wr (m_wr (m_wr (m_wr (m_wr (m_wr (m_wr (m_wr (m_wr (mu M 33 0 0) 35) (48 + (a % 10))) 32) 84) (48 + ((M 17 a) / 3))) 76) (48 + ((M 17 a) % 3))) 32) 66) (48 + (M 18 a))) 86)) H1 := hP1
          generalize H1 = H at hP hS ⊢
          have hM_44 : MI (m_wr (m_wr (m_wr (m_wr (m_wr (m_wr (m_wr (m_wr (m_wr (m_wr (m_wr (mu M 33 0 0) 35) (48 + (a % 10))) 32) 84) (48 + ((M 17 a) / 3))) 76) (48 + ((M 17 a) % 3))) 32) 66) (48 + (M 18 a))) 86) := (MI_wr hM_21 (by omega) (by show 10 < 20; decide))
          have eM_45 : m_wl M a = m_wr (m_wr (m_wr (m_wr (m_wr (m_wr (m_wr (m_wr (m_wr (m_wr (m_wr (mu M 33 0 0) 35) (48 + (a % 10))) 32) 84) (48 + ((M 17 a) / 3))) 76) (48 + ((M 17 a) % 3))) 32) 66) (48 + (M 18 a))) 86 := by first | (exfalso; omega) | (simp [m_wl, m_ll, List.foldl, c_3, c_22, c_34, c_35]; done) | (simp [m_wl, m_ll, List.foldl, Nat.not_lt.mpr c_3, c_3, c_22, c_34, c_35]; done) | (simp [m_wl, m_ll, List.foldl, show ¬ 9 < a from by omega, c_3, c_22, c_34, c_35])
          exact W.vret hx hb hr (fun U9 ht hW => ⟨⟨(), rfl, trivial, by show va_P D vwCl _ U9.heap; rw [ht, eM_45]; exact hP⟩, hS.F ht⟩) hS.2.2 dX9_writesLine_172
      · refine lv_aload_n hx hb dX9_writesLine_130 rfl (lv_at hl 0 rfl) ?_
        refine lv_iload_n hx hb dX9_writesLine_131 rfl (lv_at hl 1 rfl) ?_
        refine vp_callSi (W.runV (As := [.int (nI a)]) (rest := []) ⟨hx, hb, hml, hown, hts⟩ (c9_isFinalNow l D ad cI cZ cC th (m_wr (m_wr (m_wr (m_wr (m_wr (m_wr (m_wr (m_wr (m_wr (m_wr (mu M 33 0 0) 35) (48 + (a % 10))) 32) 84) (48 + ((M 17 a) / 3))) 76) (48 + ((M 17 a) % 3))) 32) 66) (48 + (M 18 a))) hM_21  a (by omega)) (cwV 1 hts gX9_writesLine_X9_isFinalNow rfl rfl rfl kd_X9_isFinalNow ⟨Nat.le_of_ble_eq_true rfl, Nat.le_of_ble_eq_true rfl⟩) ⟨mB_blind, m_recv hK hP, m_pre hK hP _⟩ rfl rfl hl.1 rfl (lv_room (Nat.le_of_ble_eq_true rfl)) dX9_writesLine_132 ⟨Nat.le_of_ble_eq_true rfl, Nat.le_of_ble_eq_true rfl⟩) (fun r_46 hr_46 => ?_)
        subst hr_46
        refine b_if_eq (tgt := 172) hx hb dX9_writesLine_135 (by decide)  (fun c_47 => ?_) (fun c_47 => ?_)
        · have cc_48 : m_fn M a = false := (m_fn_cong (M := M) (M' := m_wr (m_wr (m_wr (m_wr (m_wr (m_wr (m_wr (m_wr (m_wr (m_wr (mu M 33 0 0) 35) (48 + (a % 10))) 32) 84) (48 + ((M 17 a) / 3))) 76) (48 + ((M 17 a) % 3))) 32) 66) (48 + (M 18 a))) rfl rfl rfl rfl rfl rfl rfl rfl a).symm.trans c_47
          have eM_49 : m_wl M a = m_wr (m_wr (m_wr (m_wr (m_wr (m_wr (m_wr (m_wr (m_wr (m_wr (mu M 33 0 0) 35) (48 + (a % 10))) 32) 84) (48 + ((M 17 a) / 3))) 76) (48 + ((M 17 a) % 3))) 32) 66) (48 + (M 18 a)) := by first | (exfalso; omega) | (simp [m_wl, m_ll, List.foldl, c_3, c_22, c_34, cc_48]; done) | (simp [m_wl, m_ll, List.foldl, Nat.not_lt.mpr c_3, c_3, c_22, c_34, cc_48]; done) | (simp [m_wl, m_ll, List.foldl, show ¬ 9 < a from by omega, c_3, c_22, c_34, cc_48])
          exact W.vret hx hb hr (fun U9 ht hW => ⟨⟨(), rfl, trivial, by show va_P D vwCl _ U9.heap; rw [ht, eM_49]; exact hP⟩, hS.F ht⟩) hS.2.2 dX9_writesLine_172
        · have cc_50 : m_fn M a = true := (m_fn_cong (M := M) (M' := m_wr (m_wr (m_wr (m_wr (m_wr (m_wr (m_wr (m_wr (m_wr (m_wr (mu M 33 0 0) 35) (48 + (a % 10))) 32) 84) (48 + ((M 17 a) / 3))) 76) (48 + ((M 17 a) % 3))) 32) 66) (48 + (M 18 a))) rfl rfl rfl rfl rfl rfl rfl rfl a).symm.trans c_47
          refine lv_aload_n hx hb dX9_writesLine_138 rfl (lv_at hl 0 rfl) ?_
          refine lv_aload_n hx hb dX9_writesLine_139 rfl (lv_at hl 0 rfl) ?_
          refine m_get hx hb hts hin hown hK hP 20 (by decide) l_isVoid rfl dX9_writesLine_140 ?_
          refine lv_iload_n hx hb dX9_writesLine_143 rfl (lv_at hl 1 rfl) ?_
          refine m_zald (f := 20) hx hb hK hP 16 rfl (by omega) (by decide) dX9_writesLine_144 ?_
          rw [show (m_wr (m_wr (m_wr (m_wr (m_wr (m_wr (m_wr (m_wr (m_wr (m_wr (mu M 33 0 0) 35) (48 + (a % 10))) 32) 84) (48 + ((M 17 a) / 3))) 76) (48 + ((M 17 a) % 3))) 32) 66) (48 + (M 18 a))) 20 a = M 20 a from rfl]
          refine n_if_eq (tgt := 153) hx hb dX9_writesLine_145 (by decide) (by have f1 : M 20 a ≤ 1 := hM_21 20 a; omega) (fun c_51 => ?_) (fun c_51 => ?_)
          · refine lv_aload_n hx hb dX9_writesLine_153 rfl (lv_at hl 0 rfl) ?_
            refine m_get hx hb hts hin hown hK hP 21 (by decide) l_signed rfl dX9_writesLine_154 ?_
            refine lv_iload_n hx hb dX9_writesLine_157 rfl (lv_at hl 1 rfl) ?_
            refine m_iald (f := 21) hx hb hK hP 17 rfl (by omega) (by decide) dX9_writesLine_158 ?_
            rw [show (m_wr (m_wr (m_wr (m_wr (m_wr (m_wr (m_wr (m_wr (m_wr (m_wr (mu M 33 0 0) 35) (48 + (a % 10))) 32) 84) (48 + ((M 17 a) / 3))) 76) (48 + ((M 17 a) % 3))) 32) 66) (48 + (M 18 a))) 21 a = M 21 a from rfl]
            refine n_if_le (tgt := 167) hx hb dX9_writesLine_159 (by decide) (by have f1 : M 21 a ≤ 60 := hM_21 21 a; omega) (fun c_52 => ?_) (fun c_52 => ?_)
            · refine lv_bipush (v := nI 70) hx hb dX9_writesLine_167 (by decide) ?_
              refine va_callv (va_runV (As := [.int (nI 70)]) (rest := []) ⟨hx, hb, hml, hown, hts⟩ (c9_writes l D ad cI cZ cC th (m_wr (m_wr (m_wr (m_wr (m_wr (m_wr (m_wr (m_wr (m_wr (m_wr (mu M 33 0 0) 35) (48 + (a % 10))) 32) 84) (48 + ((M 17 a) / 3))) 76) (48 + ((M 17 a) % 3))) 32) 66) (48 + (M 18 a))) hM_21 hD  70 (by omega) (by show 10 < 20; decide)) (cwV 1 hts gX9_writesLine_X9_writes rfl rfl rfl kd_X9_writes ⟨Nat.le_of_ble_eq_true rfl, Nat.le_of_ble_eq_true rfl⟩) ⟨mB_blind, m_recv hK hP, m_pre hK hP _⟩ rfl rfl hl.1 rfl (lv_room (Nat.le_of_ble_eq_true rfl)) dX9_writesLine_169 ⟨Nat.le_of_ble_eq_true rfl, Nat.le_of_ble_eq_true rfl⟩) hS (fun _ _ h => h) (fun _ h => h) (fun u U8 H1 locs1 ht hvm hr_53 hP1 hz1 hk1 hS1 => ?_)
              rw [ht] at hP1
              clear hS
              have hS := hS1
              have hP : va_P D vwCl (mws ad cI cZ cC th (m_wr (m_wr (m_wr (m_wr (m_wr (m_wr (m_wr (m_wr (m_wr (m_wr (m_wr (mu M 33 0 0) 35) (48 + (a % 10))) 32) 84) (48 + ((M 17 a) / 3))) 76) (48 + ((M 17 a) % 3))) 32) 66) (48 + (M 18 a))) 70)) H1 := hP1
              generalize H1 = H at hP hS ⊢
              have hM_54 : MI (m_wr (m_wr (m_wr (m_wr (m_wr (m_wr (m_wr (m_wr (m_wr (m_wr (m_wr (mu M 33 0 0) 35) (48 + (a % 10))) 32) 84) (48 + ((M 17 a) / 3))) 76) (48 + ((M 17 a) % 3))) 32) 66) (48 + (M 18 a))) 70) := (MI_wr hM_21 (by omega) (by show 10 < 20; decide))
              have eM_55 : m_wl M a = m_wr (m_wr (m_wr (m_wr (m_wr (m_wr (m_wr (m_wr (m_wr (m_wr (m_wr (mu M 33 0 0) 35) (48 + (a % 10))) 32) 84) (48 + ((M 17 a) / 3))) 76) (48 + ((M 17 a) % 3))) 32) 66) (48 + (M 18 a))) 70 := by first | (exfalso; omega) | (simp [m_wl, m_ll, List.foldl, c_3, c_22, c_34, cc_50, c_51, c_52]; done) | (simp [m_wl, m_ll, List.foldl, Nat.not_lt.mpr c_3, c_3, c_22, c_34, cc_50, c_51, c_52]; done) | (simp [m_wl, m_ll, List.foldl, show ¬ 9 < a from by omega, c_3, c_22, c_34, cc_50, c_51, c_52])
              exact W.vret hx hb hr (fun U9 ht hW => ⟨⟨(), rfl, trivial, by show va_P D vwCl _ U9.heap; rw [ht, eM_55]; exact hP⟩, hS.F ht⟩) hS.2.2 dX9_writesLine_172
            · refine lv_bipush (v := nI 83) hx hb dX9_writesLine_162 (by decide) ?_
              refine lv_goto (tgt := 169) hx hb dX9_writesLine_164 (by decide) ?_
              refine va_callv (va_runV (As := [.int (nI 83)]) (rest := []) ⟨hx, hb, hml, hown, hts⟩ (c9_writes l D ad cI cZ cC th (m_wr (m_wr (m_wr (m_wr (m_wr (m_wr (m_wr (m_wr (m_wr (m_wr (mu M 33 0 0) 35) (48 + (a % 10))) 32) 84) (48 + ((M 17 a) / 3))) 76) (48 + ((M 17 a) % 3))) 32) 66) (48 + (M 18 a))) hM_21 hD  83 (by omega) (by show 10 < 20; decide)) (cwV 1 hts gX9_writesLine_X9_writes rfl rfl rfl kd_X9_writes ⟨Nat.le_of_ble_eq_true rfl, Nat.le_of_ble_eq_true rfl⟩) ⟨mB_blind, m_recv hK hP, m_pre hK hP _⟩ rfl rfl hl.1 rfl (lv_room (Nat.le_of_ble_eq_true rfl)) dX9_writesLine_169 ⟨Nat.le_of_ble_eq_true rfl, Nat.le_of_ble_eq_true rfl⟩) hS (fun _ _ h => h) (fun _ h => h) (fun u U8 H1 locs1 ht hvm hr_56 hP1 hz1 hk1 hS1 => ?_)
              rw [ht] at hP1
              clear hS
              have hS := hS1
              have hP : va_P D vwCl (mws ad cI cZ cC th (m_wr (m_wr (m_wr (m_wr (m_wr (m_wr (m_wr (m_wr (m_wr (m_wr (m_wr (mu M 33 0 0) 35) (48 + (a % 10))) 32) 84) (48 + ((M 17 a) / 3))) 76) (48 + ((M 17 a) % 3))) 32) 66) (48 + (M 18 a))) 83)) H1 := hP1
              generalize H1 = H at hP hS ⊢
              have hM_57 : MI (m_wr (m_wr (m_wr (m_wr (m_wr (m_wr (m_wr (m_wr (m_wr (m_wr (m_wr (mu M 33 0 0) 35) (48 + (a % 10))) 32) 84) (48 + ((M 17 a) / 3))) 76) (48 + ((M 17 a) % 3))) 32) 66) (48 + (M 18 a))) 83) := (MI_wr hM_21 (by omega) (by show 10 < 20; decide))
              have eM_58 : m_wl M a = m_wr (m_wr (m_wr (m_wr (m_wr (m_wr (m_wr (m_wr (m_wr (m_wr (m_wr (mu M 33 0 0) 35) (48 + (a % 10))) 32) 84) (48 + ((M 17 a) / 3))) 76) (48 + ((M 17 a) % 3))) 32) 66) (48 + (M 18 a))) 83 := by first | (exfalso; omega) | (simp [m_wl, m_ll, List.foldl, c_3, c_22, c_34, cc_50, c_51, c_52]; done) | (simp [m_wl, m_ll, List.foldl, Nat.not_lt.mpr c_3, c_3, c_22, c_34, cc_50, c_51, c_52]; done) | (simp [m_wl, m_ll, List.foldl, show ¬ 9 < a from by omega, c_3, c_22, c_34, cc_50, c_51, c_52])
              exact W.vret hx hb hr (fun U9 ht hW => ⟨⟨(), rfl, trivial, by show va_P D vwCl _ U9.heap; rw [ht, eM_58]; exact hP⟩, hS.F ht⟩) hS.2.2 dX9_writesLine_172
          · refine lv_bipush (v := nI 86) hx hb dX9_writesLine_148 (by decide) ?_
            refine lv_goto (tgt := 169) hx hb dX9_writesLine_150 (by decide) ?_
            refine va_callv (va_runV (As := [.int (nI 86)]) (rest := []) ⟨hx, hb, hml, hown, hts⟩ (c9_writes l D ad cI cZ cC th (m_wr (m_wr (m_wr (m_wr (m_wr (m_wr (m_wr (m_wr (m_wr (m_wr (mu M 33 0 0) 35) (48 + (a % 10))) 32) 84) (48 + ((M 17 a) / 3))) 76) (48 + ((M 17 a) % 3))) 32) 66) (48 + (M 18 a))) hM_21 hD  86 (by omega) (by show 10 < 20; decide)) (cwV 1 hts gX9_writesLine_X9_writes rfl rfl rfl kd_X9_writes ⟨Nat.le_of_ble_eq_true rfl, Nat.le_of_ble_eq_true rfl⟩) ⟨mB_blind, m_recv hK hP, m_pre hK hP _⟩ rfl rfl hl.1 rfl (lv_room (Nat.le_of_ble_eq_true rfl)) dX9_writesLine_169 ⟨Nat.le_of_ble_eq_true rfl, Nat.le_of_ble_eq_true rfl⟩) hS (fun _ _ h => h) (fun _ h => h) (fun u U8 H1 locs1 ht hvm hr_59 hP1 hz1 hk1 hS1 => ?_)
            rw [ht] at hP1
            clear hS
            have hS := hS1
            have hP : va_P D vwCl (mws ad cI cZ cC th (m_wr (m_wr (m_wr (m_wr (m_wr (m_wr (m_wr (m_wr (m_wr (m_wr (m_wr (mu M 33 0 0) 35) (48 + (a % 10))) 32) 84) (48 + ((M 17 a) / 3))) 76) (48 + ((M 17 a) % 3))) 32) 66) (48 + (M 18 a))) 86)) H1 := hP1
            generalize H1 = H at hP hS ⊢
            have hM_60 : MI (m_wr (m_wr (m_wr (m_wr (m_wr (m_wr (m_wr (m_wr (m_wr (m_wr (m_wr (mu M 33 0 0) 35) (48 + (a % 10))) 32) 84) (48 + ((M 17 a) / 3))) 76) (48 + ((M 17 a) % 3))) 32) 66) (48 + (M 18 a))) 86) := (MI_wr hM_21 (by omega) (by show 10 < 20; decide))
            have eM_61 : m_wl M a = m_wr (m_wr (m_wr (m_wr (m_wr (m_wr (m_wr (m_wr (m_wr (m_wr (m_wr (mu M 33 0 0) 35) (48 + (a % 10))) 32) 84) (48 + ((M 17 a) / 3))) 76) (48 + ((M 17 a) % 3))) 32) 66) (48 + (M 18 a))) 86 := by first | (exfalso; omega) | (simp [m_wl, m_ll, List.foldl, c_3, c_22, c_34, cc_50, c_51]; done) | (simp [m_wl, m_ll, List.foldl, Nat.not_lt.mpr c_3, c_3, c_22, c_34, cc_50, c_51]; done) | (simp [m_wl, m_ll, List.foldl, show ¬ 9 < a from by omega, c_3, c_22, c_34, cc_50, c_51])
            exact W.vret hx hb hr (fun U9 ht hW => ⟨⟨(), rfl, trivial, by show va_P D vwCl _ U9.heap; rw [ht, eM_61]; exact hP⟩, hS.F ht⟩) hS.2.2 dX9_writesLine_172
  · refine lv_aload_n hx hb dX9_writesLine_17 rfl (lv_at hl 0 rfl) ?_
    refine lv_bipush (v := nI 48) hx hb dX9_writesLine_18 (by decide) ?_
    refine lv_iload_n hx hb dX9_writesLine_20 rfl (lv_at hl 1 rfl) ?_
    refine lv_bipush (v := nI 10) hx hb dX9_writesLine_21 (by decide) ?_
    refine n_idiv hx hb dX9_writesLine_23 (z := a / 10) (by omega) (by decide) (by decide) rfl ?_
    refine n_iadd hx hb dX9_writesLine_24 (z := 48 + (a / 10)) rfl ?_
    refine va_callv (va_runV (As := [.int (nI (48 + (a / 10)))]) (rest := []) ⟨hx, hb, hml, hown, hts⟩ (c9_writes l D ad cI cZ cC th (m_wr (mu M 33 0 0) 35) hM_2 hD  (48 + (a / 10)) (by omega) (by show 1 < 20; decide)) (cwV 1 hts gX9_writesLine_X9_writes rfl rfl rfl kd_X9_writes ⟨Nat.le_of_ble_eq_true rfl, Nat.le_of_ble_eq_true rfl⟩) ⟨mB_blind, m_recv hK hP, m_pre hK hP _⟩ rfl rfl hl.1 rfl (lv_room (Nat.le_of_ble_eq_true rfl)) dX9_writesLine_25 ⟨Nat.le_of_ble_eq_true rfl, Nat.le_of_ble_eq_true rfl⟩) hS (fun _ _ h => h) (fun _ h => h) (fun u U8 H1 locs1 ht hvm hr_62 hP1 hz1 hk1 hS1 => ?_)
    rw [ht] at hP1
    clear hS
    have hS := hS1
    have hP : va_P D vwCl (mws ad cI cZ cC th (m_wr (m_wr (mu M 33 0 0) 35) (48 + (a / 10)))) H1 := hP1
    generalize H1 = H at hP hS ⊢
    have hM_63 : MI (m_wr (m_wr (mu M 33 0 0) 35) (48 + (a / 10))) := (MI_wr hM_2 (by omega) (by show 1 < 20; decide))
    refine lv_aload_n hx hb dX9_writesLine_28 rfl (lv_at hl 0 rfl) ?_
    refine lv_bipush (v := nI 48) hx hb dX9_writesLine_29 (by decide) ?_
    refine lv_iload_n hx hb dX9_writesLine_31 rfl (lv_at hl 1 rfl) ?_
    refine lv_bipush (v := nI 10) hx hb dX9_writesLine_32 (by decide) ?_
    refine n_irem hx hb dX9_writesLine_34 (z := a % 10) (by omega) (by decide) (by decide) rfl ?_
    refine n_iadd hx hb dX9_writesLine_35 (z := 48 + (a % 10)) rfl ?_
    refine va_callv (va_runV (As := [.int (nI (48 + (a % 10)))]) (rest := []) ⟨hx, hb, hml, hown, hts⟩ (c9_writes l D ad cI cZ cC th (m_wr (m_wr (mu M 33 0 0) 35) (48 + (a / 10))) hM_63 hD  (48 + (a % 10)) (by omega) (by show 2 < 20; decide)) (cwV 1 hts gX9_writesLine_X9_writes rfl rfl rfl kd_X9_writes ⟨Nat.le_of_ble_eq_true rfl, Nat.le_of_ble_eq_true rfl⟩) ⟨mB_blind, m_recv hK hP, m_pre hK hP _⟩ rfl rfl hl.1 rfl (lv_room (Nat.le_of_ble_eq_true rfl)) dX9_writesLine_36 ⟨Nat.le_of_ble_eq_true rfl, Nat.le_of_ble_eq_true rfl⟩) hS (fun _ _ h => h) (fun _ h => h) (fun u U8 H1 locs1 ht hvm hr_64 hP1 hz1 hk1 hS1 => ?_)
    rw [ht] at hP1
    clear hS
    have hS := hS1
    have hP : va_P D vwCl (mws ad cI cZ cC th (m_wr (m_wr (m_wr (mu M 33 0 0) 35) (48 + (a / 10))) (48 + (a % 10)))) H1 := hP1
    generalize H1 = H at hP hS ⊢
    have hM_65 : MI (m_wr (m_wr (m_wr (mu M 33 0 0) 35) (48 + (a / 10))) (48 + (a % 10))) := (MI_wr hM_63 (by omega) (by show 2 < 20; decide))
    refine lv_aload_n hx hb dX9_writesLine_39 rfl (lv_at hl 0 rfl) ?_
    refine lv_bipush (v := nI 32) hx hb dX9_writesLine_40 (by decide) ?_
    refine va_callv (va_runV (As := [.int (nI 32)]) (rest := []) ⟨hx, hb, hml, hown, hts⟩ (c9_writes l D ad cI cZ cC th (m_wr (m_wr (m_wr (mu M 33 0 0) 35) (48 + (a / 10))) (48 + (a % 10))) hM_65 hD  32 (by omega) (by show 3 < 20; decide)) (cwV 1 hts gX9_writesLine_X9_writes rfl rfl rfl kd_X9_writes ⟨Nat.le_of_ble_eq_true rfl, Nat.le_of_ble_eq_true rfl⟩) ⟨mB_blind, m_recv hK hP, m_pre hK hP _⟩ rfl rfl hl.1 rfl (lv_room (Nat.le_of_ble_eq_true rfl)) dX9_writesLine_42 ⟨Nat.le_of_ble_eq_true rfl, Nat.le_of_ble_eq_true rfl⟩) hS (fun _ _ h => h) (fun _ h => h) (fun u U8 H1 locs1 ht hvm hr_66 hP1 hz1 hk1 hS1 => ?_)
    rw [ht] at hP1
    clear hS
    have hS := hS1
    have hP : va_P D vwCl (mws ad cI cZ cC th (m_wr (m_wr (m_wr (m_wr (mu M 33 0 0) 35) (48 + (a / 10))) (48 + (a % 10))) 32)) H1 := hP1
    generalize H1 = H at hP hS ⊢
    have hM_67 : MI (m_wr (m_wr (m_wr (m_wr (mu M 33 0 0) 35) (48 + (a / 10))) (48 + (a % 10))) 32) := (MI_wr hM_65 (by omega) (by show 3 < 20; decide))
    refine lv_aload_n hx hb dX9_writesLine_45 rfl (lv_at hl 0 rfl) ?_
    refine lv_bipush (v := nI 84) hx hb dX9_writesLine_46 (by decide) ?_
    refine va_callv (va_runV (As := [.int (nI 84)]) (rest := []) ⟨hx, hb, hml, hown, hts⟩ (c9_writes l D ad cI cZ cC th (m_wr (m_wr (m_wr (m_wr (mu M 33 0 0) 35) (48 + (a / 10))) (48 + (a % 10))) 32) hM_67 hD  84 (by omega) (by show 4 < 20; decide)) (cwV 1 hts gX9_writesLine_X9_writes rfl rfl rfl kd_X9_writes ⟨Nat.le_of_ble_eq_true rfl, Nat.le_of_ble_eq_true rfl⟩) ⟨mB_blind, m_recv hK hP, m_pre hK hP _⟩ rfl rfl hl.1 rfl (lv_room (Nat.le_of_ble_eq_true rfl)) dX9_writesLine_48 ⟨Nat.le_of_ble_eq_true rfl, Nat.le_of_ble_eq_true rfl⟩) hS (fun _ _ h => h) (fun _ h => h) (fun u U8 H1 locs1 ht hvm hr_68 hP1 hz1 hk1 hS1 => ?_)
    rw [ht] at hP1
    clear hS
    have hS := hS1
    have hP : va_P D vwCl (mws ad cI cZ cC th (m_wr (m_wr (m_wr (m_wr (m_wr (mu M 33 0 0) 35) (48 + (a / 10))) (48 + (a % 10))) 32) 84)) H1 := hP1
    generalize H1 = H at hP hS ⊢
    have hM_69 : MI (m_wr (m_wr (m_wr (m_wr (m_wr (mu M 33 0 0) 35) (48 + (a / 10))) (48 + (a % 10))) 32) 84) := (MI_wr hM_67 (by omega) (by show 4 < 20; decide))
    refine lv_aload_n hx hb dX9_writesLine_51 rfl (lv_at hl 0 rfl) ?_
    refine lv_bipush (v := nI 48) hx hb dX9_writesLine_52 (by decide) ?_
    refine lv_aload_n hx hb dX9_writesLine_54 rfl (lv_at hl 0 rfl) ?_
    refine m_get hx hb hts hin hown hK hP 17 (by decide) l_lotOf rfl dX9_writesLine_55 ?_
    refine lv_iload_n hx hb dX9_writesLine_58 rfl (lv_at hl 1 rfl) ?_
    refine m_iald (f := 17) hx hb hK hP 13 rfl (by omega) (by decide) dX9_writesLine_59 ?_
    rw [show (m_wr (m_wr (m_wr (m_wr (m_wr (mu M 33 0 0) 35) (48 + (a / 10))) (48 + (a % 10))) 32) 84) 17 a = M 17 a from rfl]
    refine lv_iconst (v := nI 3) hx hb dX9_writesLine_60 (by decide) ?_
    refine n_idiv hx hb dX9_writesLine_61 (z := (M 17 a) / 3) (by have f1 : M 17 a ≤ 17 := hM_69 17 a; omega) (by decide) (by decide) rfl ?_
    refine n_iadd hx hb dX9_writesLine_62 (z := 48 + ((M 17 a) / 3)) rfl ?_
    refine va_callv (va_runV (As := [.int (nI (48 + ((M 17 a) / 3)))]) (rest := []) ⟨hx, hb, hml, hown, hts⟩ (c9_writes l D ad cI cZ cC th (m_wr (m_wr (m_wr (m_wr (m_wr (mu M 33 0 0) 35) (48 + (a / 10))) (48 + (a % 10))) 32) 84) hM_69 hD  (48 + ((M 17 a) / 3)) (by have f1 : M 17 a ≤ 17 := hM_69 17 a; omega) (by show 5 < 20; decide)) (cwV 1 hts gX9_writesLine_X9_writes rfl rfl rfl kd_X9_writes ⟨Nat.le_of_ble_eq_true rfl, Nat.le_of_ble_eq_true rfl⟩) ⟨mB_blind, m_recv hK hP, m_pre hK hP _⟩ rfl rfl hl.1 rfl (lv_room (Nat.le_of_ble_eq_true rfl)) dX9_writesLine_63 ⟨Nat.le_of_ble_eq_true rfl, Nat.le_of_ble_eq_true rfl⟩) hS (fun _ _ h => h) (fun _ h => h) (fun u U8 H1 locs1 ht hvm hr_70 hP1 hz1 hk1 hS1 => ?_)
    rw [ht] at hP1
    clear hS
    have hS := hS1
    have hP : va_P D vwCl (mws ad cI cZ cC th (m_wr (m_wr (m_wr (m_wr (m_wr (m_wr (mu M 33 0 0) 35) (48 + (a / 10))) (48 + (a % 10))) 32) 84) (48 + ((M 17 a) / 3)))) H1 := hP1
    generalize H1 = H at hP hS ⊢
    have hM_71 : MI (m_wr (m_wr (m_wr (m_wr (m_wr (m_wr (mu M 33 0 0) 35) (48 + (a / 10))) (48 + (a % 10))) 32) 84) (48 + ((M 17 a) / 3))) := (MI_wr hM_69 (by have f1 : M 17 a ≤ 17 := hM_69 17 a; omega) (by show 5 < 20; decide))
    refine lv_aload_n hx hb dX9_writesLine_66 rfl (lv_at hl 0 rfl) ?_
    refine lv_bipush (v := nI 76) hx hb dX9_writesLine_67 (by decide) ?_
    refine va_callv (va_runV (As := [.int (nI 76)]) (rest := []) ⟨hx, hb, hml, hown, hts⟩ (c9_writes l D ad cI cZ cC th (m_wr (m_wr (m_wr (m_wr (m_wr (m_wr (mu M 33 0 0) 35) (48 + (a / 10))) (48 + (a % 10))) 32) 84) (48 + ((M 17 a) / 3))) hM_71 hD  76 (by omega) (by show 6 < 20; decide)) (cwV 1 hts gX9_writesLine_X9_writes rfl rfl rfl kd_X9_writes ⟨Nat.le_of_ble_eq_true rfl, Nat.le_of_ble_eq_true rfl⟩) ⟨mB_blind, m_recv hK hP, m_pre hK hP _⟩ rfl rfl hl.1 rfl (lv_room (Nat.le_of_ble_eq_true rfl)) dX9_writesLine_69 ⟨Nat.le_of_ble_eq_true rfl, Nat.le_of_ble_eq_true rfl⟩) hS (fun _ _ h => h) (fun _ h => h) (fun u U8 H1 locs1 ht hvm hr_72 hP1 hz1 hk1 hS1 => ?_)
    rw [ht] at hP1
    clear hS
    have hS := hS1
    have hP : va_P D vwCl (mws ad cI cZ cC th (m_wr (m_wr (m_wr (m_wr (m_wr (m_wr (m_wr (mu M 33 0 0) 35) (48 + (a / 10))) (48 + (a % 10))) 32) 84) (48 + ((M 17 a) / 3))) 76)) H1 := hP1
    generalize H1 = H at hP hS ⊢
    have hM_73 : MI (m_wr (m_wr (m_wr (m_wr (m_wr (m_wr (m_wr (mu M 33 0 0) 35) (48 + (a / 10))) (48 + (a % 10))) 32) 84) (48 + ((M 17 a) / 3))) 76) := (MI_wr hM_71 (by omega) (by show 6 < 20; decide))
    refine lv_aload_n hx hb dX9_writesLine_72 rfl (lv_at hl 0 rfl) ?_
    refine lv_bipush (v := nI 48) hx hb dX9_writesLine_73 (by decide) ?_
    refine lv_aload_n hx hb dX9_writesLine_75 rfl (lv_at hl 0 rfl) ?_
    refine m_get hx hb hts hin hown hK hP 17 (by decide) l_lotOf rfl dX9_writesLine_76 ?_
    refine lv_iload_n hx hb dX9_writesLine_79 rfl (lv_at hl 1 rfl) ?_
    refine m_iald (f := 17) hx hb hK hP 13 rfl (by omega) (by decide) dX9_writesLine_80 ?_
    rw [show (m_wr (m_wr (m_wr (m_wr (m_wr (m_wr (m_wr (mu M 33 0 0) 35) (48 + (a / 10))) (48 + (a % 10))) 32) 84) (48 + ((M 17 a) / 3))) 76) 17 a = M 17 a from rfl]
    refine lv_iconst (v := nI 3) hx hb dX9_writesLine_81 (by decide) ?_
    refine n_irem hx hb dX9_writesLine_82 (z := (M 17 a) % 3) (by have f1 : M 17 a ≤ 17 := hM_73 17 a; omega) (by decide) (by decide) rfl ?_
    refine n_iadd hx hb dX9_writesLine_83 (z := 48 + ((M 17 a) % 3)) rfl ?_
    refine va_callv (va_runV (As := [.int (nI (48 + ((M 17 a) % 3)))]) (rest := []) ⟨hx, hb, hml, hown, hts⟩ (c9_writes l D ad cI cZ cC th (m_wr (m_wr (m_wr (m_wr (m_wr (m_wr (m_wr (mu M 33 0 0) 35) (48 + (a / 10))) (48 + (a % 10))) 32) 84) (48 + ((M 17 a) / 3))) 76) hM_73 hD  (48 + ((M 17 a) % 3)) (by have f1 : M 17 a ≤ 17 := hM_73 17 a; omega) (by show 7 < 20; decide)) (cwV 1 hts gX9_writesLine_X9_writes rfl rfl rfl kd_X9_writes ⟨Nat.le_of_ble_eq_true rfl, Nat.le_of_ble_eq_true rfl⟩) ⟨mB_blind, m_recv hK hP, m_pre hK hP _⟩ rfl rfl hl.1 rfl (lv_room (Nat.le_of_ble_eq_true rfl)) dX9_writesLine_84 ⟨Nat.le_of_ble_eq_true rfl, Nat.le_of_ble_eq_true rfl⟩) hS (fun _ _ h => h) (fun _ h => h) (fun u U8 H1 locs1 ht hvm hr_74 hP1 hz1 hk1 hS1 => ?_)
    rw [ht] at hP1
    clear hS
    have hS := hS1
    have hP : va_P D vwCl (mws ad cI cZ cC th (m_wr (m_wr (m_wr (m_wr (m_wr (m_wr (m_wr (m_wr (mu M 33 0 0) 35) (48 + (a / 10))) (48 + (a % 10))) 32) 84) (48 + ((M 17 a) / 3))) 76) (48 + ((M 17 a) % 3)))) H1 := hP1
    generalize H1 = H at hP hS ⊢
    have hM_75 : MI (m_wr (m_wr (m_wr (m_wr (m_wr (m_wr (m_wr (m_wr (mu M 33 0 0) 35) (48 + (a / 10))) (48 + (a % 10))) 32) 84) (48 + ((M 17 a) / 3))) 76) (48 + ((M 17 a) % 3))) := (MI_wr hM_73 (by have f1 : M 17 a ≤ 17 := hM_73 17 a; omega) (by show 7 < 20; decide))
    refine lv_aload_n hx hb dX9_writesLine_87 rfl (lv_at hl 0 rfl) ?_
    refine lv_bipush (v := nI 32) hx hb dX9_writesLine_88 (by decide) ?_
    refine va_callv (va_runV (As := [.int (nI 32)]) (rest := []) ⟨hx, hb, hml, hown, hts⟩ (c9_writes l D ad cI cZ cC th (m_wr (m_wr (m_wr (m_wr (m_wr (m_wr (m_wr (m_wr (mu M 33 0 0) 35) (48 + (a / 10))) (48 + (a % 10))) 32) 84) (48 + ((M 17 a) / 3))) 76) (48 + ((M 17 a) % 3))) hM_75 hD  32 (by omega) (by show 8 < 20; decide)) (cwV 1 hts gX9_writesLine_X9_writes rfl rfl rfl kd_X9_writes ⟨Nat.le_of_ble_eq_true rfl, Nat.le_of_ble_eq_true rfl⟩) ⟨mB_blind, m_recv hK hP, m_pre hK hP _⟩ rfl rfl hl.1 rfl (lv_room (Nat.le_of_ble_eq_true rfl)) dX9_writesLine_90 ⟨Nat.le_of_ble_eq_true rfl, Nat.le_of_ble_eq_true rfl⟩) hS (fun _ _ h => h) (fun _ h => h) (fun u U8 H1 locs1 ht hvm hr_76 hP1 hz1 hk1 hS1 => ?_)
    rw [ht] at hP1
    clear hS
    have hS := hS1
    have hP : va_P D vwCl (mws ad cI cZ cC th (m_wr (m_wr (m_wr (m_wr (m_wr (m_wr (m_wr (m_wr (m_wr (mu M 33 0 0) 35) (48 + (a / 10))) (48 + (a % 10))) 32) 84) (48 + ((M 17 a) / 3))) 76) (48 + ((M 17 a) % 3))) 32)) H1 := hP1
    generalize H1 = H at hP hS ⊢
    have hM_77 : MI (m_wr (m_wr (m_wr (m_wr (m_wr (m_wr (m_wr (m_wr (m_wr (mu M 33 0 0) 35) (48 + (a / 10))) (48 + (a % 10))) 32) 84) (48 + ((M 17 a) / 3))) 76) (48 + ((M 17 a) % 3))) 32) := (MI_wr hM_75 (by omega) (by show 8 < 20; decide))
    refine lv_aload_n hx hb dX9_writesLine_93 rfl (lv_at hl 0 rfl) ?_
    refine lv_bipush (v := nI 66) hx hb dX9_writesLine_94 (by decide) ?_
    refine va_callv (va_runV (As := [.int (nI 66)]) (rest := []) ⟨hx, hb, hml, hown, hts⟩ (c9_writes l D ad cI cZ cC th (m_wr (m_wr (m_wr (m_wr (m_wr (m_wr (m_wr (m_wr (m_wr (mu M 33 0 0) 35) (48 + (a / 10))) (48 + (a % 10))) 32) 84) (48 + ((M 17 a) / 3))) 76) (48 + ((M 17 a) % 3))) 32) hM_77 hD  66 (by omega) (by show 9 < 20; decide)) (cwV 1 hts gX9_writesLine_X9_writes rfl rfl rfl kd_X9_writes ⟨Nat.le_of_ble_eq_true rfl, Nat.le_of_ble_eq_true rfl⟩) ⟨mB_blind, m_recv hK hP, m_pre hK hP _⟩ rfl rfl hl.1 rfl (lv_room (Nat.le_of_ble_eq_true rfl)) dX9_writesLine_96 ⟨Nat.le_of_ble_eq_true rfl, Nat.le_of_ble_eq_true rfl⟩) hS (fun _ _ h => h) (fun _ h => h) (fun u U8 H1 locs1 ht hvm hr_78 hP1 hz1 hk1 hS1 => ?_)
    rw [ht] at hP1
    clear hS
    have hS := hS1
    have hP : va_P D vwCl (mws ad cI cZ cC th (m_wr (m_wr (m_wr (m_wr (m_wr (m_wr (m_wr (m_wr (m_wr (m_wr (mu M 33 0 0) 35) (48 + (a / 10))) (48 + (a % 10))) 32) 84) (48 + ((M 17 a) / 3))) 76) (48 + ((M 17 a) % 3))) 32) 66)) H1 := hP1
    generalize H1 = H at hP hS ⊢
    have hM_79 : MI (m_wr (m_wr (m_wr (m_wr (m_wr (m_wr (m_wr (m_wr (m_wr (m_wr (mu M 33 0 0) 35) (48 + (a / 10))) (48 + (a % 10))) 32) 84) (48 + ((M 17 a) / 3))) 76) (48 + ((M 17 a) % 3))) 32) 66) := (MI_wr hM_77 (by omega) (by show 9 < 20; decide))
    refine lv_aload_n hx hb dX9_writesLine_99 rfl (lv_at hl 0 rfl) ?_
    refine lv_bipush (v := nI 48) hx hb dX9_writesLine_100 (by decide) ?_
    refine lv_aload_n hx hb dX9_writesLine_102 rfl (lv_at hl 0 rfl) ?_
    refine m_get hx hb hts hin hown hK hP 18 (by decide) l_won rfl dX9_writesLine_103 ?_
    refine lv_iload_n hx hb dX9_writesLine_106 rfl (lv_at hl 1 rfl) ?_
    refine m_iald (f := 18) hx hb hK hP 14 rfl (by omega) (by decide) dX9_writesLine_107 ?_
    rw [show (m_wr (m_wr (m_wr (m_wr (m_wr (m_wr (m_wr (m_wr (m_wr (m_wr (mu M 33 0 0) 35) (48 + (a / 10))) (48 + (a % 10))) 32) 84) (48 + ((M 17 a) / 3))) 76) (48 + ((M 17 a) % 3))) 32) 66) 18 a = M 18 a from rfl]
    refine n_iadd hx hb dX9_writesLine_108 (z := 48 + (M 18 a)) rfl ?_
    refine va_callv (va_runV (As := [.int (nI (48 + (M 18 a)))]) (rest := []) ⟨hx, hb, hml, hown, hts⟩ (c9_writes l D ad cI cZ cC th (m_wr (m_wr (m_wr (m_wr (m_wr (m_wr (m_wr (m_wr (m_wr (m_wr (mu M 33 0 0) 35) (48 + (a / 10))) (48 + (a % 10))) 32) 84) (48 + ((M 17 a) / 3))) 76) (48 + ((M 17 a) % 3))) 32) 66) hM_79 hD  (48 + (M 18 a)) (by have f1 : M 18 a ≤ 7 := hM_79 18 a; omega) (by show 10 < 20; decide)) (cwV 1 hts gX9_writesLine_X9_writes rfl rfl rfl kd_X9_writes ⟨Nat.le_of_ble_eq_true rfl, Nat.le_of_ble_eq_true rfl⟩) ⟨mB_blind, m_recv hK hP, m_pre hK hP _⟩ rfl rfl hl.1 rfl (lv_room (Nat.le_of_ble_eq_true rfl)) dX9_writesLine_109 ⟨Nat.le_of_ble_eq_true rfl, Nat.le_of_ble_eq_true rfl⟩) hS (fun _ _ h => h) (fun _ h => h) (fun u U8 H1 locs1 ht hvm hr_80 hP1 hz1 hk1 hS1 => ?_)
    rw [ht] at hP1
    clear hS
    have hS := hS1
    have hP : va_P D vwCl (mws ad cI cZ cC th (m_wr (m_wr (m_wr (m_wr (m_wr (m_wr (m_wr (m_wr (m_wr (m_wr (m_wr (mu M 33 0 0) 35) (48 + (a / 10))) (48 + (a % 10))) 32) 84) (48 + ((M 17 a) / 3))) 76) (48 + ((M 17 a) % 3))) 32) 66) (48 + (M 18 a)))) H1 := hP1
    generalize H1 = H at hP hS ⊢
    have hM_81 : MI (m_wr (m_wr (m_wr (m_wr (m_wr (m_wr (m_wr (m_wr (m_wr (m_wr (m_wr (mu M 33 0 0) 35) (48 + (a / 10))) (48 + (a % 10))) 32) 84) (48 + ((M 17 a) / 3))) 76) (48 + ((M 17 a) % 3))) 32) 66) (48 + (M 18 a))) := (MI_wr hM_79 (by have f1 : M 18 a ≤ 7 := hM_79 18 a; omega) (by show 10 < 20; decide))
    refine lv_aload_n hx hb dX9_writesLine_112 rfl (lv_at hl 0 rfl) ?_
    refine m_get hx hb hts hin hown hK hP 20 (by decide) l_isVoid rfl dX9_writesLine_113 ?_
    refine lv_iload_n hx hb dX9_writesLine_116 rfl (lv_at hl 1 rfl) ?_
    refine m_zald (f := 20) hx hb hK hP 16 rfl (by omega) (by decide) dX9_writesLine_117 ?_
    rw [show (m_wr (m_wr (m_wr (m_wr (m_wr (m_wr (m_wr (m_wr (m_wr (m_wr (m_wr (mu M 33 0 0) 35) (48 + (a / 10))) (48 + (a % 10))) 32) 84) (48 + ((M 17 a) / 3))) 76) (48 + ((M 17 a) % 3))) 32) 66) (48 + (M 18 a))) 20 a = M 20 a from rfl]
    refine n_if_ne (tgt := 138) hx hb dX9_writesLine_118 (by decide) (by have f1 : M 20 a ≤ 1 := hM_81 20 a; omega) (fun c_82 => ?_) (fun c_82 => ?_)
    · refine lv_aload_n hx hb dX9_writesLine_138 rfl (lv_at hl 0 rfl) ?_
      refine lv_aload_n hx hb dX9_writesLine_139 rfl (lv_at hl 0 rfl) ?_
      refine m_get hx hb hts hin hown hK hP 20 (by decide) l_isVoid rfl dX9_writesLine_140 ?_
      refine lv_iload_n hx hb dX9_writesLine_143 rfl (lv_at hl 1 rfl) ?_
      refine m_zald (f := 20) hx hb hK hP 16 rfl (by omega) (by decide) dX9_writesLine_144 ?_
      rw [show (m_wr (m_wr (m_wr (m_wr (m_wr (m_wr (m_wr (m_wr (m_wr (m_wr (m_wr (mu M 33 0 0) 35) (48 + (a / 10))) (48 + (a % 10))) 32) 84) (48 + ((M 17 a) / 3))) 76) (48 + ((M 17 a) % 3))) 32) 66) (48 + (M 18 a))) 20 a = M 20 a from rfl]
      refine n_if_eq (tgt := 153) hx hb dX9_writesLine_145 (by decide) (by have f1 : M 20 a ≤ 1 := hM_81 20 a; omega) (fun c_83 => ?_) (fun c_83 => ?_)
      · refine lv_aload_n hx hb dX9_writesLine_153 rfl (lv_at hl 0 rfl) ?_
        refine m_get hx hb hts hin hown hK hP 21 (by decide) l_signed rfl dX9_writesLine_154 ?_
        refine lv_iload_n hx hb dX9_writesLine_157 rfl (lv_at hl 1 rfl) ?_
        refine m_iald (f := 21) hx hb hK hP 17 rfl (by omega) (by decide) dX9_writesLine_158 ?_
        rw [show (m_wr (m_wr (m_wr (m_wr (m_wr (m_wr (m_wr (m_wr (m_wr (m_wr (m_wr (mu M 33 0 0) 35) (48 + (a / 10))) (48 + (a % 10))) 32) 84) (48 + ((M 17 a) / 3))) 76) (48 + ((M 17 a) % 3))) 32) 66) (48 + (M 18 a))) 21 a = M 21 a from rfl]
        refine n_if_le (tgt := 167) hx hb dX9_writesLine_159 (by decide) (by have f1 : M 21 a ≤ 60 := hM_81 21 a; omega) (fun c_84 => ?_) (fun c_84 => ?_)
        · refine lv_bipush (v := nI 70) hx hb dX9_writesLine_167 (by decide) ?_
          refine va_callv (va_runV (As := [.int (nI 70)]) (rest := []) ⟨hx, hb, hml, hown, hts⟩ (c9_writes l D ad cI cZ cC th (m_wr (m_wr (m_wr (m_wr (m_wr (m_wr (m_wr (m_wr (m_wr (m_wr (m_wr (mu M 33 0 0) 35) (48 + (a / 10))) (48 + (a % 10))) 32) 84) (48 + ((M 17 a) / 3))) 76) (48 + ((M 17 a) % 3))) 32) 66) (48 + (M 18 a))) hM_81 hD  70 (by omega) (by show 11 < 20; decide)) (cwV 1 hts gX9_writesLine_X9_writes rfl rfl rfl kd_X9_writes ⟨Nat.le_of_ble_eq_true rfl, Nat.le_of_ble_eq_true rfl⟩) ⟨mB_blind, m_recv hK hP, m_pre hK hP _⟩ rfl rfl hl.1 rfl (lv_room (Nat.le_of_ble_eq_true rfl)) dX9_writesLine_169 ⟨Nat.le_of_ble_eq_true rfl, Nat.le_of_ble_eq_true rfl⟩) hS (fun _ _ h => h) (fun _ h => h) (fun u U8 H1 locs1 ht hvm hr_85 hP1 hz1 hk1 hS1 => ?_)
          rw [ht] at hP1
          clear hS
          have hS := hS1
          have hP : va_P D vwCl (mws ad cI cZ cC th (m_wr (m_wr (m_wr (m_wr (m_wr (m_wr (m_wr (m_wr (m_wr (m_wr (m_wr (m_wr (mu M 33 0 0) 35) (48 + (a / 10))) (48 + (a % 10))) 32) 84) (48 + ((M 17 a) / 3))) 76) (48 + ((M 17 a) % 3))) 32) 66) (48 + (M 18 a))) 70)) H1 := hP1
          generalize H1 = H at hP hS ⊢
          have hM_86 : MI (m_wr (m_wr (m_wr (m_wr (m_wr (m_wr (m_wr (m_wr (m_wr (m_wr (m_wr (m_wr (mu M 33 0 0) 35) (48 + (a / 10))) (48 + (a % 10))) 32) 84) (48 + ((M 17 a) / 3))) 76) (48 + ((M 17 a) % 3))) 32) 66) (48 + (M 18 a))) 70) := (MI_wr hM_81 (by omega) (by show 11 < 20; decide))
          have eM_87 : m_wl M a = m_wr (m_wr (m_wr (m_wr (m_wr (m_wr (m_wr (m_wr (m_wr (m_wr (m_wr (m_wr (mu M 33 0 0) 35) (48 + (a / 10))) (48 + (a % 10))) 32) 84) (48 + ((M 17 a) / 3))) 76) (48 + ((M 17 a) % 3))) 32) 66) (48 + (M 18 a))) 70 := by first | (exfalso; omega) | (simp [m_wl, m_ll, List.foldl, c_3, c_82, c_83, c_84]; done) | (simp [m_wl, m_ll, List.foldl, Nat.not_lt.mpr c_3, c_3, c_82, c_83, c_84]; done) | (simp [m_wl, m_ll, List.foldl, show ¬ 9 < a from by omega, c_3, c_82, c_83, c_84])
          exact W.vret hx hb hr (fun U9 ht hW => ⟨⟨(), rfl, trivial, by show va_P D vwCl _ U9.heap; rw [ht, eM_87]; exact hP⟩, hS.F ht⟩) hS.2.2 dX9_writesLine_172
        · refine lv_bipush (v := nI 83) hx hb dX9_writesLine_162 (by decide) ?_
          refine lv_goto (tgt := 169) hx hb dX9_writesLine_164 (by decide) ?_
          refine va_callv (va_runV (As := [.int (nI 83)]) (rest := []) ⟨hx, hb, hml, hown, hts⟩ (c9_writes l D ad cI cZ cC th (m_wr (m_wr (m_wr (m_wr (m_wr (m_wr (m_wr (m_wr (m_wr (m_wr (m_wr (mu M 33 0 0) 35) (48 + (a / 10))) (48 + (a % 10))) 32) 84) (48 + ((M 17 a) / 3))) 76) (48 + ((M 17 a) % 3))) 32) 66) (48 + (M 18 a))) hM_81 hD  83 (by omega) (by show 11 < 20; decide)) (cwV 1 hts gX9_writesLine_X9_writes rfl rfl rfl kd_X9_writes ⟨Nat.le_of_ble_eq_true rfl, Nat.le_of_ble_eq_true rfl⟩) ⟨mB_blind, m_recv hK hP, m_pre hK hP _⟩ rfl rfl hl.1 rfl (lv_room (Nat.le_of_ble_eq_true rfl)) dX9_writesLine_169 ⟨Nat.le_of_ble_eq_true rfl, Nat.le_of_ble_eq_true rfl⟩) hS (fun _ _ h => h) (fun _ h => h) (fun u U8 H1 locs1 ht hvm hr_88 hP1 hz1 hk1 hS1 => ?_)
          rw [ht] at hP1
          clear hS
          have hS := hS1
          have hP : va_P D vwCl (mws ad cI cZ cC th (m_wr (m_wr (m_wr (m_wr (m_wr (m_wr (m_wr (m_wr (m_wr (m_wr (m_wr (m_wr (mu M 33 0 0) 35) (48 + (a / 10))) (48 + (a % 10))) 32) 84) (48 + ((M 17 a) / 3))) 76) (48 + ((M 17 a) % 3))) 32) 66) (48 + (M 18 a))) 83)) H1 := hP1
          generalize H1 = H at hP hS ⊢
          have hM_89 : MI (m_wr (m_wr (m_wr (m_wr (m_wr (m_wr (m_wr (m_wr (m_wr (m_wr (m_wr (m_wr (mu M 33 0 0) 35) (48 + (a / 10))) (48 + (a % 10))) 32) 84) (48 + ((M 17 a) / 3))) 76) (48 + ((M 17 a) % 3))) 32) 66) (48 + (M 18 a))) 83) := (MI_wr hM_81 (by omega) (by show 11 < 20; decide))
          have eM_90 : m_wl M a = m_wr (m_wr (m_wr (m_wr (m_wr (m_wr (m_wr (m_wr (m_wr (m_wr (m_wr (m_wr (mu M 33 0 0) 35) (48 + (a / 10))) (48 + (a % 10))) 32) 84) (48 + ((M 17 a) / 3))) 76) (48 + ((M 17 a) % 3))) 32) 66) (48 + (M 18 a))) 83 := by first | (exfalso; omega) | (simp [m_wl, m_ll, List.foldl, c_3, c_82, c_83, c_84]; done) | (simp [m_wl, m_ll, List.foldl, Nat.not_lt.mpr c_3, c_3, c_82, c_83, c_84]; done) | (simp [m_wl, m_ll, List.foldl, show ¬ 9 < a from by omega, c_3, c_82, c_83, c_84])
          exact W.vret hx hb hr (fun U9 ht hW => ⟨⟨(), rfl, trivial, by show va_P D vwCl _ U9.heap; rw [ht, eM_90]; exact hP⟩, hS.F ht⟩) hS.2.2 dX9_writesLine_172
      · refine lv_bipush (v := nI 86) hx hb dX9_writesLine_148 (by decide) ?_
        refine lv_goto (tgt := 169) hx hb dX9_writesLine_150 (by decide) ?_
        refine va_callv (va_runV (As := [.int (nI 86)]) (rest := []) ⟨hx, hb, hml, hown, hts⟩ (c9_writes l D ad cI cZ cC th (m_wr (m_wr (m_wr (m_wr (m_wr (m_wr (m_wr (m_wr (m_wr (m_wr (m_wr (mu M 33 0 0) 35) (48 + (a / 10))) (48 + (a % 10))) 32) 84) (48 + ((M 17 a) / 3))) 76) (48 + ((M 17 a) % 3))) 32) 66) (48 + (M 18 a))) hM_81 hD  86 (by omega) (by show 11 < 20; decide)) (cwV 1 hts gX9_writesLine_X9_writes rfl rfl rfl kd_X9_writes ⟨Nat.le_of_ble_eq_true rfl, Nat.le_of_ble_eq_true rfl⟩) ⟨mB_blind, m_recv hK hP, m_pre hK hP _⟩ rfl rfl hl.1 rfl (lv_room (Nat.le_of_ble_eq_true rfl)) dX9_writesLine_169 ⟨Nat.le_of_ble_eq_true rfl, Nat.le_of_ble_eq_true rfl⟩) hS (fun _ _ h => h) (fun _ h => h) (fun u U8 H1 locs1 ht hvm hr_91 hP1 hz1 hk1 hS1 => ?_)
        rw [ht] at hP1
        clear hS
        have hS := hS1
        have hP : va_P D vwCl (mws ad cI cZ cC th (m_wr (m_wr (m_wr (m_wr (m_wr (m_wr (m_wr (m_wr (m_wr (m_wr (m_wr (m_wr (mu M 33 0 0) 35) (48 + (a / 10))) (48 + (a % 10))) 32) 84) (48 + ((M 17 a) / 3))) 76) (48 + ((M 17 a) % 3))) 32) 66) (48 + (M 18 a))) 86)) H1 := hP1
        generalize H1 = H at hP hS ⊢
        have hM_92 : MI (m_wr (m_wr (m_wr (m_wr (m_wr (m_wr (m_wr (m_wr (m_wr (m_wr (m_wr (m_wr (mu M 33 0 0) 35) (48 + (a / 10))) (48 + (a % 10))) 32) 84) (48 + ((M 17 a) / 3))) 76) (48 + ((M 17 a) % 3))) 32) 66) (48 + (M 18 a))) 86) := (MI_wr hM_81 (by omega) (by show 11 < 20; decide))
        have eM_93 : m_wl M a = m_wr (m_wr (m_wr (m_wr (m_wr (m_wr (m_wr (m_wr (m_wr (m_wr (m_wr (m_wr (mu M 33 0 0) 35) (48 + (a / 10))) (48 + (a % 10))) 32) 84) (48 + ((M 17 a) / 3))) 76) (48 + ((M 17 a) % 3))) 32) 66) (48 + (M 18 a))) 86 := by first | (exfalso; omega) | (simp [m_wl, m_ll, List.foldl, c_3, c_82, c_83]; done) | (simp [m_wl, m_ll, List.foldl, Nat.not_lt.mpr c_3, c_3, c_82, c_83]; done) | (simp [m_wl, m_ll, List.foldl, show ¬ 9 < a from by omega, c_3, c_82, c_83])
        exact W.vret hx hb hr (fun U9 ht hW => ⟨⟨(), rfl, trivial, by show va_P D vwCl _ U9.heap; rw [ht, eM_93]; exact hP⟩, hS.F ht⟩) hS.2.2 dX9_writesLine_172
    · refine lv_aload_n hx hb dX9_writesLine_121 rfl (lv_at hl 0 rfl) ?_
      refine m_get hx hb hts hin hown hK hP 21 (by decide) l_signed rfl dX9_writesLine_122 ?_
      refine lv_iload_n hx hb dX9_writesLine_125 rfl (lv_at hl 1 rfl) ?_
      refine m_iald (f := 21) hx hb hK hP 17 rfl (by omega) (by decide) dX9_writesLine_126 ?_
      rw [show (m_wr (m_wr (m_wr (m_wr (m_wr (m_wr (m_wr (m_wr (m_wr (m_wr (m_wr (mu M 33 0 0) 35) (48 + (a / 10))) (48 + (a % 10))) 32) 84) (48 + ((M 17 a) / 3))) 76) (48 + ((M 17 a) % 3))) 32) 66) (48 + (M 18 a))) 21 a = M 21 a from rfl]
      refine n_if_gt (tgt := 138) hx hb dX9_writesLine_127 (by decide) (by have f1 : M 21 a ≤ 60 := hM_81 21 a; omega) (fun c_94 => ?_) (fun c_94 => ?_)
      · refine lv_aload_n hx hb dX9_writesLine_138 rfl (lv_at hl 0 rfl) ?_
        refine lv_aload_n hx hb dX9_writesLine_139 rfl (lv_at hl 0 rfl) ?_
        refine m_get hx hb hts hin hown hK hP 20 (by decide) l_isVoid rfl dX9_writesLine_140 ?_
        refine lv_iload_n hx hb dX9_writesLine_143 rfl (lv_at hl 1 rfl) ?_
        refine m_zald (f := 20) hx hb hK hP 16 rfl (by omega) (by decide) dX9_writesLine_144 ?_
        rw [show (m_wr (m_wr (m_wr (m_wr (m_wr (m_wr (m_wr (m_wr (m_wr (m_wr (m_wr (mu M 33 0 0) 35) (48 + (a / 10))) (48 + (a % 10))) 32) 84) (48 + ((M 17 a) / 3))) 76) (48 + ((M 17 a) % 3))) 32) 66) (48 + (M 18 a))) 20 a = M 20 a from rfl]
        refine n_if_eq (tgt := 153) hx hb dX9_writesLine_145 (by decide) (by have f1 : M 20 a ≤ 1 := hM_81 20 a; omega) (fun c_95 => ?_) (fun c_95 => ?_)
        · refine lv_aload_n hx hb dX9_writesLine_153 rfl (lv_at hl 0 rfl) ?_
          refine m_get hx hb hts hin hown hK hP 21 (by decide) l_signed rfl dX9_writesLine_154 ?_
          refine lv_iload_n hx hb dX9_writesLine_157 rfl (lv_at hl 1 rfl) ?_
          refine m_iald (f := 21) hx hb hK hP 17 rfl (by omega) (by decide) dX9_writesLine_158 ?_
          rw [show (m_wr (m_wr (m_wr (m_wr (m_wr (m_wr (m_wr (m_wr (m_wr (m_wr (m_wr (mu M 33 0 0) 35) (48 + (a / 10))) (48 + (a % 10))) 32) 84) (48 + ((M 17 a) / 3))) 76) (48 + ((M 17 a) % 3))) 32) 66) (48 + (M 18 a))) 21 a = M 21 a from rfl]
          refine n_if_le (tgt := 167) hx hb dX9_writesLine_159 (by decide) (by have f1 : M 21 a ≤ 60 := hM_81 21 a; omega) (fun c_96 => ?_) (fun c_96 => ?_)
          · refine lv_bipush (v := nI 70) hx hb dX9_writesLine_167 (by decide) ?_
            refine va_callv (va_runV (As := [.int (nI 70)]) (rest := []) ⟨hx, hb, hml, hown, hts⟩ (c9_writes l D ad cI cZ cC th (m_wr (m_wr (m_wr (m_wr (m_wr (m_wr (m_wr (m_wr (m_wr (m_wr (m_wr (mu M 33 0 0) 35) (48 + (a / 10))) (48 + (a % 10))) 32) 84) (48 + ((M 17 a) / 3))) 76) (48 + ((M 17 a) % 3))) 32) 66) (48 + (M 18 a))) hM_81 hD  70 (by omega) (by show 11 < 20; decide)) (cwV 1 hts gX9_writesLine_X9_writes rfl rfl rfl kd_X9_writes ⟨Nat.le_of_ble_eq_true rfl, Nat.le_of_ble_eq_true rfl⟩) ⟨mB_blind, m_recv hK hP, m_pre hK hP _⟩ rfl rfl hl.1 rfl (lv_room (Nat.le_of_ble_eq_true rfl)) dX9_writesLine_169 ⟨Nat.le_of_ble_eq_true rfl, Nat.le_of_ble_eq_true rfl⟩) hS (fun _ _ h => h) (fun _ h => h) (fun u U8 H1 locs1 ht hvm hr_97 hP1 hz1 hk1 hS1 => ?_)
            rw [ht] at hP1
            clear hS
            have hS := hS1
            have hP : va_P D vwCl (mws ad cI cZ cC th (m_wr (m_wr (m_wr (m_wr (m_wr (m_wr (m_wr (m_wr (m_wr (m_wr (m_wr (m_wr (mu M 33 0 0) 35) (48 + (a / 10))) (48 + (a % 10))) 32) 84) (48 + ((M 17 a) / 3))) 76) (48 + ((M 17 a) % 3))) 32) 66) (48 + (M 18 a))) 70)) H1 := hP1
            generalize H1 = H at hP hS ⊢
            have hM_98 : MI (m_wr (m_wr (m_wr (m_wr (m_wr (m_wr (m_wr (m_wr (m_wr (m_wr (m_wr (m_wr (mu M 33 0 0) 35) (48 + (a / 10))) (48 + (a % 10))) 32) 84) (48 + ((M 17 a) / 3))) 76) (48 + ((M 17 a) % 3))) 32) 66) (48 + (M 18 a))) 70) := (MI_wr hM_81 (by omega) (by show 11 < 20; decide))
            have eM_99 : m_wl M a = m_wr (m_wr (m_wr (m_wr (m_wr (m_wr (m_wr (m_wr (m_wr (m_wr (m_wr (m_wr (mu M 33 0 0) 35) (48 + (a / 10))) (48 + (a % 10))) 32) 84) (48 + ((M 17 a) / 3))) 76) (48 + ((M 17 a) % 3))) 32) 66) (48 + (M 18 a))) 70 := by first | (exfalso; omega) | (simp [m_wl, m_ll, List.foldl, c_3, c_82, c_94, c_95, c_96]; done) | (simp [m_wl, m_ll, List.foldl, Nat.not_lt.mpr c_3, c_3, c_82, c_94, c_95, c_96]; done) | (simp [m_wl, m_ll, List.foldl, show ¬ 9 < a from by omega, c_3, c_82, c_94, c_95, c_96])
            exact W.vret hx hb hr (fun U9 ht hW => ⟨⟨(), rfl, trivial, by show va_P D vwCl _ U9.heap; rw [ht, eM_99]; exact hP⟩, hS.F ht⟩) hS.2.2 dX9_writesLine_172
          · refine lv_bipush (v := nI 83) hx hb dX9_writesLine_162 (by decide) ?_
            refine lv_goto (tgt := 169) hx hb dX9_writesLine_164 (by decide) ?_
            refine va_callv (va_runV (As := [.int (nI 83)]) (rest := []) ⟨hx, hb, hml, hown, hts⟩ (c9_writes l D ad cI cZ cC th (m_wr (m_wr (m_wr (m_wr (m_wr (m_wr (m_wr (m_wr (m_wr (m_wr (m_wr (mu M 33 0 0) 35) (48 + (a / 10))) (48 + (a % 10))) 32) 84) (48 + ((M 17 a) / 3))) 76) (48 + ((M 17 a) % 3))) 32) 66) (48 + (M 18 a))) hM_81 hD  83 (by omega) (by show 11 < 20; decide)) (cwV 1 hts gX9_writesLine_X9_writes rfl rfl rfl kd_X9_writes ⟨Nat.le_of_ble_eq_true rfl, Nat.le_of_ble_eq_true rfl⟩) ⟨mB_blind, m_recv hK hP, m_pre hK hP _⟩ rfl rfl hl.1 rfl (lv_room (Nat.le_of_ble_eq_true rfl)) dX9_writesLine_169 ⟨Nat.le_of_ble_eq_true rfl, Nat.le_of_ble_eq_true rfl⟩) hS (fun _ _ h => h) (fun _ h => h) (fun u U8 H1 locs1 ht hvm hr_100 hP1 hz1 hk1 hS1 => ?_)
            rw [ht] at hP1
            clear hS
            have hS := hS1
            have hP : va_P D vwCl (mws ad cI cZ cC th (m_wr (m_wr (m_wr (m_wr (m_wr (m_wr (m_wr (m_wr (m_wr (m_wr (m_wr (m_wr (mu M 33 0 0) 35) (48 + (a / 10))) (48 + (a % 10))) 32) 84) (48 + ((M 17 a) / 3))) 76) (48 + ((M 17 a) % 3))) 32) 66) (48 + (M 18 a))) 83)) H1 := hP1
            generalize H1 = H at hP hS ⊢
            have hM_101 : MI (m_wr (m_wr (m_wr (m_wr (m_wr (m_wr (m_wr (m_wr (m_wr (m_wr (m_wr (m_wr (mu M 33 0 0) 35) (48 + (a / 10))) (48 + (a % 10))) 32) 84) (48 + ((M 17 a) / 3))) 76) (48 + ((M 17 a) % 3))) 32) 66) (48 + (M 18 a))) 83) := (MI_wr hM_81 (by omega) (by show 11 < 20; decide))
            have eM_102 : m_wl M a = m_wr (m_wr (m_wr (m_wr (m_wr (m_wr (m_wr (m_wr (m_wr (m_wr (m_wr (m_wr (mu M 33 0 0) 35) (48 + (a / 10))) (48 + (a % 10))) 32) 84) (48 + ((M 17 a) / 3))) 76) (48 + ((M 17 a) % 3))) 32) 66) (48 + (M 18 a))) 83 := by first | (exfalso; omega) | (simp [m_wl, m_ll, List.foldl, c_3, c_82, c_94, c_95, c_96]; done) | (simp [m_wl, m_ll, List.foldl, Nat.not_lt.mpr c_3, c_3, c_82, c_94, c_95, c_96]; done) | (simp [m_wl, m_ll, List.foldl, show ¬ 9 < a from by omega, c_3, c_82, c_94, c_95, c_96])
            exact W.vret hx hb hr (fun U9 ht hW => ⟨⟨(), rfl, trivial, by show va_P D vwCl _ U9.heap; rw [ht, eM_102]; exact hP⟩, hS.F ht⟩) hS.2.2 dX9_writesLine_172
        · refine lv_bipush (v := nI 86) hx hb dX9_writesLine_148 (by decide) ?_
          refine lv_goto (tgt := 169) hx hb dX9_writesLine_150 (by decide) ?_
          refine va_callv (va_runV (As := [.int (nI 86)]) (rest := []) ⟨hx, hb, hml, hown, hts⟩ (c9_writes l D ad cI cZ cC th (m_wr (m_wr (m_wr (m_wr (m_wr (m_wr (m_wr (m_wr (m_wr (m_wr (m_wr (mu M 33 0 0) 35) (48 + (a / 10))) (48 + (a % 10))) 32) 84) (48 + ((M 17 a) / 3))) 76) (48 + ((M 17 a) % 3))) 32) 66) (48 + (M 18 a))) hM_81 hD  86 (by omega) (by show 11 < 20; decide)) (cwV 1 hts gX9_writesLine_X9_writes rfl rfl rfl kd_X9_writes ⟨Nat.le_of_ble_eq_true rfl, Nat.le_of_ble_eq_true rfl⟩) ⟨mB_blind, m_recv hK hP, m_pre hK hP _⟩ rfl rfl hl.1 rfl (lv_room (Nat.le_of_ble_eq_true rfl)) dX9_writesLine_169 ⟨Nat.le_of_ble_eq_true rfl, Nat.le_of_ble_eq_true rfl⟩) hS (fun _ _ h => h) (fun _ h => h) (fun u U8 H1 locs1 ht hvm hr_103 hP1 hz1 hk1 hS1 => ?_)
          rw [ht] at hP1
          clear hS
          have hS := hS1
          have hP : va_P D vwCl (mws ad cI cZ cC th (m_wr (m_wr (m_wr (m_wr (m_wr (m_wr (m_wr (m_wr (m_wr (m_wr (m_wr (m_wr (mu M 33 0 0) 35) (48 + (a / 10))) (48 + (a % 10))) 32) 84) (48 + ((M 17 a) / 3))) 76) (48 + ((M 17 a) % 3))) 32) 66) (48 + (M 18 a))) 86)) H1 := hP1
          generalize H1 = H at hP hS ⊢
          have hM_104 : MI (m_wr (m_wr (m_wr (m_wr (m_wr (m_wr (m_wr (m_wr (m_wr (m_wr (m_wr (m_wr (mu M 33 0 0) 35) (48 + (a / 10))) (48 + (a % 10))) 32) 84) (48 + ((M 17 a) / 3))) 76) (48 + ((M 17 a) % 3))) 32) 66) (48 + (M 18 a))) 86) := (MI_wr hM_81 (by omega) (by show 11 < 20; decide))
          have eM_105 : m_wl M a = m_wr (m_wr (m_wr (m_wr (m_wr (m_wr (m_wr (m_wr (m_wr (m_wr (m_wr (m_wr (mu M 33 0 0) 35) (48 + (a / 10))) (48 + (a % 10))) 32) 84) (48 + ((M 17 a) / 3))) 76) (48 + ((M 17 a) % 3))) 32) 66) (48 + (M 18 a))) 86 := by first | (exfalso; omega) | (simp [m_wl, m_ll, List.foldl, c_3, c_82, c_94, c_95]; done) | (simp [m_wl, m_ll, List.foldl, Nat.not_lt.mpr c_3, c_3, c_82, c_94, c_95]; done) | (simp [m_wl, m_ll, List.foldl, show ¬ 9 < a from by omega, c_3, c_82, c_94, c_95])
          exact W.vret hx hb hr (fun U9 ht hW => ⟨⟨(), rfl, trivial, by show va_P D vwCl _ U9.heap; rw [ht, eM_105]; exact hP⟩, hS.F ht⟩) hS.2.2 dX9_writesLine_172
      · refine lv_aload_n hx hb dX9_writesLine_130 rfl (lv_at hl 0 rfl) ?_
        refine lv_iload_n hx hb dX9_writesLine_131 rfl (lv_at hl 1 rfl) ?_
        refine vp_callSi (W.runV (As := [.int (nI a)]) (rest := []) ⟨hx, hb, hml, hown, hts⟩ (c9_isFinalNow l D ad cI cZ cC th (m_wr (m_wr (m_wr (m_wr (m_wr (m_wr (m_wr (m_wr (m_wr (m_wr (m_wr (mu M 33 0 0) 35) (48 + (a / 10))) (48 + (a % 10))) 32) 84) (48 + ((M 17 a) / 3))) 76) (48 + ((M 17 a) % 3))) 32) 66) (48 + (M 18 a))) hM_81  a (by omega)) (cwV 1 hts gX9_writesLine_X9_isFinalNow rfl rfl rfl kd_X9_isFinalNow ⟨Nat.le_of_ble_eq_true rfl, Nat.le_of_ble_eq_true rfl⟩) ⟨mB_blind, m_recv hK hP, m_pre hK hP _⟩ rfl rfl hl.1 rfl (lv_room (Nat.le_of_ble_eq_true rfl)) dX9_writesLine_132 ⟨Nat.le_of_ble_eq_true rfl, Nat.le_of_ble_eq_true rfl⟩) (fun r_106 hr_106 => ?_)
        subst hr_106
        refine b_if_eq (tgt := 172) hx hb dX9_writesLine_135 (by decide)  (fun c_107 => ?_) (fun c_107 => ?_)
        · have cc_108 : m_fn M a = false := (m_fn_cong (M := M) (M' := m_wr (m_wr (m_wr (m_wr (m_wr (m_wr (m_wr (m_wr (m_wr (m_wr (m_wr (mu M 33 0 0) 35) (48 + (a / 10))) (48 + (a % 10))) 32) 84) (48 + ((M 17 a) / 3))) 76) (48 + ((M 17 a) % 3))) 32) 66) (48 + (M 18 a))) rfl rfl rfl rfl rfl rfl rfl rfl a).symm.trans c_107
          have eM_109 : m_wl M a = m_wr (m_wr (m_wr (m_wr (m_wr (m_wr (m_wr (m_wr (m_wr (m_wr (m_wr (mu M 33 0 0) 35) (48 + (a / 10))) (48 + (a % 10))) 32) 84) (48 + ((M 17 a) / 3))) 76) (48 + ((M 17 a) % 3))) 32) 66) (48 + (M 18 a)) := by first | (exfalso; omega) | (simp [m_wl, m_ll, List.foldl, c_3, c_82, c_94, cc_108]; done) | (simp [m_wl, m_ll, List.foldl, Nat.not_lt.mpr c_3, c_3, c_82, c_94, cc_108]; done) | (simp [m_wl, m_ll, List.foldl, show ¬ 9 < a from by omega, c_3, c_82, c_94, cc_108])
          exact W.vret hx hb hr (fun U9 ht hW => ⟨⟨(), rfl, trivial, by show va_P D vwCl _ U9.heap; rw [ht, eM_109]; exact hP⟩, hS.F ht⟩) hS.2.2 dX9_writesLine_172
        · have cc_110 : m_fn M a = true := (m_fn_cong (M := M) (M' := m_wr (m_wr (m_wr (m_wr (m_wr (m_wr (m_wr (m_wr (m_wr (m_wr (m_wr (mu M 33 0 0) 35) (48 + (a / 10))) (48 + (a % 10))) 32) 84) (48 + ((M 17 a) / 3))) 76) (48 + ((M 17 a) % 3))) 32) 66) (48 + (M 18 a))) rfl rfl rfl rfl rfl rfl rfl rfl a).symm.trans c_107
          refine lv_aload_n hx hb dX9_writesLine_138 rfl (lv_at hl 0 rfl) ?_
          refine lv_aload_n hx hb dX9_writesLine_139 rfl (lv_at hl 0 rfl) ?_
          refine m_get hx hb hts hin hown hK hP 20 (by decide) l_isVoid rfl dX9_writesLine_140 ?_
          refine lv_iload_n hx hb dX9_writesLine_143 rfl (lv_at hl 1 rfl) ?_
          refine m_zald (f := 20) hx hb hK hP 16 rfl (by omega) (by decide) dX9_writesLine_144 ?_
          rw [show (m_wr (m_wr (m_wr (m_wr (m_wr (m_wr (m_wr (m_wr (m_wr (m_wr (m_wr (mu M 33 0 0) 35) (48 + (a / 10))) (48 + (a % 10))) 32) 84) (48 + ((M 17 a) / 3))) 76) (48 + ((M 17 a) % 3))) 32) 66) (48 + (M 18 a))) 20 a = M 20 a from rfl]
          refine n_if_eq (tgt := 153) hx hb dX9_writesLine_145 (by decide) (by have f1 : M 20 a ≤ 1 := hM_81 20 a; omega) (fun c_111 => ?_) (fun c_111 => ?_)
          · refine lv_aload_n hx hb dX9_writesLine_153 rfl (lv_at hl 0 rfl) ?_
            refine m_get hx hb hts hin hown hK hP 21 (by decide) l_signed rfl dX9_writesLine_154 ?_
            refine lv_iload_n hx hb dX9_writesLine_157 rfl (lv_at hl 1 rfl) ?_
            refine m_iald (f := 21) hx hb hK hP 17 rfl (by omega) (by decide) dX9_writesLine_158 ?_
            rw [show (m_wr (m_wr (m_wr (m_wr (m_wr (m_wr (m_wr (m_wr (m_wr (m_wr (m_wr (mu M 33 0 0) 35) (48 + (a / 10))) (48 + (a % 10))) 32) 84) (48 + ((M 17 a) / 3))) 76) (48 + ((M 17 a) % 3))) 32) 66) (48 + (M 18 a))) 21 a = M 21 a from rfl]
            refine n_if_le (tgt := 167) hx hb dX9_writesLine_159 (by decide) (by have f1 : M 21 a ≤ 60 := hM_81 21 a; omega) (fun c_112 => ?_) (fun c_112 => ?_)
            · refine lv_bipush (v := nI 70) hx hb dX9_writesLine_167 (by decide) ?_
              refine va_callv (va_runV (As := [.int (nI 70)]) (rest := []) ⟨hx, hb, hml, hown, hts⟩ (c9_writes l D ad cI cZ cC th (m_wr (m_wr (m_wr (m_wr (m_wr (m_wr (m_wr (m_wr (m_wr (m_wr (m_wr (mu M 33 0 0) 35) (48 + (a / 10))) (48 + (a % 10))) 32) 84) (48 + ((M 17 a) / 3))) 76) (48 + ((M 17 a) % 3))) 32) 66) (48 + (M 18 a))) hM_81 hD  70 (by omega) (by show 11 < 20; decide)) (cwV 1 hts gX9_writesLine_X9_writes rfl rfl rfl kd_X9_writes ⟨Nat.le_of_ble_eq_true rfl, Nat.le_of_ble_eq_true rfl⟩) ⟨mB_blind, m_recv hK hP, m_pre hK hP _⟩ rfl rfl hl.1 rfl (lv_room (Nat.le_of_ble_eq_true rfl)) dX9_writesLine_169 ⟨Nat.le_of_ble_eq_true rfl, Nat.le_of_ble_eq_true rfl⟩) hS (fun _ _ h => h) (fun _ h => h) (fun u U8 H1 locs1 ht hvm hr_113 hP1 hz1 hk1 hS1 => ?_)
              rw [ht] at hP1
              clear hS
              have hS := hS1
              have hP : va_P D vwCl (mws ad cI cZ cC th (m_wr (m_wr (m_wr (m_wr (m_wr (m_wr (m_wr (m_wr (m_wr (m_wr (m_wr (m_wr (mu M 33 0 0) 35) (48 + (a / 10))) (48 + (a % 10))) 32) 84) (48 + ((M 17 a) / 3))) 76) (48 + ((M 17 a) % 3))) 32) 66) (48 + (M 18 a))) 70)) H1 := hP1
              generalize H1 = H at hP hS ⊢
              have hM_114 : MI (m_wr (m_wr (m_wr (m_wr (m_wr (m_wr (m_wr (m_wr (m_wr (m_wr (m_wr (m_wr (mu M 33 0 0) 35) (48 + (a / 10))) (48 + (a % 10))) 32) 84) (48 + ((M 17 a) / 3))) 76) (48 + ((M 17 a) % 3))) 32) 66) (48 + (M 18 a))) 70) := (MI_wr hM_81 (by omega) (by show 11 < 20; decide))
              have eM_115 : m_wl M a = m_wr (m_wr (m_wr (m_wr (m_wr (m_wr (m_wr (m_wr (m_wr (m_wr (m_wr (m_wr (mu M 33 0 0) 35) (48 + (a / 10))) (48 + (a % 10))) 32) 84) (48 + ((M 17 a) / 3))) 76) (48 + ((M 17 a) % 3))) 32) 66) (48 + (M 18 a))) 70 := by first | (exfalso; omega) | (simp [m_wl, m_ll, List.foldl, c_3, c_82, c_94, cc_110, c_111, c_112]; done) | (simp [m_wl, m_ll, List.foldl, Nat.not_lt.mpr c_3, c_3, c_82, c_94, cc_110, c_111, c_112]; done) | (simp [m_wl, m_ll, List.foldl, show ¬ 9 < a from by omega, c_3, c_82, c_94, cc_110, c_111, c_112])
              exact W.vret hx hb hr (fun U9 ht hW => ⟨⟨(), rfl, trivial, by show va_P D vwCl _ U9.heap; rw [ht, eM_115]; exact hP⟩, hS.F ht⟩) hS.2.2 dX9_writesLine_172
            · refine lv_bipush (v := nI 83) hx hb dX9_writesLine_162 (by decide) ?_
              refine lv_goto (tgt := 169) hx hb dX9_writesLine_164 (by decide) ?_
              refine va_callv (va_runV (As := [.int (nI 83)]) (rest := []) ⟨hx, hb, hml, hown, hts⟩ (c9_writes l D ad cI cZ cC th (m_wr (m_wr (m_wr (m_wr (m_wr (m_wr (m_wr (m_wr (m_wr (m_wr (m_wr (mu M 33 0 0) 35) (48 + (a / 10))) (48 + (a % 10))) 32) 84) (48 + ((M 17 a) / 3))) 76) (48 + ((M 17 a) % 3))) 32) 66) (48 + (M 18 a))) hM_81 hD  83 (by omega) (by show 11 < 20; decide)) (cwV 1 hts gX9_writesLine_X9_writes rfl rfl rfl kd_X9_writes ⟨Nat.le_of_ble_eq_true rfl, Nat.le_of_ble_eq_true rfl⟩) ⟨mB_blind, m_recv hK hP, m_pre hK hP _⟩ rfl rfl hl.1 rfl (lv_room (Nat.le_of_ble_eq_true rfl)) dX9_writesLine_169 ⟨Nat.le_of_ble_eq_true rfl, Nat.le_of_ble_eq_true rfl⟩) hS (fun _ _ h => h) (fun _ h => h) (fun u U8 H1 locs1 ht hvm hr_116 hP1 hz1 hk1 hS1 => ?_)
              rw [ht] at hP1
              clear hS
              have hS := hS1
              have hP : va_P D vwCl (mws ad cI cZ cC th (m_wr (m_wr (m_wr (m_wr (m_wr (m_wr (m_wr (m_wr (m_wr (m_wr (m_wr (m_wr (mu M 33 0 0) 35) (48 + (a / 10))) (48 + (a % 10))) 32) 84) (48 + ((M 17 a) / 3))) 76) (48 + ((M 17 a) % 3))) 32) 66) (48 + (M 18 a))) 83)) H1 := hP1
              generalize H1 = H at hP hS ⊢
              have hM_117 : MI (m_wr (m_wr (m_wr (m_wr (m_wr (m_wr (m_wr (m_wr (m_wr (m_wr (m_wr (m_wr (mu M 33 0 0) 35) (48 + (a / 10))) (48 + (a % 10))) 32) 84) (48 + ((M 17 a) / 3))) 76) (48 + ((M 17 a) % 3))) 32) 66) (48 + (M 18 a))) 83) := (MI_wr hM_81 (by omega) (by show 11 < 20; decide))
              have eM_118 : m_wl M a = m_wr (m_wr (m_wr (m_wr (m_wr (m_wr (m_wr (m_wr (m_wr (m_wr (m_wr (m_wr (mu M 33 0 0) 35) (48 + (a / 10))) (48 + (a % 10))) 32) 84) (48 + ((M 17 a) / 3))) 76) (48 + ((M 17 a) % 3))) 32) 66) (48 + (M 18 a))) 83 := by first | (exfalso; omega) | (simp [m_wl, m_ll, List.foldl, c_3, c_82, c_94, cc_110, c_111, c_112]; done) | (simp [m_wl, m_ll, List.foldl, Nat.not_lt.mpr c_3, c_3, c_82, c_94, cc_110, c_111, c_112]; done) | (simp [m_wl, m_ll, List.foldl, show ¬ 9 < a from by omega, c_3, c_82, c_94, cc_110, c_111, c_112])
              exact W.vret hx hb hr (fun U9 ht hW => ⟨⟨(), rfl, trivial, by show va_P D vwCl _ U9.heap; rw [ht, eM_118]; exact hP⟩, hS.F ht⟩) hS.2.2 dX9_writesLine_172
          · refine lv_bipush (v := nI 86) hx hb dX9_writesLine_148 (by decide) ?_
            refine lv_goto (tgt := 169) hx hb dX9_writesLine_150 (by decide) ?_
            refine va_callv (va_runV (As := [.int (nI 86)]) (rest := []) ⟨hx, hb, hml, hown, hts⟩ (c9_writes l D ad cI cZ cC th (m_wr (m_wr (m_wr (m_wr (m_wr (m_wr (m_wr (m_wr (m_wr (m_wr (m_wr (mu M 33 0 0) 35) (48 + (a / 10))) (48 + (a % 10))) 32) 84) (48 + ((M 17 a) / 3))) 76) (48 + ((M 17 a) % 3))) 32) 66) (48 + (M 18 a))) hM_81 hD  86 (by omega) (by show 11 < 20; decide)) (cwV 1 hts gX9_writesLine_X9_writes rfl rfl rfl kd_X9_writes ⟨Nat.le_of_ble_eq_true rfl, Nat.le_of_ble_eq_true rfl⟩) ⟨mB_blind, m_recv hK hP, m_pre hK hP _⟩ rfl rfl hl.1 rfl (lv_room (Nat.le_of_ble_eq_true rfl)) dX9_writesLine_169 ⟨Nat.le_of_ble_eq_true rfl, Nat.le_of_ble_eq_true rfl⟩) hS (fun _ _ h => h) (fun _ h => h) (fun u U8 H1 locs1 ht hvm hr_119 hP1 hz1 hk1 hS1 => ?_)
            rw [ht] at hP1
            clear hS
            have hS := hS1
            have hP : va_P D vwCl (mws ad cI cZ cC th (m_wr (m_wr (m_wr (m_wr (m_wr (m_wr (m_wr (m_wr (m_wr (m_wr (m_wr (m_wr (mu M 33 0 0) 35) (48 + (a / 10))) (48 + (a % 10))) 32) 84) (48 + ((M 17 a) / 3))) 76) (48 + ((M 17 a) % 3))) 32) 66) (48 + (M 18 a))) 86)) H1 := hP1
            generalize H1 = H at hP hS ⊢
            have hM_120 : MI (m_wr (m_wr (m_wr (m_wr (m_wr (m_wr (m_wr (m_wr (m_wr (m_wr (m_wr (m_wr (mu M 33 0 0) 35) (48 + (a / 10))) (48 + (a % 10))) 32) 84) (48 + ((M 17 a) / 3))) 76) (48 + ((M 17 a) % 3))) 32) 66) (48 + (M 18 a))) 86) := (MI_wr hM_81 (by omega) (by show 11 < 20; decide))
            have eM_121 : m_wl M a = m_wr (m_wr (m_wr (m_wr (m_wr (m_wr (m_wr (m_wr (m_wr (m_wr (m_wr (m_wr (mu M 33 0 0) 35) (48 + (a / 10))) (48 + (a % 10))) 32) 84) (48 + ((M 17 a) / 3))) 76) (48 + ((M 17 a) % 3))) 32) 66) (48 + (M 18 a))) 86 := by first | (exfalso; omega) | (simp [m_wl, m_ll, List.foldl, c_3, c_82, c_94, cc_110, c_111]; done) | (simp [m_wl, m_ll, List.foldl, Nat.not_lt.mpr c_3, c_3, c_82, c_94, cc_110, c_111]; done) | (simp [m_wl, m_ll, List.foldl, show ¬ 9 < a from by omega, c_3, c_82, c_94, cc_110, c_111])
            exact W.vret hx hb hr (fun U9 ht hW => ⟨⟨(), rfl, trivial, by show va_P D vwCl _ U9.heap; rw [ht, eM_121]; exact hP⟩, hS.F ht⟩) hS.2.2 dX9_writesLine_172
set_option maxHeartbeats 4000000 in
set_option maxRecDepth 100000 in
theorem c9_line (l : Launch) (D : va_G) (ad : Nat → Nat) (cI cZ cC : ClassId) (th : Nat) (M : MS) (hM : MI M) {A : Nat → Prop} (hD : mDis A ad) (a : Int32) : Met l yX9_line wsX9_line ({ frames := 3, cells := 0, slots := 0, locals := 65 }) (va_Pc [.ref (ad 0), .int a] (mB D ad cI cZ cC th M)) (va_Qi (fun (r : Int32) (_ : Unit) => r = r_line M a) (fun _ U9 => va_P D vwCl (mws ad cI cZ cC (k_aw M a) (g_line M a)) U9.heap) A) 0 0 A := by
  refine Met.ofW (cc := cX9_line) (maxL := 2) (ret := (some .int)) (by decide) rfl ?_
  intro p e s m args below meth c s₁ B hml hv
  obtain ⟨rfl, hP, hK⟩ := hv
  have hx := B.exec
  have hb := B.bytes
  have hr := B.returns
  have hts := atoms_spec (ws := wsX9_line) B.pre
  have hown : s.vm.findClass RX9 = some m.cls := findClass_of_methodNamed B.named
  have hlocks := B.notSynchronized
  have hin : ∀ w ∈ wsX90, w ∈ wsX9_line := fun w h => List.mem_cons_of_mem _ (List.mem_append_right _ h)
  have l_chars := (hts (.fieldLink RX9 180 "TenderHallModel" "chars" "I") (List.mem_of_getElem? (i := 1) rfl))
  have hS : va_S A s.heap s.heap [] := va_S.rf
  have hl := lv_entry ([.ref (ad 0), .int a]) (n := 2) (Nat.le_of_ble_eq_true rfl)
  rw [lg_entry_eq]
  generalize (lg_sl ([.ref (ad 0), .int a]) ++ List.replicate (2 - (lg_sl ([.ref (ad 0), .int a])).length) Slot.unset).toArray = ls at hl ⊢
  have hl : lv_has ls 2 [(0, .ref (ad 0)), (1, .int a)] := hl
  have h36 : M 3 0 ≤ 6 := hM 3 0
  have h160 : M 16 0 ≤ 60 := hM 16 0
  have h220 : M 22 0 ≤ 60 := hM 22 0
  have h290 : M 29 0 ≤ 60 := hM 29 0
  have h120 : M 1 0 ≤ 2000 := hM 1 0
  refine lv_aload_n hx hb dX9_line_0 rfl (lv_at hl 0 rfl) ?_
  refine lv_iload_n hx hb dX9_line_1 rfl (lv_at hl 1 rfl) ?_
  refine va_calli (va_runV (As := [.int a]) (rest := []) ⟨hx, hb, hml, hown, hts⟩ (c9_asksAward l D ad cI cZ cC th M hM hD  a) (cwV 1 hts gX9_line_X9_asksAward rfl rfl rfl kd_X9_asksAward ⟨Nat.le_of_ble_eq_true rfl, Nat.le_of_ble_eq_true rfl⟩) ⟨mB_blind, m_recv hK hP, m_pre hK hP _⟩ rfl rfl hl.1 rfl (lv_room (Nat.le_of_ble_eq_true rfl)) dX9_line_2 ⟨Nat.le_of_ble_eq_true rfl, Nat.le_of_ble_eq_true rfl⟩) hS (fun _ _ h => h) (fun _ h => h) (fun r_1 u U8 H1 locs1 ht hvm hr_1 hP1 hz1 hk1 hS1 => ?_)
  rw [ht] at hP1
  clear hS
  have hS := hS1
  have hP : va_P D vwCl (mws ad cI cZ cC (k_aw M a) M) H1 := hP1
  generalize H1 = H at hP hS ⊢
  subst hr_1
  refine b_if_ne (tgt := 10) hx hb dX9_line_5 (by decide)  (fun c_2 => ?_) (fun c_2 => ?_)
  · obtain ⟨a1, ha1, rfl⟩ := isIx_of (by omega) c_2
    have ka19 : (nI a1).toNatClampNeg = a1 := nI_clamp (by omega)
    refine lv_aload_n hx hb dX9_line_10 rfl (lv_at hl 0 rfl) ?_
    refine lv_iload_n hx hb dX9_line_11 rfl (lv_at hl 1 rfl) ?_
    refine va_callv (va_runV (As := [.int (nI a1)]) (rest := []) ⟨hx, hb, hml, hown, hts⟩ (c9_writesLine l D ad cI cZ cC (k_aw M ((nI a1))) M hM hD  a1 (by omega)) (cwV 1 hts gX9_line_X9_writesLine rfl rfl rfl kd_X9_writesLine ⟨Nat.le_of_ble_eq_true rfl, Nat.le_of_ble_eq_true rfl⟩) ⟨mB_blind, m_recv hK hP, m_pre hK hP _⟩ rfl rfl hl.1 rfl (lv_room (Nat.le_of_ble_eq_true rfl)) dX9_line_12 ⟨Nat.le_of_ble_eq_true rfl, Nat.le_of_ble_eq_true rfl⟩) hS (fun _ _ h => h) (fun _ h => h) (fun u U8 H1 locs1 ht hvm hr_3 hP1 hz1 hk1 hS1 => ?_)
    rw [ht] at hP1
    clear hS
    have hS := hS1
    have hP : va_P D vwCl (mws ad cI cZ cC (k_aw M ((nI a1))) (m_wl M a1)) H1 := hP1
    generalize H1 = H at hP hS ⊢
    have hM_4 : MI (m_wl M a1) := (MI_wl hM (by omega))
    refine lv_aload_n hx hb dX9_line_15 rfl (lv_at hl 0 rfl) ?_
    refine m_get (v := .int (nI ((m_wl M a1) 33 0))) hx hb hts hin hown hK hP 33 (by decide) l_chars rfl dX9_line_16 ?_
    have eM_5 : g_line M (nI a1) = m_wl M a1 := by simp [g_line, c_2, ka19]
    have eT_6 : k_aw M (nI a1) = k_aw M ((nI a1)) := by simp [c_2, ka19]
    exact W.iret (v := nI ((m_wl M a1) 33 0)) hx hb hr (fun U9 ht hW => ⟨⟨_, (), rfl, (show nI ((m_wl M a1) 33 0) = r_line M (nI a1) from by simp [r_line, c_2, ka19]), by show va_P D vwCl _ U9.heap; rw [ht, eM_5, eT_6]; exact hP⟩, hS.F ht⟩) hS.2.2 dX9_line_19
  · refine lv_iconst (v := nI 0) hx hb dX9_line_8 (by decide) ?_
    have eM_7 : g_line M a = M := by simp [g_line, c_2]
    exact W.iret (v := nI 0) hx hb hr (fun U9 ht hW => ⟨⟨_, (), rfl, (show nI 0 = r_line M a from by simp [r_line, c_2]), by show va_P D vwCl _ U9.heap; rw [ht, eM_7]; exact hP⟩, hS.F ht⟩) hS.2.2 dX9_line_9
set_option maxHeartbeats 4000000 in
set_option maxRecDepth 100000 in
theorem c9_lineChar (l : Launch) (D : va_G) (ad : Nat → Nat) (cI cZ cC : ClassId) (th : Nat) (M : MS) (hM : MI M) {A : Nat → Prop} (hD : mDis A ad) (a : Int32) (q : Int32) : Met l yX9_lineChar wsX9_lineChar ({ frames := 3, cells := 0, slots := 0, locals := 65 }) (va_Pc [.ref (ad 0), .int a, .int q] (mB D ad cI cZ cC th M)) (va_Qi (fun (r : Int32) (_ : Unit) => r = r_lineChar M a q) (fun _ U9 => va_P D vwCl (mws ad cI cZ cC (k_lineChar M a q) (g_line M a)) U9.heap) A) 0 0 A := by
  refine Met.ofW (cc := cX9_lineChar) (maxL := 4) (ret := (some .char)) (by decide) rfl ?_
  intro p e s m args below meth c s₁ B hml hv
  obtain ⟨rfl, hP, hK⟩ := hv
  have hx := B.exec
  have hb := B.bytes
  have hr := B.returns
  have hts := atoms_spec (ws := wsX9_lineChar) B.pre
  have hown : s.vm.findClass RX9 = some m.cls := findClass_of_methodNamed B.named
  have hlocks := B.notSynchronized
  have hin : ∀ w ∈ wsX90, w ∈ wsX9_lineChar := fun w h => List.mem_cons_of_mem _ (List.mem_append_right _ h)
  have l_thrown := (hts (.fieldLink RX9 93 "TenderHallModel" "thrown" "I") (List.mem_of_getElem? (i := 2) rfl))
  have l_chars := (hts (.fieldLink RX9 180 "TenderHallModel" "chars" "I") (List.mem_of_getElem? (i := 1) rfl))
  have l_line := (hts (.fieldLink RX9 89 "TenderHallModel" "line" "[C") (List.mem_of_getElem? (i := 3) rfl))
  have hS : va_S A s.heap s.heap [] := va_S.rf
  have hl := lv_entry ([.ref (ad 0), .int a, .int q]) (n := 4) (Nat.le_of_ble_eq_true rfl)
  rw [lg_entry_eq]
  generalize (lg_sl ([.ref (ad 0), .int a, .int q]) ++ List.replicate (4 - (lg_sl ([.ref (ad 0), .int a, .int q])).length) Slot.unset).toArray = ls at hl ⊢
  have hl : lv_has ls 4 [(0, .ref (ad 0)), (1, .int a), (2, .int q)] := hl
  have h36 : M 3 0 ≤ 6 := hM 3 0
  have h160 : M 16 0 ≤ 60 := hM 16 0
  have h220 : M 22 0 ≤ 60 := hM 22 0
  have h290 : M 29 0 ≤ 60 := hM 29 0
  have h120 : M 1 0 ≤ 2000 := hM 1 0
  refine lv_aload_n hx hb dX9_lineChar_0 rfl (lv_at hl 0 rfl) ?_
  refine lv_iload_n hx hb dX9_lineChar_1 rfl (lv_at hl 1 rfl) ?_
  refine va_calli (va_runV (As := [.int a]) (rest := []) ⟨hx, hb, hml, hown, hts⟩ (c9_asksAward l D ad cI cZ cC th M hM hD  a) (cwV 1 hts gX9_lineChar_X9_asksAward rfl rfl rfl kd_X9_asksAward ⟨Nat.le_of_ble_eq_true rfl, Nat.le_of_ble_eq_true rfl⟩) ⟨mB_blind, m_recv hK hP, m_pre hK hP _⟩ rfl rfl hl.1 rfl (lv_room (Nat.le_of_ble_eq_true rfl)) dX9_lineChar_2 ⟨Nat.le_of_ble_eq_true rfl, Nat.le_of_ble_eq_true rfl⟩) hS (fun _ _ h => h) (fun _ h => h) (fun r_1 u U8 H1 locs1 ht hvm hr_1 hP1 hz1 hk1 hS1 => ?_)
  rw [ht] at hP1
  clear hS
  have hS := hS1
  have hP : va_P D vwCl (mws ad cI cZ cC (k_aw M a) M) H1 := hP1
  generalize H1 = H at hP hS ⊢
  subst hr_1
  refine lv_istore_n (lv' := [(3, .int (bi (isIx a (M 16 0)))), (0, .ref (ad 0)), (1, .int a), (2, .int q)]) hx hb dX9_lineChar_5 rfl hl (by decide) rfl (fun ls hl => ?_)
  refine lv_iload_n hx hb dX9_lineChar_6 rfl (lv_at hl 0 rfl) ?_
  refine b_if_eq (tgt := 15) hx hb dX9_lineChar_7 (by decide)  (fun c_2 => ?_) (fun c_2 => ?_)
  · refine lv_aload_n hx hb dX9_lineChar_15 rfl (lv_at hl 1 rfl) ?_
    refine lv_iload_n hx hb dX9_lineChar_16 rfl (lv_at hl 0 rfl) ?_
    refine b_if_eq (tgt := 38) hx hb dX9_lineChar_17 (by decide) (fun _ => ?_) (fun c9 => absurd (c_2.symm.trans c9) (by decide))
    refine lv_iconst (v := nI 1) hx hb dX9_lineChar_38 (by decide) ?_
    refine m_putT hx hb hts hin hown hK hP hD hS l_thrown dX9_lineChar_39 (fun H locs hP hS => ?_)
    refine lv_aload_n hx hb dX9_lineChar_42 rfl (lv_at hl 1 rfl) ?_
    refine m_get (v := .int (nI 1)) hx hb hts hin hown hK hP 0 (by decide) l_thrown rfl dX9_lineChar_43 ?_
    refine n_if_le (tgt := 54) hx hb dX9_lineChar_46 (by decide) (by decide) (fun c9 => absurd c9 (by decide)) (fun _ => ?_)
    refine lv_bipush (v := nI 32) hx hb dX9_lineChar_49 (by decide) ?_
    refine lv_goto (tgt := 60) hx hb dX9_lineChar_51 (by decide) ?_
    have eM_3 : g_line M a = M := by simp [g_line, c_2]
    have eT_4 : k_lineChar M a q = 1 := by simp [k_lineChar, c_2]
    exact W.zret (v := nI 32) hx hb hr (n_nar_ch _ (by first | decide | exact Nat.lt_of_le_of_lt (MI_wl hM (by omega) 34 _) (by decide))) (fun U9 ht hW => ⟨⟨_, (), rfl, (show nI 32 = r_lineChar M a q from by simp [r_lineChar, k_lineChar, c_2]), by show va_P D vwCl _ U9.heap; rw [ht, eM_3, eT_4]; exact hP⟩, hS.F ht⟩) hS.2.2 dX9_lineChar_60
  · obtain ⟨a1, ha1, rfl⟩ := isIx_of (by omega) c_2
    have ka19 : (nI a1).toNatClampNeg = a1 := nI_clamp (by omega)
    refine lv_aload_n hx hb dX9_lineChar_10 rfl (lv_at hl 1 rfl) ?_
    refine lv_iload_n hx hb dX9_lineChar_11 rfl (lv_at hl 2 rfl) ?_
    refine va_callv (va_runV (As := [.int (nI a1)]) (rest := []) ⟨hx, hb, hml, hown, hts⟩ (c9_writesLine l D ad cI cZ cC (k_aw M ((nI a1))) M hM hD  a1 (by omega)) (cwV 1 hts gX9_lineChar_X9_writesLine rfl rfl rfl kd_X9_writesLine ⟨Nat.le_of_ble_eq_true rfl, Nat.le_of_ble_eq_true rfl⟩) ⟨mB_blind, m_recv hK hP, m_pre hK hP _⟩ rfl rfl hl.1 rfl (lv_room (Nat.le_of_ble_eq_true rfl)) dX9_lineChar_12 ⟨Nat.le_of_ble_eq_true rfl, Nat.le_of_ble_eq_true rfl⟩) hS (fun _ _ h => h) (fun _ h => h) (fun u U8 H1 locs1 ht hvm hr_5 hP1 hz1 hk1 hS1 => ?_)
    rw [ht] at hP1
    clear hS
    have hS := hS1
    have hP : va_P D vwCl (mws ad cI cZ cC (k_aw M ((nI a1))) (m_wl M a1)) H1 := hP1
    generalize H1 = H at hP hS ⊢
    have hM_6 : MI (m_wl M a1) := (MI_wl hM (by omega))
    refine lv_aload_n hx hb dX9_lineChar_15 rfl (lv_at hl 1 rfl) ?_
    refine lv_iload_n hx hb dX9_lineChar_16 rfl (lv_at hl 0 rfl) ?_
    refine b_if_eq (tgt := 38) hx hb dX9_lineChar_17 (by decide) (fun c9 => absurd (c_2.symm.trans c9) (by decide)) (fun _ => ?_)
    refine lv_iload_n hx hb dX9_lineChar_20 rfl (lv_at hl 3 rfl) ?_
    refine lv_iconst (v := nI 0) hx hb dX9_lineChar_21 (by decide) ?_
    refine lv_aload_n hx hb dX9_lineChar_22 rfl (lv_at hl 1 rfl) ?_
    refine m_get (v := .int (nI ((m_wl M a1) 33 0))) hx hb hts hin hown hK hP 33 (by decide) l_chars rfl dX9_lineChar_23 ?_
    refine lv_iconst (v := nI 1) hx hb dX9_lineChar_26 (by decide) ?_
    refine lv_isub hx hb dX9_lineChar_27 ?_
    refine vp_callSi (W.runS (As := [.int q, .int (nI 0), .int ((nI ((m_wl M a1) 33 0)) - (nI 1))]) (rest := [.ref (ad 0)]) ⟨hx, hb, hml, hown, hts⟩ (c9_in l  q (nI 0) ((nI ((m_wl M a1) 33 0)) - (nI 1))) (va_cwS 3 hts gX9_lineChar_X9_in rfl rfl rfl kd_X9_in ⟨Nat.le_of_ble_eq_true rfl, Nat.le_of_ble_eq_true rfl⟩) ⟨fun _ _ _ _ q => q, fun U hU hW => ⟨rfl, trivial⟩⟩ rfl rfl hl.1 rfl (lv_room (Nat.le_of_ble_eq_true rfl)) dX9_lineChar_28 ⟨Nat.le_of_ble_eq_true rfl, Nat.le_of_ble_eq_true rfl⟩) (fun r_7 hr_7 => ?_)
    subst hr_7
    refine b_if_eq (tgt := 38) hx hb dX9_lineChar_31 (by decide)  (fun c_8 => ?_) (fun c_8 => ?_)
    · have cc_9 : isIx q (m_wl M a1 33 0) = false := c_8
      refine lv_iconst (v := nI 1) hx hb dX9_lineChar_38 (by decide) ?_
      refine m_putT hx hb hts hin hown hK hP hD hS l_thrown dX9_lineChar_39 (fun H locs hP hS => ?_)
      refine lv_aload_n hx hb dX9_lineChar_42 rfl (lv_at hl 1 rfl) ?_
      refine m_get (v := .int (nI 1)) hx hb hts hin hown hK hP 0 (by decide) l_thrown rfl dX9_lineChar_43 ?_
      refine n_if_le (tgt := 54) hx hb dX9_lineChar_46 (by decide) (by decide) (fun c9 => absurd c9 (by decide)) (fun _ => ?_)
      refine lv_bipush (v := nI 32) hx hb dX9_lineChar_49 (by decide) ?_
      refine lv_goto (tgt := 60) hx hb dX9_lineChar_51 (by decide) ?_
      have eM_10 : g_line M (nI a1) = m_wl M a1 := by simp [g_line, c_2, ka19, cc_9]
      have eT_11 : k_lineChar M (nI a1) q = 1 := by simp [k_lineChar, c_2, ka19, cc_9]
      exact W.zret (v := nI 32) hx hb hr (n_nar_ch _ (by first | decide | exact Nat.lt_of_le_of_lt (MI_wl hM (by omega) 34 _) (by decide))) (fun U9 ht hW => ⟨⟨_, (), rfl, (show nI 32 = r_lineChar M (nI a1) q from by simp [r_lineChar, k_lineChar, c_2, ka19, cc_9]), by show va_P D vwCl _ U9.heap; rw [ht, eM_10, eT_11]; exact hP⟩, hS.F ht⟩) hS.2.2 dX9_lineChar_60
    · have cc_12 : isIx q (m_wl M a1 33 0) = true := c_8
      have h33 : m_wl M a1 33 0 ≤ 20 := MI_wl hM (by omega) 33 0
      obtain ⟨q1, hq1, rfl⟩ := isIx_of (by omega) cc_12
      have kq19 : (nI q1).toNatClampNeg = q1 := nI_clamp (by omega)
      refine lv_iconst (v := nI 0) hx hb dX9_lineChar_34 (by decide) ?_
      refine lv_goto (tgt := 39) hx hb dX9_lineChar_35 (by decide) ?_
      refine m_putT hx hb hts hin hown hK hP hD hS l_thrown dX9_lineChar_39 (fun H locs hP hS => ?_)
      refine lv_aload_n hx hb dX9_lineChar_42 rfl (lv_at hl 1 rfl) ?_
      refine m_get (v := .int (nI 0)) hx hb hts hin hown hK hP 0 (by decide) l_thrown rfl dX9_lineChar_43 ?_
      refine n_if_le (tgt := 54) hx hb dX9_lineChar_46 (by decide) (by decide) (fun _ => ?_) (fun c9 => absurd c9 (by decide))
      refine lv_aload_n hx hb dX9_lineChar_54 rfl (lv_at hl 1 rfl) ?_
      refine m_get hx hb hts hin hown hK hP 34 (by decide) l_line rfl dX9_lineChar_55 ?_
      refine lv_iload_n hx hb dX9_lineChar_58 rfl (lv_at hl 3 rfl) ?_
      refine m_cald (f := 34) hx hb hK hP 27 rfl (by omega) (by decide) dX9_lineChar_59 ?_
      have eM_13 : g_line M (nI a1) = m_wl M a1 := by simp [g_line, c_2, ka19, cc_12, kq19]
      have eT_14 : k_lineChar M (nI a1) (nI q1) = 0 := by simp [k_lineChar, c_2, ka19, cc_12, kq19]
      exact W.zret (v := nI ((m_wl M a1) 34 q1)) hx hb hr (n_nar_ch _ (by first | decide | exact Nat.lt_of_le_of_lt (MI_wl hM (by omega) 34 _) (by decide))) (fun U9 ht hW => ⟨⟨_, (), rfl, (show nI ((m_wl M a1) 34 q1) = r_lineChar M (nI a1) (nI q1) from by simp [r_lineChar, k_lineChar, c_2, ka19, cc_12, kq19]), by show va_P D vwCl _ U9.heap; rw [ht, eM_13, eT_14]; exact hP⟩, hS.F ht⟩) hS.2.2 dX9_lineChar_60
set_option maxHeartbeats 4000000 in
set_option maxRecDepth 100000 in
theorem c9_mayComplain (l : Launch) (D : va_G) (ad : Nat → Nat) (cI cZ cC : ClassId) (th : Nat) (M : MS) (hM : MI M) (b : Nat) (a : Nat) (z : Nat) (hb9 : b < 8) (ha : a < 60) (hz9 : z ≤ 2) : Met l yX9_mayComplain wsX9_mayComplain ({ frames := 1, cells := 0, slots := 0, locals := 21 }) (va_Pc [.ref (ad 0), .int (nI b), .int (nI a), .int (nI z)] (mB D ad cI cZ cC th M)) (vp_Si (fun r => r = bi (m_mc M b a z))) 0 0 (fun _ => False) := by
  refine Met.ofW (cc := cX9_mayComplain) (maxL := 7) (ret := (some .boolean)) (by decide) rfl ?_
  intro p e s m args below meth c s₁ B hml hv
  obtain ⟨rfl, hP, hK⟩ := hv
  have hx := B.exec
  have hb := B.bytes
  have hr := B.returns
  have hts := atoms_spec (ws := wsX9_mayComplain) B.pre
  have hown : s.vm.findClass RX9 = some m.cls := findClass_of_methodNamed B.named
  have hlocks := B.notSynchronized
  have hin : ∀ w ∈ wsX90, w ∈ wsX9_mayComplain := fun w h => List.mem_cons_of_mem _ (List.mem_append_right _ h)
  have l_lotOf := (hts (.fieldLink RX9 47 "TenderHallModel" "lotOf" "[I") (List.mem_of_getElem? (i := 1) rfl))
  have l_isVoid := (hts (.fieldLink RX9 56 "TenderHallModel" "isVoid" "[Z") (List.mem_of_getElem? (i := 2) rfl))
  have l_complaints := (hts (.fieldLink RX9 148 "TenderHallModel" "complaints" "I") (List.mem_of_getElem? (i := 6) rfl))
  have l_lacks := (hts (.fieldLink RX9 40 "TenderHallModel" "lacks" "[Z") (List.mem_of_getElem? (i := 9) rfl))
  have l_about := (hts (.fieldLink RX9 62 "TenderHallModel" "about" "[I") (List.mem_of_getElem? (i := 7) rfl))
  have l_by := (hts (.fieldLink RX9 65 "TenderHallModel" "by" "[I") (List.mem_of_getElem? (i := 8) rfl))
  have l_today := (hts (.fieldLink RX9 108 "TenderHallModel" "today" "I") (List.mem_of_getElem? (i := 3) rfl))
  have l_price := (hts (.fieldLink RX9 31 "TenderHallModel" "price" "[I") (List.mem_of_getElem? (i := 4) rfl))
  have l_won := (hts (.fieldLink RX9 50 "TenderHallModel" "won" "[I") (List.mem_of_getElem? (i := 5) rfl))
  have hl := lv_entry ([.ref (ad 0), .int (nI b), .int (nI a), .int (nI z)]) (n := 7) (Nat.le_of_ble_eq_true rfl)
  rw [lg_entry_eq]
  generalize (lg_sl ([.ref (ad 0), .int (nI b), .int (nI a), .int (nI z)]) ++ List.replicate (7 - (lg_sl ([.ref (ad 0), .int (nI b), .int (nI a), .int (nI z)])).length) Slot.unset).toArray = ls at hl ⊢
  have hl : lv_has ls 7 [(0, .ref (ad 0)), (1, .int (nI b)), (2, .int (nI a)), (3, .int (nI z))] := hl
  have h36 : M 3 0 ≤ 6 := hM 3 0
  have h160 : M 16 0 ≤ 60 := hM 16 0
  have h220 : M 22 0 ≤ 60 := hM 22 0
  have h290 : M 29 0 ≤ 60 := hM 29 0
  have h120 : M 1 0 ≤ 2000 := hM 1 0
  refine lv_bipush (v := nI 8) hx hb dX9_mayComplain_0 (by decide) ?_
  refine lv_aload_n hx hb dX9_mayComplain_2 rfl (lv_at hl 0 rfl) ?_
  refine m_get hx hb hts hin hown hK hP 17 (by decide) l_lotOf rfl dX9_mayComplain_3 ?_
  refine lv_iload_n hx hb dX9_mayComplain_6 rfl (lv_at hl 2 rfl) ?_
  refine m_iald (f := 17) hx hb hK hP 13 rfl (by omega) (by decide) dX9_mayComplain_7 ?_
  refine n_imul hx hb dX9_mayComplain_8 (z := 8 * (M 17 a)) rfl ?_
  refine lv_iload_n hx hb dX9_mayComplain_9 rfl (lv_at hl 1 rfl) ?_
  refine n_iadd hx hb dX9_mayComplain_10 (z := (8 * (M 17 a)) + b) rfl ?_
  refine lv_istore (lv' := [(4, .int (nI ((8 * (M 17 a)) + b))), (0, .ref (ad 0)), (1, .int (nI b)), (2, .int (nI a)), (3, .int (nI z))]) hx hb dX9_mayComplain_11 hl (by decide) rfl (fun ls hl => ?_)
  refine lv_aload_n hx hb dX9_mayComplain_13 rfl (lv_at hl 1 rfl) ?_
  refine m_get hx hb hts hin hown hK hP 20 (by decide) l_isVoid rfl dX9_mayComplain_14 ?_
  refine lv_iload_n hx hb dX9_mayComplain_17 rfl (lv_at hl 3 rfl) ?_
  refine m_zald (f := 20) hx hb hK hP 16 rfl (by omega) (by decide) dX9_mayComplain_18 ?_
  refine n_if_ne (tgt := 58) hx hb dX9_mayComplain_19 (by decide) (by have f1 : M 20 a ≤ 1 := hM 20 a; omega) (fun c_1 => ?_) (fun c_1 => ?_)
  · refine lv_iconst (v := nI 0) hx hb dX9_mayComplain_58 (by decide) ?_
    refine lv_istore (lv' := [(5, .int (nI 0)), (4, .int (nI ((8 * (M 17 a)) + b))), (0, .ref (ad 0)), (1, .int (nI b)), (2, .int (nI a)), (3, .int (nI z))]) hx hb dX9_mayComplain_59 hl (by decide) rfl (fun ls hl => ?_)
    refine lv_iconst (v := nI 0) hx hb dX9_mayComplain_61 (by decide) ?_
    refine lv_istore (lv' := [(6, .int (nI 0)), (5, .int (nI 0)), (4, .int (nI ((8 * (M 17 a)) + b))), (0, .ref (ad 0)), (1, .int (nI b)), (2, .int (nI a)), (3, .int (nI z))]) hx hb dX9_mayComplain_62 hl (by decide) rfl (fun ls hl => ?_)
    have eI_4 : m_mcf M b a 0 = false := by first | (simp [m_mcf, m_mc0, c_1]; done) | (simp [m_mcf, m_mc0]; intros; omega)
    refine w_loop (e := M 22 0) (nL := 7) (fun i => [(0, .ref (ad 0)), (1, .int (nI b)), (2, .int (nI a)), (3, .int (nI z)), (4, .int (nI (8 * M 17 a + b))), (6, .int (nI i)), (5, .int (bi (m_mcf M b a i)))]) (fun i hb_3 ih_2 ls hl => ?_) 0 (by omega) ls (lv_sub hl [3, 4, 5, 6, 2, 0, 1] (by show lv_pick _ _ = [(0, .ref (ad 0)), (1, .int (nI b)), (2, .int (nI a)), (3, .int (nI z)), (4, .int (nI (8 * M 17 a + b))), (6, .int (nI 0)), (5, .int (bi (m_mcf M b a 0)))]; rw [eI_4]; rfl))
    refine lv_iload hx hb dX9_mayComplain_64 (lv_at hl 5 rfl) ?_
    refine lv_aload_n hx hb dX9_mayComplain_66 rfl (lv_at hl 0 rfl) ?_
    refine m_get (v := .int (nI (M 22 0))) hx hb hts hin hown hK hP 22 (by decide) l_complaints rfl dX9_mayComplain_67 ?_
    refine n_icmp_ge (tgt := 113) hx hb dX9_mayComplain_70 (by decide) (by omega) (by have f1 : M 22 0 ≤ 60 := hM 22 0; omega) (fun c_5 => ?_) (fun c_5 => ?_)
    · obtain rfl : M 22 0 = i := by omega
      refine lv_iload hx hb dX9_mayComplain_113 (lv_at hl 6 rfl) ?_
      refine b_if_eq (tgt := 137) hx hb dX9_mayComplain_115 (by decide)  (fun c_6 => ?_) (fun c_6 => ?_)
      · refine lv_iconst (v := nI 0) hx hb dX9_mayComplain_137 (by decide) ?_
        exact W.zret (v := nI 0) hx hb hr rfl (fun U9 ht hW => ⟨_, rfl, bi_zero (by first | (simp [m_mc, c_1, c_5, c_6]; done) | (simp [m_mc, c_1, c_5, c_6]; omega)), ht⟩) (fun _ h => by cases h) dX9_mayComplain_138
      · refine lv_iload_n hx hb dX9_mayComplain_118 rfl (lv_at hl 3 rfl) ?_
        refine lv_iconst (v := nI 2) hx hb dX9_mayComplain_119 (by decide) ?_
        refine n_icmp_ne (tgt := 133) hx hb dX9_mayComplain_120 (by decide) (by omega) (by decide) (fun c_7 => ?_) (fun c_7 => ?_)
        · refine lv_iconst (v := nI 1) hx hb dX9_mayComplain_133 (by decide) ?_
          refine lv_goto (tgt := 138) hx hb dX9_mayComplain_134 (by decide) ?_
          exact W.zret (v := nI 1) hx hb hr rfl (fun U9 ht hW => ⟨_, rfl, bi_one (by first | (simp [m_mc, c_1, c_5, c_6, c_7]; done) | (simp [m_mc, c_1, c_5, c_6, c_7]; omega)), ht⟩) (fun _ h => by cases h) dX9_mayComplain_138
        · refine lv_aload_n hx hb dX9_mayComplain_123 rfl (lv_at hl 0 rfl) ?_
          refine m_get hx hb hts hin hown hK hP 13 (by decide) l_lacks rfl dX9_mayComplain_124 ?_
          refine lv_iload hx hb dX9_mayComplain_127 (lv_at hl 4 rfl) ?_
          refine m_zald (f := 13) hx hb hK hP 11 rfl (by have f1 : M 17 a ≤ 17 := hM 17 a; omega) (by decide) dX9_mayComplain_129 ?_
          refine n_if_eq (tgt := 137) hx hb dX9_mayComplain_130 (by decide) (by have f1 : M 17 a ≤ 17 := hM 17 a; have f2 : M 13 (8 * M 17 a + b) ≤ 1 := hM 13 (8 * M 17 a + b); omega) (fun c_8 => ?_) (fun c_8 => ?_)
          · refine lv_iconst (v := nI 0) hx hb dX9_mayComplain_137 (by decide) ?_
            exact W.zret (v := nI 0) hx hb hr rfl (fun U9 ht hW => ⟨_, rfl, bi_zero (by first | (simp [m_mc, c_1, c_5, c_6, c_7, c_8]; done) | (simp [m_mc, c_1, c_5, c_6, c_7, c_8]; omega)), ht⟩) (fun _ h => by cases h) dX9_mayComplain_138
          · refine lv_iconst (v := nI 1) hx hb dX9_mayComplain_133 (by decide) ?_
            refine lv_goto (tgt := 138) hx hb dX9_mayComplain_134 (by decide) ?_
            exact W.zret (v := nI 1) hx hb hr rfl (fun U9 ht hW => ⟨_, rfl, bi_one (by first | (simp [m_mc, c_1, c_5, c_6, c_7, c_8]; done) | (simp [m_mc, c_1, c_5, c_6, c_7, c_8]; omega)), ht⟩) (fun _ h => by cases h) dX9_mayComplain_138
    · refine lv_iload hx hb dX9_mayComplain_73 (lv_at hl 6 rfl) ?_
      refine b_if_eq (tgt := 104) hx hb dX9_mayComplain_75 (by decide)  (fun c_9 => ?_) (fun c_9 => ?_)
      · refine lv_iconst (v := nI 0) hx hb dX9_mayComplain_104 (by decide) ?_
        refine lv_istore (lv' := [(5, .int (nI 0)), (0, .ref (ad 0)), (1, .int (nI b)), (2, .int (nI a)), (3, .int (nI z)), (4, .int (nI (8 * M 17 a + b))), (6, .int (nI i))]) hx hb dX9_mayComplain_105 hl (by decide) rfl (fun ls hl => ?_)
        refine n_iinc (k := 6) (lv' := [(6, .int (nI (i + 1))), (5, .int (nI 0)), (0, .ref (ad 0)), (1, .int (nI b)), (2, .int (nI a)), (3, .int (nI z)), (4, .int (nI (8 * M 17 a + b)))]) hx hb dX9_mayComplain_107 hl rfl (by decide) rfl (fun ls hl => ?_)
        refine lv_goto (tgt := 64) hx hb dX9_mayComplain_110 (by decide) ?_
        have e_10 : m_mcf M b a (i + 1) = false := by first | (simp [m_mcf, c_1, c_5, c_9]; done) | (simp [m_mcf, c_1, c_5, c_9]; omega)
        refine ih_2 (by omega) ls ?_
        show lv_has ls 7 [(0, .ref (ad 0)), (1, .int (nI b)), (2, .int (nI a)), (3, .int (nI z)), (4, .int (nI (8 * M 17 a + b))), (6, .int (nI (i + 1))), (5, .int (bi (m_mcf M b a (i + 1))))]
        rw [e_10]
        exact lv_sub hl [2, 3, 4, 5, 6, 0, 1] rfl
      · refine lv_aload_n hx hb dX9_mayComplain_78 rfl (lv_at hl 0 rfl) ?_
        refine m_get hx hb hts hin hown hK hP 23 (by decide) l_about rfl dX9_mayComplain_79 ?_
        refine lv_iload hx hb dX9_mayComplain_82 (lv_at hl 5 rfl) ?_
        refine m_iald (f := 23) hx hb hK hP 18 rfl (by omega) (by decide) dX9_mayComplain_84 ?_
        refine lv_iload_n hx hb dX9_mayComplain_85 rfl (lv_at hl 2 rfl) ?_
        refine n_icmp_ne (tgt := 100) hx hb dX9_mayComplain_86 (by decide) (by have f1 : M 23 i ≤ 59 := hM 23 i; omega) (by omega) (fun c_11 => ?_) (fun c_11 => ?_)
        · refine lv_iconst (v := nI 1) hx hb dX9_mayComplain_100 (by decide) ?_
          refine lv_goto (tgt := 105) hx hb dX9_mayComplain_101 (by decide) ?_
          refine lv_istore (lv' := [(5, .int (nI 1)), (0, .ref (ad 0)), (1, .int (nI b)), (2, .int (nI a)), (3, .int (nI z)), (4, .int (nI (8 * M 17 a + b))), (6, .int (nI i))]) hx hb dX9_mayComplain_105 hl (by decide) rfl (fun ls hl => ?_)
          refine n_iinc (k := 6) (lv' := [(6, .int (nI (i + 1))), (5, .int (nI 1)), (0, .ref (ad 0)), (1, .int (nI b)), (2, .int (nI a)), (3, .int (nI z)), (4, .int (nI (8 * M 17 a + b)))]) hx hb dX9_mayComplain_107 hl rfl (by decide) rfl (fun ls hl => ?_)
          refine lv_goto (tgt := 64) hx hb dX9_mayComplain_110 (by decide) ?_
          have e_12 : m_mcf M b a (i + 1) = true := by first | (simp [m_mcf, c_1, c_5, c_9, c_11]; done) | (simp [m_mcf, c_1, c_5, c_9, c_11]; omega)
          refine ih_2 (by omega) ls ?_
          show lv_has ls 7 [(0, .ref (ad 0)), (1, .int (nI b)), (2, .int (nI a)), (3, .int (nI z)), (4, .int (nI (8 * M 17 a + b))), (6, .int (nI (i + 1))), (5, .int (bi (m_mcf M b a (i + 1))))]
          rw [e_12]
          exact lv_sub hl [2, 3, 4, 5, 6, 0, 1] rfl
        · refine lv_aload_n hx hb dX9_mayComplain_89 rfl (lv_at hl 0 rfl) ?_
          refine m_get hx hb hts hin hown hK hP 24 (by decide) l_by rfl dX9_mayComplain_90 ?_
          refine lv_iload hx hb dX9_mayComplain_93 (lv_at hl 5 rfl) ?_
          refine m_iald (f := 24) hx hb hK hP 19 rfl (by omega) (by decide) dX9_mayComplain_95 ?_
          refine lv_iload_n hx hb dX9_mayComplain_96 rfl (lv_at hl 1 rfl) ?_
          refine n_icmp_eq (tgt := 104) hx hb dX9_mayComplain_97 (by decide) (by have f1 : M 24 i ≤ 7 := hM 24 i; omega) (by omega) (fun c_13 => ?_) (fun c_13 => ?_)
          · refine lv_iconst (v := nI 0) hx hb dX9_mayComplain_104 (by decide) ?_
            refine lv_istore (lv' := [(5, .int (nI 0)), (0, .ref (ad 0)), (1, .int (nI b)), (2, .int (nI a)), (3, .int (nI z)), (4, .int (nI (8 * M 17 a + b))), (6, .int (nI i))]) hx hb dX9_mayComplain_105 hl (by decide) rfl (fun ls hl => ?_)
            refine n_iinc (k := 6) (lv' := [(6, .int (nI (i + 1))), (5, .int (nI 0)), (0, .ref (ad 0)), (1, .int (nI b)), (2, .int (nI a)), (3, .int (nI z)), (4, .int (nI (8 * M 17 a + b)))]) hx hb dX9_mayComplain_107 hl rfl (by decide) rfl (fun ls hl => ?_)
            refine lv_goto (tgt := 64) hx hb dX9_mayComplain_110 (by decide) ?_
            have e_14 : m_mcf M b a (i + 1) = false := by first | (simp [m_mcf, c_1, c_5, c_9, c_11, c_13]; done) | (simp [m_mcf, c_1, c_5, c_9, c_11, c_13]; omega)
            refine ih_2 (by omega) ls ?_
            show lv_has ls 7 [(0, .ref (ad 0)), (1, .int (nI b)), (2, .int (nI a)), (3, .int (nI z)), (4, .int (nI (8 * M 17 a + b))), (6, .int (nI (i + 1))), (5, .int (bi (m_mcf M b a (i + 1))))]
            rw [e_14]
            exact lv_sub hl [2, 3, 4, 5, 6, 0, 1] rfl
          · refine lv_iconst (v := nI 1) hx hb dX9_mayComplain_100 (by decide) ?_
            refine lv_goto (tgt := 105) hx hb dX9_mayComplain_101 (by decide) ?_
            refine lv_istore (lv' := [(5, .int (nI 1)), (0, .ref (ad 0)), (1, .int (nI b)), (2, .int (nI a)), (3, .int (nI z)), (4, .int (nI (8 * M 17 a + b))), (6, .int (nI i))]) hx hb dX9_mayComplain_105 hl (by decide) rfl (fun ls hl => ?_)
            refine n_iinc (k := 6) (lv' := [(6, .int (nI (i + 1))), (5, .int (nI 1)), (0, .ref (ad 0)), (1, .int (nI b)), (2, .int (nI a)), (3, .int (nI z)), (4, .int (nI (8 * M 17 a + b)))]) hx hb dX9_mayComplain_107 hl rfl (by decide) rfl (fun ls hl => ?_)
            refine lv_goto (tgt := 64) hx hb dX9_mayComplain_110 (by decide) ?_
            have e_15 : m_mcf M b a (i + 1) = true := by first | (simp [m_mcf, c_1, c_5, c_9, c_11, c_13]; done) | (simp [m_mcf, c_1, c_5, c_9, c_11, c_13]; omega)
            refine ih_2 (by omega) ls ?_
            show lv_has ls 7 [(0, .ref (ad 0)), (1, .int (nI b)), (2, .int (nI a)), (3, .int (nI z)), (4, .int (nI (8 * M 17 a + b))), (6, .int (nI (i + 1))), (5, .int (bi (m_mcf M b a (i + 1))))]
            rw [e_15]
            exact lv_sub hl [2, 3, 4, 5, 6, 0, 1] rfl
  · refine lv_aload_n hx hb dX9_mayComplain_22 rfl (lv_at hl 1 rfl) ?_
    refine m_get (v := .int (nI (M 1 0))) hx hb hts hin hown hK hP 1 (by decide) l_today rfl dX9_mayComplain_23 ?_
    refine lv_aload_n hx hb dX9_mayComplain_26 rfl (lv_at hl 1 rfl) ?_
    refine lv_iload_n hx hb dX9_mayComplain_27 rfl (lv_at hl 3 rfl) ?_
    refine vp_callSi (W.runV (As := [.int (nI a)]) (rest := [.int (nI (M 1 0))]) ⟨hx, hb, hml, hown, hts⟩ (c9_standsUntil l D ad cI cZ cC th M hM  a (by omega)) (cwV 1 hts gX9_mayComplain_X9_standsUntil rfl rfl rfl kd_X9_standsUntil ⟨Nat.le_of_ble_eq_true rfl, Nat.le_of_ble_eq_true rfl⟩) ⟨mB_blind, m_recv hK hP, m_pre hK hP _⟩ rfl rfl hl.1 rfl (lv_room (Nat.le_of_ble_eq_true rfl)) dX9_mayComplain_28 ⟨Nat.le_of_ble_eq_true rfl, Nat.le_of_ble_eq_true rfl⟩) (fun r_16 hr_16 => ?_)
    subst hr_16
    refine n_icmp_ge (tgt := 58) hx hb dX9_mayComplain_31 (by decide) (by have f1 : M 1 0 ≤ 2000 := hM 1 0; omega) (by have f1 := (m_su_le hM a); omega) (fun c_17 => ?_) (fun c_17 => ?_)
    · refine lv_iconst (v := nI 0) hx hb dX9_mayComplain_58 (by decide) ?_
      refine lv_istore (lv' := [(5, .int (nI 0)), (4, .int (nI ((8 * (M 17 a)) + b))), (0, .ref (ad 0)), (1, .int (nI b)), (2, .int (nI a)), (3, .int (nI z))]) hx hb dX9_mayComplain_59 hl (by decide) rfl (fun ls hl => ?_)
      refine lv_iconst (v := nI 0) hx hb dX9_mayComplain_61 (by decide) ?_
      refine lv_istore (lv' := [(6, .int (nI 0)), (5, .int (nI 0)), (4, .int (nI ((8 * (M 17 a)) + b))), (0, .ref (ad 0)), (1, .int (nI b)), (2, .int (nI a)), (3, .int (nI z))]) hx hb dX9_mayComplain_62 hl (by decide) rfl (fun ls hl => ?_)
      have eI_20 : m_mcf M b a 0 = false := by first | (simp [m_mcf, m_mc0, c_1, c_17]; done) | (simp [m_mcf, m_mc0]; intros; omega)
      refine w_loop (e := M 22 0) (nL := 7) (fun i => [(0, .ref (ad 0)), (1, .int (nI b)), (2, .int (nI a)), (3, .int (nI z)), (4, .int (nI (8 * M 17 a + b))), (6, .int (nI i)), (5, .int (bi (m_mcf M b a i)))]) (fun i hb_19 ih_18 ls hl => ?_) 0 (by omega) ls (lv_sub hl [3, 4, 5, 6, 2, 0, 1] (by show lv_pick _ _ = [(0, .ref (ad 0)), (1, .int (nI b)), (2, .int (nI a)), (3, .int (nI z)), (4, .int (nI (8 * M 17 a + b))), (6, .int (nI 0)), (5, .int (bi (m_mcf M b a 0)))]; rw [eI_20]; rfl))
      refine lv_iload hx hb dX9_mayComplain_64 (lv_at hl 5 rfl) ?_
      refine lv_aload_n hx hb dX9_mayComplain_66 rfl (lv_at hl 0 rfl) ?_
      refine m_get (v := .int (nI (M 22 0))) hx hb hts hin hown hK hP 22 (by decide) l_complaints rfl dX9_mayComplain_67 ?_
      refine n_icmp_ge (tgt := 113) hx hb dX9_mayComplain_70 (by decide) (by omega) (by have f1 : M 22 0 ≤ 60 := hM 22 0; omega) (fun c_21 => ?_) (fun c_21 => ?_)
      · obtain rfl : M 22 0 = i := by omega
        refine lv_iload hx hb dX9_mayComplain_113 (lv_at hl 6 rfl) ?_
        refine b_if_eq (tgt := 137) hx hb dX9_mayComplain_115 (by decide)  (fun c_22 => ?_) (fun c_22 => ?_)
        · refine lv_iconst (v := nI 0) hx hb dX9_mayComplain_137 (by decide) ?_
          exact W.zret (v := nI 0) hx hb hr rfl (fun U9 ht hW => ⟨_, rfl, bi_zero (by first | (simp [m_mc, c_1, c_17, c_21, c_22]; done) | (simp [m_mc, c_1, c_17, c_21, c_22]; omega)), ht⟩) (fun _ h => by cases h) dX9_mayComplain_138
        · refine lv_iload_n hx hb dX9_mayComplain_118 rfl (lv_at hl 3 rfl) ?_
          refine lv_iconst (v := nI 2) hx hb dX9_mayComplain_119 (by decide) ?_
          refine n_icmp_ne (tgt := 133) hx hb dX9_mayComplain_120 (by decide) (by omega) (by decide) (fun c_23 => ?_) (fun c_23 => ?_)
          · refine lv_iconst (v := nI 1) hx hb dX9_mayComplain_133 (by decide) ?_
            refine lv_goto (tgt := 138) hx hb dX9_mayComplain_134 (by decide) ?_
            exact W.zret (v := nI 1) hx hb hr rfl (fun U9 ht hW => ⟨_, rfl, bi_one (by first | (simp [m_mc, c_1, c_17, c_21, c_22, c_23]; done) | (simp [m_mc, c_1, c_17, c_21, c_22, c_23]; omega)), ht⟩) (fun _ h => by cases h) dX9_mayComplain_138
          · refine lv_aload_n hx hb dX9_mayComplain_123 rfl (lv_at hl 0 rfl) ?_
            refine m_get hx hb hts hin hown hK hP 13 (by decide) l_lacks rfl dX9_mayComplain_124 ?_
            refine lv_iload hx hb dX9_mayComplain_127 (lv_at hl 4 rfl) ?_
            refine m_zald (f := 13) hx hb hK hP 11 rfl (by have f1 : M 17 a ≤ 17 := hM 17 a; omega) (by decide) dX9_mayComplain_129 ?_
            refine n_if_eq (tgt := 137) hx hb dX9_mayComplain_130 (by decide) (by have f1 : M 17 a ≤ 17 := hM 17 a; have f2 : M 13 (8 * M 17 a + b) ≤ 1 := hM 13 (8 * M 17 a + b); omega) (fun c_24 => ?_) (fun c_24 => ?_)
            · refine lv_iconst (v := nI 0) hx hb dX9_mayComplain_137 (by decide) ?_
              exact W.zret (v := nI 0) hx hb hr rfl (fun U9 ht hW => ⟨_, rfl, bi_zero (by first | (simp [m_mc, c_1, c_17, c_21, c_22, c_23, c_24]; done) | (simp [m_mc, c_1, c_17, c_21, c_22, c_23, c_24]; omega)), ht⟩) (fun _ h => by cases h) dX9_mayComplain_138
            · refine lv_iconst (v := nI 1) hx hb dX9_mayComplain_133 (by decide) ?_
              refine lv_goto (tgt := 138) hx hb dX9_mayComplain_134 (by decide) ?_
              exact W.zret (v := nI 1) hx hb hr rfl (fun U9 ht hW => ⟨_, rfl, bi_one (by first | (simp [m_mc, c_1, c_17, c_21, c_22, c_23, c_24]; done) | (simp [m_mc, c_1, c_17, c_21, c_22, c_23, c_24]; omega)), ht⟩) (fun _ h => by cases h) dX9_mayComplain_138
      · refine lv_iload hx hb dX9_mayComplain_73 (lv_at hl 6 rfl) ?_
        refine b_if_eq (tgt := 104) hx hb dX9_mayComplain_75 (by decide)  (fun c_25 => ?_) (fun c_25 => ?_)
        · refine lv_iconst (v := nI 0) hx hb dX9_mayComplain_104 (by decide) ?_
          refine lv_istore (lv' := [(5, .int (nI 0)), (0, .ref (ad 0)), (1, .int (nI b)), (2, .int (nI a)), (3, .int (nI z)), (4, .int (nI (8 * M 17 a + b))), (6, .int (nI i))]) hx hb dX9_mayComplain_105 hl (by decide) rfl (fun ls hl => ?_)
          refine n_iinc (k := 6) (lv' := [(6, .int (nI (i + 1))), (5, .int (nI 0)), (0, .ref (ad 0)), (1, .int (nI b)), (2, .int (nI a)), (3, .int (nI z)), (4, .int (nI (8 * M 17 a + b)))]) hx hb dX9_mayComplain_107 hl rfl (by decide) rfl (fun ls hl => ?_)
          refine lv_goto (tgt := 64) hx hb dX9_mayComplain_110 (by decide) ?_
          have e_26 : m_mcf M b a (i + 1) = false := by first | (simp [m_mcf, c_1, c_17, c_21, c_25]; done) | (simp [m_mcf, c_1, c_17, c_21, c_25]; omega)
          refine ih_18 (by omega) ls ?_
          show lv_has ls 7 [(0, .ref (ad 0)), (1, .int (nI b)), (2, .int (nI a)), (3, .int (nI z)), (4, .int (nI (8 * M 17 a + b))), (6, .int (nI (i + 1))), (5, .int (bi (m_mcf M b a (i + 1))))]
          rw [e_26]
          exact lv_sub hl [2, 3, 4, 5, 6, 0, 1] rfl
        · refine lv_aload_n hx hb dX9_mayComplain_78 rfl (lv_at hl 0 rfl) ?_
          refine m_get hx hb hts hin hown hK hP 23 (by decide) l_about rfl dX9_mayComplain_79 ?_
          refine lv_iload hx hb dX9_mayComplain_82 (lv_at hl 5 rfl) ?_
          refine m_iald (f := 23) hx hb hK hP 18 rfl (by omega) (by decide) dX9_mayComplain_84 ?_
          refine lv_iload_n hx hb dX9_mayComplain_85 rfl (lv_at hl 2 rfl) ?_
          refine n_icmp_ne (tgt := 100) hx hb dX9_mayComplain_86 (by decide) (by have f1 : M 23 i ≤ 59 := hM 23 i; omega) (by omega) (fun c_27 => ?_) (fun c_27 => ?_)
          · refine lv_iconst (v := nI 1) hx hb dX9_mayComplain_100 (by decide) ?_
            refine lv_goto (tgt := 105) hx hb dX9_mayComplain_101 (by decide) ?_
            refine lv_istore (lv' := [(5, .int (nI 1)), (0, .ref (ad 0)), (1, .int (nI b)), (2, .int (nI a)), (3, .int (nI z)), (4, .int (nI (8 * M 17 a + b))), (6, .int (nI i))]) hx hb dX9_mayComplain_105 hl (by decide) rfl (fun ls hl => ?_)
            refine n_iinc (k := 6) (lv' := [(6, .int (nI (i + 1))), (5, .int (nI 1)), (0, .ref (ad 0)), (1, .int (nI b)), (2, .int (nI a)), (3, .int (nI z)), (4, .int (nI (8 * M 17 a + b)))]) hx hb dX9_mayComplain_107 hl rfl (by decide) rfl (fun ls hl => ?_)
            refine lv_goto (tgt := 64) hx hb dX9_mayComplain_110 (by decide) ?_
            have e_28 : m_mcf M b a (i + 1) = true := by first | (simp [m_mcf, c_1, c_17, c_21, c_25, c_27]; done) | (simp [m_mcf, c_1, c_17, c_21, c_25, c_27]; omega)
            refine ih_18 (by omega) ls ?_
            show lv_has ls 7 [(0, .ref (ad 0)), (1, .int (nI b)), (2, .int (nI a)), (3, .int (nI z)), (4, .int (nI (8 * M 17 a + b))), (6, .int (nI (i + 1))), (5, .int (bi (m_mcf M b a (i + 1))))]
            rw [e_28]
            exact lv_sub hl [2, 3, 4, 5, 6, 0, 1] rfl
          · refine lv_aload_n hx hb dX9_mayComplain_89 rfl (lv_at hl 0 rfl) ?_
            refine m_get hx hb hts hin hown hK hP 24 (by decide) l_by rfl dX9_mayComplain_90 ?_
            refine lv_iload hx hb dX9_mayComplain_93 (lv_at hl 5 rfl) ?_
            refine m_iald (f := 24) hx hb hK hP 19 rfl (by omega) (by decide) dX9_mayComplain_95 ?_
            refine lv_iload_n hx hb dX9_mayComplain_96 rfl (lv_at hl 1 rfl) ?_
            refine n_icmp_eq (tgt := 104) hx hb dX9_mayComplain_97 (by decide) (by have f1 : M 24 i ≤ 7 := hM 24 i; omega) (by omega) (fun c_29 => ?_) (fun c_29 => ?_)
            · refine lv_iconst (v := nI 0) hx hb dX9_mayComplain_104 (by decide) ?_
              refine lv_istore (lv' := [(5, .int (nI 0)), (0, .ref (ad 0)), (1, .int (nI b)), (2, .int (nI a)), (3, .int (nI z)), (4, .int (nI (8 * M 17 a + b))), (6, .int (nI i))]) hx hb dX9_mayComplain_105 hl (by decide) rfl (fun ls hl => ?_)
              refine n_iinc (k := 6) (lv' := [(6, .int (nI (i + 1))), (5, .int (nI 0)), (0, .ref (ad 0)), (1, .int (nI b)), (2, .int (nI a)), (3, .int (nI z)), (4, .int (nI (8 * M 17 a + b)))]) hx hb dX9_mayComplain_107 hl rfl (by decide) rfl (fun ls hl => ?_)
              refine lv_goto (tgt := 64) hx hb dX9_mayComplain_110 (by decide) ?_
              have e_30 : m_mcf M b a (i + 1) = false := by first | (simp [m_mcf, c_1, c_17, c_21, c_25, c_27, c_29]; done) | (simp [m_mcf, c_1, c_17, c_21, c_25, c_27, c_29]; omega)
              refine ih_18 (by omega) ls ?_
              show lv_has ls 7 [(0, .ref (ad 0)), (1, .int (nI b)), (2, .int (nI a)), (3, .int (nI z)), (4, .int (nI (8 * M 17 a + b))), (6, .int (nI (i + 1))), (5, .int (bi (m_mcf M b a (i + 1))))]
              rw [e_30]
              exact lv_sub hl [2, 3, 4, 5, 6, 0, 1] rfl
            · refine lv_iconst (v := nI 1) hx hb dX9_mayComplain_100 (by decide) ?_
              refine lv_goto (tgt := 105) hx hb dX9_mayComplain_101 (by decide) ?_
              refine lv_istore (lv' := [(5, .int (nI 1)), (0, .ref (ad 0)), (1, .int (nI b)), (2, .int (nI a)), (3, .int (nI z)), (4, .int (nI (8 * M 17 a + b))), (6, .int (nI i))]) hx hb dX9_mayComplain_105 hl (by decide) rfl (fun ls hl => ?_)
              refine n_iinc (k := 6) (lv' := [(6, .int (nI (i + 1))), (5, .int (nI 1)), (0, .ref (ad 0)), (1, .int (nI b)), (2, .int (nI a)), (3, .int (nI z)), (4, .int (nI (8 * M 17 a + b)))]) hx hb dX9_mayComplain_107 hl rfl (by decide) rfl (fun ls hl => ?_)
              refine lv_goto (tgt := 64) hx hb dX9_mayComplain_110 (by decide) ?_
              have e_31 : m_mcf M b a (i + 1) = true := by first | (simp [m_mcf, c_1, c_17, c_21, c_25, c_27, c_29]; done) | (simp [m_mcf, c_1, c_17, c_21, c_25, c_27, c_29]; omega)
              refine ih_18 (by omega) ls ?_
              show lv_has ls 7 [(0, .ref (ad 0)), (1, .int (nI b)), (2, .int (nI a)), (3, .int (nI z)), (4, .int (nI (8 * M 17 a + b))), (6, .int (nI (i + 1))), (5, .int (bi (m_mcf M b a (i + 1))))]
              rw [e_31]
              exact lv_sub hl [2, 3, 4, 5, 6, 0, 1] rfl
    · refine lv_aload_n hx hb dX9_mayComplain_34 rfl (lv_at hl 1 rfl) ?_
      refine m_get hx hb hts hin hown hK hP 10 (by decide) l_price rfl dX9_mayComplain_35 ?_
      refine lv_iload hx hb dX9_mayComplain_38 (lv_at hl 0 rfl) ?_
      refine m_iald (f := 10) hx hb hK hP 8 rfl (by have f1 : M 17 a ≤ 17 := hM 17 a; omega) (by decide) dX9_mayComplain_40 ?_
      refine n_if_le (tgt := 58) hx hb dX9_mayComplain_41 (by decide) (by have f1 : M 17 a ≤ 17 := hM 17 a; have f2 : M 10 ((8 * (M 17 a)) + b) ≤ 100000 := hM 10 ((8 * (M 17 a)) + b); omega) (fun c_32 => ?_) (fun c_32 => ?_)
      · refine lv_iconst (v := nI 0) hx hb dX9_mayComplain_58 (by decide) ?_
        refine lv_istore (lv' := [(5, .int (nI 0)), (4, .int (nI ((8 * (M 17 a)) + b))), (0, .ref (ad 0)), (1, .int (nI b)), (2, .int (nI a)), (3, .int (nI z))]) hx hb dX9_mayComplain_59 hl (by decide) rfl (fun ls hl => ?_)
        refine lv_iconst (v := nI 0) hx hb dX9_mayComplain_61 (by decide) ?_
        refine lv_istore (lv' := [(6, .int (nI 0)), (5, .int (nI 0)), (4, .int (nI ((8 * (M 17 a)) + b))), (0, .ref (ad 0)), (1, .int (nI b)), (2, .int (nI a)), (3, .int (nI z))]) hx hb dX9_mayComplain_62 hl (by decide) rfl (fun ls hl => ?_)
        have eI_35 : m_mcf M b a 0 = false := by first | (simp [m_mcf, m_mc0, c_1, c_17, c_32]; done) | (simp [m_mcf, m_mc0]; intros; omega)
        refine w_loop (e := M 22 0) (nL := 7) (fun i => [(0, .ref (ad 0)), (1, .int (nI b)), (2, .int (nI a)), (3, .int (nI z)), (4, .int (nI (8 * M 17 a + b))), (6, .int (nI i)), (5, .int (bi (m_mcf M b a i)))]) (fun i hb_34 ih_33 ls hl => ?_) 0 (by omega) ls (lv_sub hl [3, 4, 5, 6, 2, 0, 1] (by show lv_pick _ _ = [(0, .ref (ad 0)), (1, .int (nI b)), (2, .int (nI a)), (3, .int (nI z)), (4, .int (nI (8 * M 17 a + b))), (6, .int (nI 0)), (5, .int (bi (m_mcf M b a 0)))]; rw [eI_35]; rfl))
        refine lv_iload hx hb dX9_mayComplain_64 (lv_at hl 5 rfl) ?_
        refine lv_aload_n hx hb dX9_mayComplain_66 rfl (lv_at hl 0 rfl) ?_
        refine m_get (v := .int (nI (M 22 0))) hx hb hts hin hown hK hP 22 (by decide) l_complaints rfl dX9_mayComplain_67 ?_
        refine n_icmp_ge (tgt := 113) hx hb dX9_mayComplain_70 (by decide) (by omega) (by have f1 : M 22 0 ≤ 60 := hM 22 0; omega) (fun c_36 => ?_) (fun c_36 => ?_)
        · obtain rfl : M 22 0 = i := by omega
          refine lv_iload hx hb dX9_mayComplain_113 (lv_at hl 6 rfl) ?_
          refine b_if_eq (tgt := 137) hx hb dX9_mayComplain_115 (by decide)  (fun c_37 => ?_) (fun c_37 => ?_)
          · refine lv_iconst (v := nI 0) hx hb dX9_mayComplain_137 (by decide) ?_
            exact W.zret (v := nI 0) hx hb hr rfl (fun U9 ht hW => ⟨_, rfl, bi_zero (by first | (simp [m_mc, c_1, c_17, c_32, c_36, c_37]; done) | (simp [m_mc, c_1, c_17, c_32, c_36, c_37]; omega)), ht⟩) (fun _ h => by cases h) dX9_mayComplain_138
          · refine lv_iload_n hx hb dX9_mayComplain_118 rfl (lv_at hl 3 rfl) ?_
            refine lv_iconst (v := nI 2) hx hb dX9_mayComplain_119 (by decide) ?_
            refine n_icmp_ne (tgt := 133) hx hb dX9_mayComplain_120 (by decide) (by omega) (by decide) (fun c_38 => ?_) (fun c_38 => ?_)
            · refine lv_iconst (v := nI 1) hx hb dX9_mayComplain_133 (by decide) ?_
              refine lv_goto (tgt := 138) hx hb dX9_mayComplain_134 (by decide) ?_
              exact W.zret (v := nI 1) hx hb hr rfl (fun U9 ht hW => ⟨_, rfl, bi_one (by first | (simp [m_mc, c_1, c_17, c_32, c_36, c_37, c_38]; done) | (simp [m_mc, c_1, c_17, c_32, c_36, c_37, c_38]; omega)), ht⟩) (fun _ h => by cases h) dX9_mayComplain_138
            · refine lv_aload_n hx hb dX9_mayComplain_123 rfl (lv_at hl 0 rfl) ?_
              refine m_get hx hb hts hin hown hK hP 13 (by decide) l_lacks rfl dX9_mayComplain_124 ?_
              refine lv_iload hx hb dX9_mayComplain_127 (lv_at hl 4 rfl) ?_
              refine m_zald (f := 13) hx hb hK hP 11 rfl (by have f1 : M 17 a ≤ 17 := hM 17 a; omega) (by decide) dX9_mayComplain_129 ?_
              refine n_if_eq (tgt := 137) hx hb dX9_mayComplain_130 (by decide) (by have f1 : M 17 a ≤ 17 := hM 17 a; have f2 : M 13 (8 * M 17 a + b) ≤ 1 := hM 13 (8 * M 17 a + b); omega) (fun c_39 => ?_) (fun c_39 => ?_)
              · refine lv_iconst (v := nI 0) hx hb dX9_mayComplain_137 (by decide) ?_
                exact W.zret (v := nI 0) hx hb hr rfl (fun U9 ht hW => ⟨_, rfl, bi_zero (by first | (simp [m_mc, c_1, c_17, c_32, c_36, c_37, c_38, c_39]; done) | (simp [m_mc, c_1, c_17, c_32, c_36, c_37, c_38, c_39]; omega)), ht⟩) (fun _ h => by cases h) dX9_mayComplain_138
              · refine lv_iconst (v := nI 1) hx hb dX9_mayComplain_133 (by decide) ?_
                refine lv_goto (tgt := 138) hx hb dX9_mayComplain_134 (by decide) ?_
                exact W.zret (v := nI 1) hx hb hr rfl (fun U9 ht hW => ⟨_, rfl, bi_one (by first | (simp [m_mc, c_1, c_17, c_32, c_36, c_37, c_38, c_39]; done) | (simp [m_mc, c_1, c_17, c_32, c_36, c_37, c_38, c_39]; omega)), ht⟩) (fun _ h => by cases h) dX9_mayComplain_138
        · refine lv_iload hx hb dX9_mayComplain_73 (lv_at hl 6 rfl) ?_
          refine b_if_eq (tgt := 104) hx hb dX9_mayComplain_75 (by decide)  (fun c_40 => ?_) (fun c_40 => ?_)
          · refine lv_iconst (v := nI 0) hx hb dX9_mayComplain_104 (by decide) ?_
            refine lv_istore (lv' := [(5, .int (nI 0)), (0, .ref (ad 0)), (1, .int (nI b)), (2, .int (nI a)), (3, .int (nI z)), (4, .int (nI (8 * M 17 a + b))), (6, .int (nI i))]) hx hb dX9_mayComplain_105 hl (by decide) rfl (fun ls hl => ?_)
            refine n_iinc (k := 6) (lv' := [(6, .int (nI (i + 1))), (5, .int (nI 0)), (0, .ref (ad 0)), (1, .int (nI b)), (2, .int (nI a)), (3, .int (nI z)), (4, .int (nI (8 * M 17 a + b)))]) hx hb dX9_mayComplain_107 hl rfl (by decide) rfl (fun ls hl => ?_)
            refine lv_goto (tgt := 64) hx hb dX9_mayComplain_110 (by decide) ?_
            have e_41 : m_mcf M b a (i + 1) = false := by first | (simp [m_mcf, c_1, c_17, c_32, c_36, c_40]; done) | (simp [m_mcf, c_1, c_17, c_32, c_36, c_40]; omega)
            refine ih_33 (by omega) ls ?_
            show lv_has ls 7 [(0, .ref (ad 0)), (1, .int (nI b)), (2, .int (nI a)), (3, .int (nI z)), (4, .int (nI (8 * M 17 a + b))), (6, .int (nI (i + 1))), (5, .int (bi (m_mcf M b a (i + 1))))]
            rw [e_41]
            exact lv_sub hl [2, 3, 4, 5, 6, 0, 1] rfl
          · refine lv_aload_n hx hb dX9_mayComplain_78 rfl (lv_at hl 0 rfl) ?_
            refine m_get hx hb hts hin hown hK hP 23 (by decide) l_about rfl dX9_mayComplain_79 ?_
            refine lv_iload hx hb dX9_mayComplain_82 (lv_at hl 5 rfl) ?_
            refine m_iald (f := 23) hx hb hK hP 18 rfl (by omega) (by decide) dX9_mayComplain_84 ?_
            refine lv_iload_n hx hb dX9_mayComplain_85 rfl (lv_at hl 2 rfl) ?_
            refine n_icmp_ne (tgt := 100) hx hb dX9_mayComplain_86 (by decide) (by have f1 : M 23 i ≤ 59 := hM 23 i; omega) (by omega) (fun c_42 => ?_) (fun c_42 => ?_)
            · refine lv_iconst (v := nI 1) hx hb dX9_mayComplain_100 (by decide) ?_
              refine lv_goto (tgt := 105) hx hb dX9_mayComplain_101 (by decide) ?_
              refine lv_istore (lv' := [(5, .int (nI 1)), (0, .ref (ad 0)), (1, .int (nI b)), (2, .int (nI a)), (3, .int (nI z)), (4, .int (nI (8 * M 17 a + b))), (6, .int (nI i))]) hx hb dX9_mayComplain_105 hl (by decide) rfl (fun ls hl => ?_)
              refine n_iinc (k := 6) (lv' := [(6, .int (nI (i + 1))), (5, .int (nI 1)), (0, .ref (ad 0)), (1, .int (nI b)), (2, .int (nI a)), (3, .int (nI z)), (4, .int (nI (8 * M 17 a + b)))]) hx hb dX9_mayComplain_107 hl rfl (by decide) rfl (fun ls hl => ?_)
              refine lv_goto (tgt := 64) hx hb dX9_mayComplain_110 (by decide) ?_
              have e_43 : m_mcf M b a (i + 1) = true := by first | (simp [m_mcf, c_1, c_17, c_32, c_36, c_40, c_42]; done) | (simp [m_mcf, c_1, c_17, c_32, c_36, c_40, c_42]; omega)
              refine ih_33 (by omega) ls ?_
              show lv_has ls 7 [(0, .ref (ad 0)), (1, .int (nI b)), (2, .int (nI a)), (3, .int (nI z)), (4, .int (nI (8 * M 17 a + b))), (6, .int (nI (i + 1))), (5, .int (bi (m_mcf M b a (i + 1))))]
              rw [e_43]
              exact lv_sub hl [2, 3, 4, 5, 6, 0, 1] rfl
            · refine lv_aload_n hx hb dX9_mayComplain_89 rfl (lv_at hl 0 rfl) ?_
              refine m_get hx hb hts hin hown hK hP 24 (by decide) l_by rfl dX9_mayComplain_90 ?_
              refine lv_iload hx hb dX9_mayComplain_93 (lv_at hl 5 rfl) ?_
              refine m_iald (f := 24) hx hb hK hP 19 rfl (by omega) (by decide) dX9_mayComplain_95 ?_
              refine lv_iload_n hx hb dX9_mayComplain_96 rfl (lv_at hl 1 rfl) ?_
              refine n_icmp_eq (tgt := 104) hx hb dX9_mayComplain_97 (by decide) (by have f1 : M 24 i ≤ 7 := hM 24 i; omega) (by omega) (fun c_44 => ?_) (fun c_44 => ?_)
              · refine lv_iconst (v := nI 0) hx hb dX9_mayComplain_104 (by decide) ?_
                refine lv_istore (lv' := [(5, .int (nI 0)), (0, .ref (ad 0)), (1, .int (nI b)), (2, .int (nI a)), (3, .int (nI z)), (4, .int (nI (8 * M 17 a + b))), (6, .int (nI i))]) hx hb dX9_mayComplain_105 hl (by decide) rfl (fun ls hl => ?_)
                refine n_iinc (k := 6) (lv' := [(6, .int (nI (i + 1))), (5, .int (nI 0)), (0, .ref (ad 0)), (1, .int (nI b)), (2, .int (nI a)), (3, .int (nI z)), (4, .int (nI (8 * M 17 a + b)))]) hx hb dX9_mayComplain_107 hl rfl (by decide) rfl (fun ls hl => ?_)
                refine lv_goto (tgt := 64) hx hb dX9_mayComplain_110 (by decide) ?_
                have e_45 : m_mcf M b a (i + 1) = false := by first | (simp [m_mcf, c_1, c_17, c_32, c_36, c_40, c_42, c_44]; done) | (simp [m_mcf, c_1, c_17, c_32, c_36, c_40, c_42, c_44]; omega)
                refine ih_33 (by omega) ls ?_
                show lv_has ls 7 [(0, .ref (ad 0)), (1, .int (nI b)), (2, .int (nI a)), (3, .int (nI z)), (4, .int (nI (8 * M 17 a + b))), (6, .int (nI (i + 1))), (5, .int (bi (m_mcf M b a (i + 1))))]
                rw [e_45]
                exact lv_sub hl [2, 3, 4, 5, 6, 0, 1] rfl
              · refine lv_iconst (v := nI 1) hx hb dX9_mayComplain_100 (by decide) ?_
                refine lv_goto (tgt := 105) hx hb dX9_mayComplain_101 (by decide) ?_
                refine lv_istore (lv' := [(5, .int (nI 1)), (0, .ref (ad 0)), (1, .int (nI b)), (2, .int (nI a)), (3, .int (nI z)), (4, .int (nI (8 * M 17 a + b))), (6, .int (nI i))]) hx hb dX9_mayComplain_105 hl (by decide) rfl (fun ls hl => ?_)
                refine n_iinc (k := 6) (lv' := [(6, .int (nI (i + 1))), (5, .int (nI 1)), (0, .ref (ad 0)), (1, .int (nI b)), (2, .int (nI a)), (3, .int (nI z)), (4, .int (nI (8 * M 17 a + b)))]) hx hb dX9_mayComplain_107 hl rfl (by decide) rfl (fun ls hl => ?_)
                refine lv_goto (tgt := 64) hx hb dX9_mayComplain_110 (by decide) ?_
                have e_46 : m_mcf M b a (i + 1) = true := by first | (simp [m_mcf, c_1, c_17, c_32, c_36, c_40, c_42, c_44]; done) | (simp [m_mcf, c_1, c_17, c_32, c_36, c_40, c_42, c_44]; omega)
                refine ih_33 (by omega) ls ?_
                show lv_has ls 7 [(0, .ref (ad 0)), (1, .int (nI b)), (2, .int (nI a)), (3, .int (nI z)), (4, .int (nI (8 * M 17 a + b))), (6, .int (nI (i + 1))), (5, .int (bi (m_mcf M b a (i + 1))))]
                rw [e_46]
                exact lv_sub hl [2, 3, 4, 5, 6, 0, 1] rfl
      · refine lv_aload_n hx hb dX9_mayComplain_44 rfl (lv_at hl 1 rfl) ?_
        refine m_get hx hb hts hin hown hK hP 18 (by decide) l_won rfl dX9_mayComplain_45 ?_
        refine lv_iload_n hx hb dX9_mayComplain_48 rfl (lv_at hl 3 rfl) ?_
        refine m_iald (f := 18) hx hb hK hP 14 rfl (by omega) (by decide) dX9_mayComplain_49 ?_
        refine lv_iload_n hx hb dX9_mayComplain_50 rfl (lv_at hl 2 rfl) ?_
        refine n_icmp_eq (tgt := 58) hx hb dX9_mayComplain_51 (by decide) (by have f1 : M 18 a ≤ 7 := hM 18 a; omega) (by omega) (fun c_47 => ?_) (fun c_47 => ?_)
        · refine lv_iconst (v := nI 0) hx hb dX9_mayComplain_58 (by decide) ?_
          refine lv_istore (lv' := [(5, .int (nI 0)), (4, .int (nI ((8 * (M 17 a)) + b))), (0, .ref (ad 0)), (1, .int (nI b)), (2, .int (nI a)), (3, .int (nI z))]) hx hb dX9_mayComplain_59 hl (by decide) rfl (fun ls hl => ?_)
          refine lv_iconst (v := nI 0) hx hb dX9_mayComplain_61 (by decide) ?_
          refine lv_istore (lv' := [(6, .int (nI 0)), (5, .int (nI 0)), (4, .int (nI ((8 * (M 17 a)) + b))), (0, .ref (ad 0)), (1, .int (nI b)), (2, .int (nI a)), (3, .int (nI z))]) hx hb dX9_mayComplain_62 hl (by decide) rfl (fun ls hl => ?_)
          have eI_50 : m_mcf M b a 0 = false := by first | (simp [m_mcf, m_mc0, c_1, c_17, c_32, c_47]; done) | (simp [m_mcf, m_mc0]; intros; omega)
          refine w_loop (e := M 22 0) (nL := 7) (fun i => [(0, .ref (ad 0)), (1, .int (nI b)), (2, .int (nI a)), (3, .int (nI z)), (4, .int (nI (8 * M 17 a + b))), (6, .int (nI i)), (5, .int (bi (m_mcf M b a i)))]) (fun i hb_49 ih_48 ls hl => ?_) 0 (by omega) ls (lv_sub hl [3, 4, 5, 6, 2, 0, 1] (by show lv_pick _ _ = [(0, .ref (ad 0)), (1, .int (nI b)), (2, .int (nI a)), (3, .int (nI z)), (4, .int (nI (8 * M 17 a + b))), (6, .int (nI 0)), (5, .int (bi (m_mcf M b a 0)))]; rw [eI_50]; rfl))
          refine lv_iload hx hb dX9_mayComplain_64 (lv_at hl 5 rfl) ?_
          refine lv_aload_n hx hb dX9_mayComplain_66 rfl (lv_at hl 0 rfl) ?_
          refine m_get (v := .int (nI (M 22 0))) hx hb hts hin hown hK hP 22 (by decide) l_complaints rfl dX9_mayComplain_67 ?_
          refine n_icmp_ge (tgt := 113) hx hb dX9_mayComplain_70 (by decide) (by omega) (by have f1 : M 22 0 ≤ 60 := hM 22 0; omega) (fun c_51 => ?_) (fun c_51 => ?_)
          · obtain rfl : M 22 0 = i := by omega
            refine lv_iload hx hb dX9_mayComplain_113 (lv_at hl 6 rfl) ?_
            refine b_if_eq (tgt := 137) hx hb dX9_mayComplain_115 (by decide)  (fun c_52 => ?_) (fun c_52 => ?_)
            · refine lv_iconst (v := nI 0) hx hb dX9_mayComplain_137 (by decide) ?_
              exact W.zret (v := nI 0) hx hb hr rfl (fun U9 ht hW => ⟨_, rfl, bi_zero (by first | (simp [m_mc, c_1, c_17, c_32, c_47, c_51, c_52]; done) | (simp [m_mc, c_1, c_17, c_32, c_47, c_51, c_52]; omega)), ht⟩) (fun _ h => by cases h) dX9_mayComplain_138
            · refine lv_iload_n hx hb dX9_mayComplain_118 rfl (lv_at hl 3 rfl) ?_
              refine lv_iconst (v := nI 2) hx hb dX9_mayComplain_119 (by decide) ?_
              refine n_icmp_ne (tgt := 133) hx hb dX9_mayComplain_120 (by decide) (by omega) (by decide) (fun c_53 => ?_) (fun c_53 => ?_)
              · refine lv_iconst (v := nI 1) hx hb dX9_mayComplain_133 (by decide) ?_
                refine lv_goto (tgt := 138) hx hb dX9_mayComplain_134 (by decide) ?_
                exact W.zret (v := nI 1) hx hb hr rfl (fun U9 ht hW => ⟨_, rfl, bi_one (by first | (simp [m_mc, c_1, c_17, c_32, c_47, c_51, c_52, c_53]; done) | (simp [m_mc, c_1, c_17, c_32, c_47, c_51, c_52, c_53]; omega)), ht⟩) (fun _ h => by cases h) dX9_mayComplain_138
              · refine lv_aload_n hx hb dX9_mayComplain_123 rfl (lv_at hl 0 rfl) ?_
                refine m_get hx hb hts hin hown hK hP 13 (by decide) l_lacks rfl dX9_mayComplain_124 ?_
                refine lv_iload hx hb dX9_mayComplain_127 (lv_at hl 4 rfl) ?_
                refine m_zald (f := 13) hx hb hK hP 11 rfl (by have f1 : M 17 a ≤ 17 := hM 17 a; omega) (by decide) dX9_mayComplain_129 ?_
                refine n_if_eq (tgt := 137) hx hb dX9_mayComplain_130 (by decide) (by have f1 : M 17 a ≤ 17 := hM 17 a; have f2 : M 13 (8 * M 17 a + b) ≤ 1 := hM 13 (8 * M 17 a + b); omega) (fun c_54 => ?_) (fun c_54 => ?_)
                · refine lv_iconst (v := nI 0) hx hb dX9_mayComplain_137 (by decide) ?_
                  exact W.zret (v := nI 0) hx hb hr rfl (fun U9 ht hW => ⟨_, rfl, bi_zero (by first | (simp [m_mc, c_1, c_17, c_32, c_47, c_51, c_52, c_53, c_54]; done) | (simp [m_mc, c_1, c_17, c_32, c_47, c_51, c_52, c_53, c_54]; omega)), ht⟩) (fun _ h => by cases h) dX9_mayComplain_138
                · refine lv_iconst (v := nI 1) hx hb dX9_mayComplain_133 (by decide) ?_
                  refine lv_goto (tgt := 138) hx hb dX9_mayComplain_134 (by decide) ?_
                  exact W.zret (v := nI 1) hx hb hr rfl (fun U9 ht hW => ⟨_, rfl, bi_one (by first | (simp [m_mc, c_1, c_17, c_32, c_47, c_51, c_52, c_53, c_54]; done) | (simp [m_mc, c_1, c_17, c_32, c_47, c_51, c_52, c_53, c_54]; omega)), ht⟩) (fun _ h => by cases h) dX9_mayComplain_138
          · refine lv_iload hx hb dX9_mayComplain_73 (lv_at hl 6 rfl) ?_
            refine b_if_eq (tgt := 104) hx hb dX9_mayComplain_75 (by decide)  (fun c_55 => ?_) (fun c_55 => ?_)
            · refine lv_iconst (v := nI 0) hx hb dX9_mayComplain_104 (by decide) ?_
              refine lv_istore (lv' := [(5, .int (nI 0)), (0, .ref (ad 0)), (1, .int (nI b)), (2, .int (nI a)), (3, .int (nI z)), (4, .int (nI (8 * M 17 a + b))), (6, .int (nI i))]) hx hb dX9_mayComplain_105 hl (by decide) rfl (fun ls hl => ?_)
              refine n_iinc (k := 6) (lv' := [(6, .int (nI (i + 1))), (5, .int (nI 0)), (0, .ref (ad 0)), (1, .int (nI b)), (2, .int (nI a)), (3, .int (nI z)), (4, .int (nI (8 * M 17 a + b)))]) hx hb dX9_mayComplain_107 hl rfl (by decide) rfl (fun ls hl => ?_)
              refine lv_goto (tgt := 64) hx hb dX9_mayComplain_110 (by decide) ?_
              have e_56 : m_mcf M b a (i + 1) = false := by first | (simp [m_mcf, c_1, c_17, c_32, c_47, c_51, c_55]; done) | (simp [m_mcf, c_1, c_17, c_32, c_47, c_51, c_55]; omega)
              refine ih_48 (by omega) ls ?_
              show lv_has ls 7 [(0, .ref (ad 0)), (1, .int (nI b)), (2, .int (nI a)), (3, .int (nI z)), (4, .int (nI (8 * M 17 a + b))), (6, .int (nI (i + 1))), (5, .int (bi (m_mcf M b a (i + 1))))]
              rw [e_56]
              exact lv_sub hl [2, 3, 4, 5, 6, 0, 1] rfl
            · refine lv_aload_n hx hb dX9_mayComplain_78 rfl (lv_at hl 0 rfl) ?_
              refine m_get hx hb hts hin hown hK hP 23 (by decide) l_about rfl dX9_mayComplain_79 ?_
              refine lv_iload hx hb dX9_mayComplain_82 (lv_at hl 5 rfl) ?_
              refine m_iald (f := 23) hx hb hK hP 18 rfl (by omega) (by decide) dX9_mayComplain_84 ?_
              refine lv_iload_n hx hb dX9_mayComplain_85 rfl (lv_at hl 2 rfl) ?_
              refine n_icmp_ne (tgt := 100) hx hb dX9_mayComplain_86 (by decide) (by have f1 : M 23 i ≤ 59 := hM 23 i; omega) (by omega) (fun c_57 => ?_) (fun c_57 => ?_)
              · refine lv_iconst (v := nI 1) hx hb dX9_mayComplain_100 (by decide) ?_
                refine lv_goto (tgt := 105) hx hb dX9_mayComplain_101 (by decide) ?_
                refine lv_istore (lv' := [(5, .int (nI 1)), (0, .ref (ad 0)), (1, .int (nI b)), (2, .int (nI a)), (3, .int (nI z)), (4, .int (nI (8 * M 17 a + b))), (6, .int (nI i))]) hx hb dX9_mayComplain_105 hl (by decide) rfl (fun ls hl => ?_)
                refine n_iinc (k := 6) (lv' := [(6, .int (nI (i + 1))), (5, .int (nI 1)), (0, .ref (ad 0)), (1, .int (nI b)), (2, .int (nI a)), (3, .int (nI z)), (4, .int (nI (8 * M 17 a + b)))]) hx hb dX9_mayComplain_107 hl rfl (by decide) rfl (fun ls hl => ?_)
                refine lv_goto (tgt := 64) hx hb dX9_mayComplain_110 (by decide) ?_
                have e_58 : m_mcf M b a (i + 1) = true := by first | (simp [m_mcf, c_1, c_17, c_32, c_47, c_51, c_55, c_57]; done) | (simp [m_mcf, c_1, c_17, c_32, c_47, c_51, c_55, c_57]; omega)
                refine ih_48 (by omega) ls ?_
                show lv_has ls 7 [(0, .ref (ad 0)), (1, .int (nI b)), (2, .int (nI a)), (3, .int (nI z)), (4, .int (nI (8 * M 17 a + b))), (6, .int (nI (i + 1))), (5, .int (bi (m_mcf M b a (i + 1))))]
                rw [e_58]
                exact lv_sub hl [2, 3, 4, 5, 6, 0, 1] rfl
              · refine lv_aload_n hx hb dX9_mayComplain_89 rfl (lv_at hl 0 rfl) ?_
                refine m_get hx hb hts hin hown hK hP 24 (by decide) l_by rfl dX9_mayComplain_90 ?_
                refine lv_iload hx hb dX9_mayComplain_93 (lv_at hl 5 rfl) ?_
                refine m_iald (f := 24) hx hb hK hP 19 rfl (by omega) (by decide) dX9_mayComplain_95 ?_
                refine lv_iload_n hx hb dX9_mayComplain_96 rfl (lv_at hl 1 rfl) ?_
                refine n_icmp_eq (tgt := 104) hx hb dX9_mayComplain_97 (by decide) (by have f1 : M 24 i ≤ 7 := hM 24 i; omega) (by omega) (fun c_59 => ?_) (fun c_59 => ?_)
                · refine lv_iconst (v := nI 0) hx hb dX9_mayComplain_104 (by decide) ?_
                  refine lv_istore (lv' := [(5, .int (nI 0)), (0, .ref (ad 0)), (1, .int (nI b)), (2, .int (nI a)), (3, .int (nI z)), (4, .int (nI (8 * M 17 a + b))), (6, .int (nI i))]) hx hb dX9_mayComplain_105 hl (by decide) rfl (fun ls hl => ?_)
                  refine n_iinc (k := 6) (lv' := [(6, .int (nI (i + 1))), (5, .int (nI 0)), (0, .ref (ad 0)), (1, .int (nI b)), (2, .int (nI a)), (3, .int (nI z)), (4, .int (nI (8 * M 17 a + b)))]) hx hb dX9_mayComplain_107 hl rfl (by decide) rfl (fun ls hl => ?_)
                  refine lv_goto (tgt := 64) hx hb dX9_mayComplain_110 (by decide) ?_
                  have e_60 : m_mcf M b a (i + 1) = false := by first | (simp [m_mcf, c_1, c_17, c_32, c_47, c_51, c_55, c_57, c_59]; done) | (simp [m_mcf, c_1, c_17, c_32, c_47, c_51, c_55, c_57, c_59]; omega)
                  refine ih_48 (by omega) ls ?_
                  show lv_has ls 7 [(0, .ref (ad 0)), (1, .int (nI b)), (2, .int (nI a)), (3, .int (nI z)), (4, .int (nI (8 * M 17 a + b))), (6, .int (nI (i + 1))), (5, .int (bi (m_mcf M b a (i + 1))))]
                  rw [e_60]
                  exact lv_sub hl [2, 3, 4, 5, 6, 0, 1] rfl
                · refine lv_iconst (v := nI 1) hx hb dX9_mayComplain_100 (by decide) ?_
                  refine lv_goto (tgt := 105) hx hb dX9_mayComplain_101 (by decide) ?_
                  refine lv_istore (lv' := [(5, .int (nI 1)), (0, .ref (ad 0)), (1, .int (nI b)), (2, .int (nI a)), (3, .int (nI z)), (4, .int (nI (8 * M 17 a + b))), (6, .int (nI i))]) hx hb dX9_mayComplain_105 hl (by decide) rfl (fun ls hl => ?_)
                  refine n_iinc (k := 6) (lv' := [(6, .int (nI (i + 1))), (5, .int (nI 1)), (0, .ref (ad 0)), (1, .int (nI b)), (2, .int (nI a)), (3, .int (nI z)), (4, .int (nI (8 * M 17 a + b)))]) hx hb dX9_mayComplain_107 hl rfl (by decide) rfl (fun ls hl => ?_)
                  refine lv_goto (tgt := 64) hx hb dX9_mayComplain_110 (by decide) ?_
                  have e_61 : m_mcf M b a (i + 1) = true := by first | (simp [m_mcf, c_1, c_17, c_32, c_47, c_51, c_55, c_57, c_59]; done) | (simp [m_mcf, c_1, c_17, c_32, c_47, c_51, c_55, c_57, c_59]; omega)
                  refine ih_48 (by omega) ls ?_
                  show lv_has ls 7 [(0, .ref (ad 0)), (1, .int (nI b)), (2, .int (nI a)), (3, .int (nI z)), (4, .int (nI (8 * M 17 a + b))), (6, .int (nI (i + 1))), (5, .int (bi (m_mcf M b a (i + 1))))]
                  rw [e_61]
                  exact lv_sub hl [2, 3, 4, 5, 6, 0, 1] rfl
        · refine lv_iconst (v := nI 1) hx hb dX9_mayComplain_54 (by decide) ?_
          refine lv_goto (tgt := 59) hx hb dX9_mayComplain_55 (by decide) ?_
          refine lv_istore (lv' := [(5, .int (nI 1)), (4, .int (nI ((8 * (M 17 a)) + b))), (0, .ref (ad 0)), (1, .int (nI b)), (2, .int (nI a)), (3, .int (nI z))]) hx hb dX9_mayComplain_59 hl (by decide) rfl (fun ls hl => ?_)
          refine lv_iconst (v := nI 0) hx hb dX9_mayComplain_61 (by decide) ?_
          refine lv_istore (lv' := [(6, .int (nI 0)), (5, .int (nI 1)), (4, .int (nI ((8 * (M 17 a)) + b))), (0, .ref (ad 0)), (1, .int (nI b)), (2, .int (nI a)), (3, .int (nI z))]) hx hb dX9_mayComplain_62 hl (by decide) rfl (fun ls hl => ?_)
          have eI_64 : m_mcf M b a 0 = true := by first | (simp [m_mcf, m_mc0, c_1, c_17, c_32, c_47]; done) | (simp [m_mcf, m_mc0]; intros; omega)
          refine w_loop (e := M 22 0) (nL := 7) (fun i => [(0, .ref (ad 0)), (1, .int (nI b)), (2, .int (nI a)), (3, .int (nI z)), (4, .int (nI (8 * M 17 a + b))), (6, .int (nI i)), (5, .int (bi (m_mcf M b a i)))]) (fun i hb_63 ih_62 ls hl => ?_) 0 (by omega) ls (lv_sub hl [3, 4, 5, 6, 2, 0, 1] (by show lv_pick _ _ = [(0, .ref (ad 0)), (1, .int (nI b)), (2, .int (nI a)), (3, .int (nI z)), (4, .int (nI (8 * M 17 a + b))), (6, .int (nI 0)), (5, .int (bi (m_mcf M b a 0)))]; rw [eI_64]; rfl))
          refine lv_iload hx hb dX9_mayComplain_64 (lv_at hl 5 rfl) ?_
          refine lv_aload_n hx hb dX9_mayComplain_66 rfl (lv_at hl 0 rfl) ?_
          refine m_get (v := .int (nI (M 22 0))) hx hb hts hin hown hK hP 22 (by decide) l_complaints rfl dX9_mayComplain_67 ?_
          refine n_icmp_ge (tgt := 113) hx hb dX9_mayComplain_70 (by decide) (by omega) (by have f1 : M 22 0 ≤ 60 := hM 22 0; omega) (fun c_65 => ?_) (fun c_65 => ?_)
          · obtain rfl : M 22 0 = i := by omega
            refine lv_iload hx hb dX9_mayComplain_113 (lv_at hl 6 rfl) ?_
            refine b_if_eq (tgt := 137) hx hb dX9_mayComplain_115 (by decide)  (fun c_66 => ?_) (fun c_66 => ?_)
            · refine lv_iconst (v := nI 0) hx hb dX9_mayComplain_137 (by decide) ?_
              exact W.zret (v := nI 0) hx hb hr rfl (fun U9 ht hW => ⟨_, rfl, bi_zero (by first | (simp [m_mc, c_1, c_17, c_32, c_47, c_65, c_66]; done) | (simp [m_mc, c_1, c_17, c_32, c_47, c_65, c_66]; omega)), ht⟩) (fun _ h => by cases h) dX9_mayComplain_138
            · refine lv_iload_n hx hb dX9_mayComplain_118 rfl (lv_at hl 3 rfl) ?_
              refine lv_iconst (v := nI 2) hx hb dX9_mayComplain_119 (by decide) ?_
              refine n_icmp_ne (tgt := 133) hx hb dX9_mayComplain_120 (by decide) (by omega) (by decide) (fun c_67 => ?_) (fun c_67 => ?_)
              · refine lv_iconst (v := nI 1) hx hb dX9_mayComplain_133 (by decide) ?_
                refine lv_goto (tgt := 138) hx hb dX9_mayComplain_134 (by decide) ?_
                exact W.zret (v := nI 1) hx hb hr rfl (fun U9 ht hW => ⟨_, rfl, bi_one (by first | (simp [m_mc, c_1, c_17, c_32, c_47, c_65, c_66, c_67]; done) | (simp [m_mc, c_1, c_17, c_32, c_47, c_65, c_66, c_67]; omega)), ht⟩) (fun _ h => by cases h) dX9_mayComplain_138
              · refine lv_aload_n hx hb dX9_mayComplain_123 rfl (lv_at hl 0 rfl) ?_
                refine m_get hx hb hts hin hown hK hP 13 (by decide) l_lacks rfl dX9_mayComplain_124 ?_
                refine lv_iload hx hb dX9_mayComplain_127 (lv_at hl 4 rfl) ?_
                refine m_zald (f := 13) hx hb hK hP 11 rfl (by have f1 : M 17 a ≤ 17 := hM 17 a; omega) (by decide) dX9_mayComplain_129 ?_
                refine n_if_eq (tgt := 137) hx hb dX9_mayComplain_130 (by decide) (by have f1 : M 17 a ≤ 17 := hM 17 a; have f2 : M 13 (8 * M 17 a + b) ≤ 1 := hM 13 (8 * M 17 a + b); omega) (fun c_68 => ?_) (fun c_68 => ?_)
                · refine lv_iconst (v := nI 0) hx hb dX9_mayComplain_137 (by decide) ?_
                  exact W.zret (v := nI 0) hx hb hr rfl (fun U9 ht hW => ⟨_, rfl, bi_zero (by first | (simp [m_mc, c_1, c_17, c_32, c_47, c_65, c_66, c_67, c_68]; done) | (simp [m_mc, c_1, c_17, c_32, c_47, c_65, c_66, c_67, c_68]; omega)), ht⟩) (fun _ h => by cases h) dX9_mayComplain_138
                · refine lv_iconst (v := nI 1) hx hb dX9_mayComplain_133 (by decide) ?_
                  refine lv_goto (tgt := 138) hx hb dX9_mayComplain_134 (by decide) ?_
                  exact W.zret (v := nI 1) hx hb hr rfl (fun U9 ht hW => ⟨_, rfl, bi_one (by first | (simp [m_mc, c_1, c_17, c_32, c_47, c_65, c_66, c_67, c_68]; done) | (simp [m_mc, c_1, c_17, c_32, c_47, c_65, c_66, c_67, c_68]; omega)), ht⟩) (fun _ h => by cases h) dX9_mayComplain_138
          · refine lv_iload hx hb dX9_mayComplain_73 (lv_at hl 6 rfl) ?_
            refine b_if_eq (tgt := 104) hx hb dX9_mayComplain_75 (by decide)  (fun c_69 => ?_) (fun c_69 => ?_)
            · refine lv_iconst (v := nI 0) hx hb dX9_mayComplain_104 (by decide) ?_
              refine lv_istore (lv' := [(5, .int (nI 0)), (0, .ref (ad 0)), (1, .int (nI b)), (2, .int (nI a)), (3, .int (nI z)), (4, .int (nI (8 * M 17 a + b))), (6, .int (nI i))]) hx hb dX9_mayComplain_105 hl (by decide) rfl (fun ls hl => ?_)
              refine n_iinc (k := 6) (lv' := [(6, .int (nI (i + 1))), (5, .int (nI 0)), (0, .ref (ad 0)), (1, .int (nI b)), (2, .int (nI a)), (3, .int (nI z)), (4, .int (nI (8 * M 17 a + b)))]) hx hb dX9_mayComplain_107 hl rfl (by decide) rfl (fun ls hl => ?_)
              refine lv_goto (tgt := 64) hx hb dX9_mayComplain_110 (by decide) ?_
              have e_70 : m_mcf M b a (i + 1) = false := by first | (simp [m_mcf, c_1, c_17, c_32, c_47, c_65, c_69]; done) | (simp [m_mcf, c_1, c_17, c_32, c_47, c_65, c_69]; omega)
              refine ih_62 (by omega) ls ?_
              show lv_has ls 7 [(0, .ref (ad 0)), (1, .int (nI b)), (2, .int (nI a)), (3, .int (nI z)), (4, .int (nI (8 * M 17 a + b))), (6, .int (nI (i + 1))), (5, .int (bi (m_mcf M b a (i + 1))))]
              rw [e_70]
              exact lv_sub hl [2, 3, 4, 5, 6, 0, 1] rfl
            · refine lv_aload_n hx hb dX9_mayComplain_78 rfl (lv_at hl 0 rfl) ?_
              refine m_get hx hb hts hin hown hK hP 23 (by decide) l_about rfl dX9_mayComplain_79 ?_
              refine lv_iload hx hb dX9_mayComplain_82 (lv_at hl 5 rfl) ?_
              refine m_iald (f := 23) hx hb hK hP 18 rfl (by omega) (by decide) dX9_mayComplain_84 ?_
              refine lv_iload_n hx hb dX9_mayComplain_85 rfl (lv_at hl 2 rfl) ?_
              refine n_icmp_ne (tgt := 100) hx hb dX9_mayComplain_86 (by decide) (by have f1 : M 23 i ≤ 59 := hM 23 i; omega) (by omega) (fun c_71 => ?_) (fun c_71 => ?_)
              · refine lv_iconst (v := nI 1) hx hb dX9_mayComplain_100 (by decide) ?_
                refine lv_goto (tgt := 105) hx hb dX9_mayComplain_101 (by decide) ?_
                refine lv_istore (lv' := [(5, .int (nI 1)), (0, .ref (ad 0)), (1, .int (nI b)), (2, .int (nI a)), (3, .int (nI z)), (4, .int (nI (8 * M 17 a + b))), (6, .int (nI i))]) hx hb dX9_mayComplain_105 hl (by decide) rfl (fun ls hl => ?_)
                refine n_iinc (k := 6) (lv' := [(6, .int (nI (i + 1))), (5, .int (nI 1)), (0, .ref (ad 0)), (1, .int (nI b)), (2, .int (nI a)), (3, .int (nI z)), (4, .int (nI (8 * M 17 a + b)))]) hx hb dX9_mayComplain_107 hl rfl (by decide) rfl (fun ls hl => ?_)
                refine lv_goto (tgt := 64) hx hb dX9_mayComplain_110 (by decide) ?_
                have e_72 : m_mcf M b a (i + 1) = true := by first | (simp [m_mcf, c_1, c_17, c_32, c_47, c_65, c_69, c_71]; done) | (simp [m_mcf, c_1, c_17, c_32, c_47, c_65, c_69, c_71]; omega)
                refine ih_62 (by omega) ls ?_
                show lv_has ls 7 [(0, .ref (ad 0)), (1, .int (nI b)), (2, .int (nI a)), (3, .int (nI z)), (4, .int (nI (8 * M 17 a + b))), (6, .int (nI (i + 1))), (5, .int (bi (m_mcf M b a (i + 1))))]
                rw [e_72]
                exact lv_sub hl [2, 3, 4, 5, 6, 0, 1] rfl
              · refine lv_aload_n hx hb dX9_mayComplain_89 rfl (lv_at hl 0 rfl) ?_
                refine m_get hx hb hts hin hown hK hP 24 (by decide) l_by rfl dX9_mayComplain_90 ?_
                refine lv_iload hx hb dX9_mayComplain_93 (lv_at hl 5 rfl) ?_
                refine m_iald (f := 24) hx hb hK hP 19 rfl (by omega) (by decide) dX9_mayComplain_95 ?_
                refine lv_iload_n hx hb dX9_mayComplain_96 rfl (lv_at hl 1 rfl) ?_
                refine n_icmp_eq (tgt := 104) hx hb dX9_mayComplain_97 (by decide) (by have f1 : M 24 i ≤ 7 := hM 24 i; omega) (by omega) (fun c_73 => ?_) (fun c_73 => ?_)
                · refine lv_iconst (v := nI 0) hx hb dX9_mayComplain_104 (by decide) ?_
                  refine lv_istore (lv' := [(5, .int (nI 0)), (0, .ref (ad 0)), (1, .int (nI b)), (2, .int (nI a)), (3, .int (nI z)), (4, .int (nI (8 * M 17 a + b))), (6, .int (nI i))]) hx hb dX9_mayComplain_105 hl (by decide) rfl (fun ls hl => ?_)
                  refine n_iinc (k := 6) (lv' := [(6, .int (nI (i + 1))), (5, .int (nI 0)), (0, .ref (ad 0)), (1, .int (nI b)), (2, .int (nI a)), (3, .int (nI z)), (4, .int (nI (8 * M 17 a + b)))]) hx hb dX9_mayComplain_107 hl rfl (by decide) rfl (fun ls hl => ?_)
                  refine lv_goto (tgt := 64) hx hb dX9_mayComplain_110 (by decide) ?_
                  have e_74 : m_mcf M b a (i + 1) = false := by first | (simp [m_mcf, c_1, c_17, c_32, c_47, c_65, c_69, c_71, c_73]; done) | (simp [m_mcf, c_1, c_17, c_32, c_47, c_65, c_69, c_71, c_73]; omega)
                  refine ih_62 (by omega) ls ?_
                  show lv_has ls 7 [(0, .ref (ad 0)), (1, .int (nI b)), (2, .int (nI a)), (3, .int (nI z)), (4, .int (nI (8 * M 17 a + b))), (6, .int (nI (i + 1))), (5, .int (bi (m_mcf M b a (i + 1))))]
                  rw [e_74]
                  exact lv_sub hl [2, 3, 4, 5, 6, 0, 1] rfl
                · refine lv_iconst (v := nI 1) hx hb dX9_mayComplain_100 (by decide) ?_
                  refine lv_goto (tgt := 105) hx hb dX9_mayComplain_101 (by decide) ?_
                  refine lv_istore (lv' := [(5, .int (nI 1)), (0, .ref (ad 0)), (1, .int (nI b)), (2, .int (nI a)), (3, .int (nI z)), (4, .int (nI (8 * M 17 a + b))), (6, .int (nI i))]) hx hb dX9_mayComplain_105 hl (by decide) rfl (fun ls hl => ?_)
                  refine n_iinc (k := 6) (lv' := [(6, .int (nI (i + 1))), (5, .int (nI 1)), (0, .ref (ad 0)), (1, .int (nI b)), (2, .int (nI a)), (3, .int (nI z)), (4, .int (nI (8 * M 17 a + b)))]) hx hb dX9_mayComplain_107 hl rfl (by decide) rfl (fun ls hl => ?_)
                  refine lv_goto (tgt := 64) hx hb dX9_mayComplain_110 (by decide) ?_
                  have e_75 : m_mcf M b a (i + 1) = true := by first | (simp [m_mcf, c_1, c_17, c_32, c_47, c_65, c_69, c_71, c_73]; done) | (simp [m_mcf, c_1, c_17, c_32, c_47, c_65, c_69, c_71, c_73]; omega)
                  refine ih_62 (by omega) ls ?_
                  show lv_has ls 7 [(0, .ref (ad 0)), (1, .int (nI b)), (2, .int (nI a)), (3, .int (nI z)), (4, .int (nI (8 * M 17 a + b))), (6, .int (nI (i + 1))), (5, .int (bi (m_mcf M b a (i + 1))))]
                  rw [e_75]
                  exact lv_sub hl [2, 3, 4, 5, 6, 0, 1] rfl
set_option maxHeartbeats 4000000 in
set_option maxRecDepth 100000 in
theorem c9_complain (l : Launch) (D : va_G) (ad : Nat → Nat) (cI cZ cC : ClassId) (th : Nat) (M : MS) (hM : MI M) {A : Nat → Prop} (hD : mDis A ad) (b : Int32) (a : Int32) (z : Int32) : Met l yX9_complain wsX9_complain ({ frames := 2, cells := 0, slots := 0, locals := 47 }) (va_Pc [.ref (ad 0), .int b, .int a, .int z] (mB D ad cI cZ cC th M)) (va_Qi (fun (r : Int32) (_ : Unit) => r = if k_complain M b a z = 0 then nI (M 22 0) else nI 0) (fun _ U9 => va_P D vwCl (mws ad cI cZ cC (k_complain M b a z) (g_complain M b a z)) U9.heap) A) 0 0 A := by
  refine Met.ofW (cc := cX9_complain) (maxL := 4) (ret := (some .int)) (by decide) rfl ?_
  intro p e s m args below meth c s₁ B hml hv
  obtain ⟨rfl, hP, hK⟩ := hv
  have hx := B.exec
  have hb := B.bytes
  have hr := B.returns
  have hts := atoms_spec (ws := wsX9_complain) B.pre
  have hown : s.vm.findClass RX9 = some m.cls := findClass_of_methodNamed B.named
  have hlocks := B.notSynchronized
  have hin : ∀ w ∈ wsX90, w ∈ wsX9_complain := fun w h => List.mem_cons_of_mem _ (List.mem_append_right _ h)
  have l_thrown := (hts (.fieldLink RX9 93 "TenderHallModel" "thrown" "I") (List.mem_of_getElem? (i := 2) rfl))
  have l_awards := (hts (.fieldLink RX9 157 "TenderHallModel" "awards" "I") (List.mem_of_getElem? (i := 1) rfl))
  have l_complaints := (hts (.fieldLink RX9 148 "TenderHallModel" "complaints" "I") (List.mem_of_getElem? (i := 3) rfl))
  have l_about := (hts (.fieldLink RX9 62 "TenderHallModel" "about" "[I") (List.mem_of_getElem? (i := 4) rfl))
  have l_by := (hts (.fieldLink RX9 65 "TenderHallModel" "by" "[I") (List.mem_of_getElem? (i := 5) rfl))
  have l_ground := (hts (.fieldLink RX9 68 "TenderHallModel" "ground" "[I") (List.mem_of_getElem? (i := 6) rfl))
  have hS : va_S A s.heap s.heap [] := va_S.rf
  have hl := lv_entry ([.ref (ad 0), .int b, .int a, .int z]) (n := 4) (Nat.le_of_ble_eq_true rfl)
  rw [lg_entry_eq]
  generalize (lg_sl ([.ref (ad 0), .int b, .int a, .int z]) ++ List.replicate (4 - (lg_sl ([.ref (ad 0), .int b, .int a, .int z])).length) Slot.unset).toArray = ls at hl ⊢
  have hl : lv_has ls 4 [(0, .ref (ad 0)), (1, .int b), (2, .int a), (3, .int z)] := hl
  have h36 : M 3 0 ≤ 6 := hM 3 0
  have h160 : M 16 0 ≤ 60 := hM 16 0
  have h220 : M 22 0 ≤ 60 := hM 22 0
  have h290 : M 29 0 ≤ 60 := hM 29 0
  have h120 : M 1 0 ≤ 2000 := hM 1 0
  refine lv_aload_n hx hb dX9_complain_0 rfl (lv_at hl 0 rfl) ?_
  refine lv_iload_n hx hb dX9_complain_1 rfl (lv_at hl 1 rfl) ?_
  refine vp_callSi (W.runS (As := [.int b]) (rest := [.ref (ad 0)]) ⟨hx, hb, hml, hown, hts⟩ (c9_isBidder l  b) (va_cwS 1 hts gX9_complain_X9_isBidder rfl rfl rfl kd_X9_isBidder ⟨Nat.le_of_ble_eq_true rfl, Nat.le_of_ble_eq_true rfl⟩) ⟨fun _ _ _ _ q => q, fun U hU hW => ⟨rfl, trivial⟩⟩ rfl rfl hl.1 rfl (lv_room (Nat.le_of_ble_eq_true rfl)) dX9_complain_2 ⟨Nat.le_of_ble_eq_true rfl, Nat.le_of_ble_eq_true rfl⟩) (fun r_1 hr_1 => ?_)
  subst hr_1
  refine b_if_eq (tgt := 22) hx hb dX9_complain_5 (by decide)  (fun c_2 => ?_) (fun c_2 => ?_)
  · refine lv_iconst (v := nI 1) hx hb dX9_complain_22 (by decide) ?_
    refine lv_goto (tgt := 40) hx hb dX9_complain_23 (by decide) ?_
    refine m_putT hx hb hts hin hown hK hP hD hS l_thrown dX9_complain_40 (fun H locs hP hS => ?_)
    refine lv_aload_n hx hb dX9_complain_43 rfl (lv_at hl 0 rfl) ?_
    refine m_get (v := .int (nI 1)) hx hb hts hin hown hK hP 0 (by decide) l_thrown rfl dX9_complain_44 ?_
    refine n_if_ne (tgt := 78) hx hb dX9_complain_47 (by decide) (by decide) (fun _ => ?_) (fun c9 => absurd c9 (by decide))
    refine lv_aload_n hx hb dX9_complain_78 rfl (lv_at hl 0 rfl) ?_
    refine m_get (v := .int (nI 1)) hx hb hts hin hown hK hP 0 (by decide) l_thrown rfl dX9_complain_79 ?_
    refine n_if_le (tgt := 87) hx hb dX9_complain_82 (by decide) (by decide) (fun c9 => absurd c9 (by decide)) (fun _ => ?_)
    refine lv_iconst (v := nI 0) hx hb dX9_complain_85 (by decide) ?_
    have eM_3 : g_complain M b a z = M := by simp [g_complain, k_complain, c_2]
    have eT_4 : k_complain M b a z = 1 := by first | (simp [k_complain, c_2]; done) | (simp [k_complain, c_2]; omega)
    exact W.iret (v := nI 0) hx hb hr (fun U9 ht hW => ⟨⟨_, (), rfl, (show nI 0 = if k_complain M b a z = 0 then nI (M 22 0) else nI 0 from by first | (simp [k_complain, c_2]; done) | (simp [k_complain, c_2]; omega)), by show va_P D vwCl _ U9.heap; rw [ht, eM_3, eT_4]; exact hP⟩, hS.F ht⟩) hS.2.2 dX9_complain_86
  · obtain ⟨b1, hb1, rfl⟩ := isIx_of (by decide) c_2
    have kb19 : (nI b1).toNatClampNeg = b1 := nI_clamp (by omega)
    refine lv_iload_n hx hb dX9_complain_8 rfl (lv_at hl 2 rfl) ?_
    refine lv_iconst (v := nI 0) hx hb dX9_complain_9 (by decide) ?_
    refine lv_aload_n hx hb dX9_complain_10 rfl (lv_at hl 0 rfl) ?_
    refine m_get (v := .int (nI (M 16 0))) hx hb hts hin hown hK hP 16 (by decide) l_awards rfl dX9_complain_11 ?_
    refine lv_iconst (v := nI 1) hx hb dX9_complain_14 (by decide) ?_
    refine lv_isub hx hb dX9_complain_15 ?_
    refine vp_callSi (W.runS (As := [.int a, .int (nI 0), .int ((nI (M 16 0)) - (nI 1))]) (rest := [.ref (ad 0)]) ⟨hx, hb, hml, hown, hts⟩ (c9_in l  a (nI 0) ((nI (M 16 0)) - (nI 1))) (va_cwS 3 hts gX9_complain_X9_in rfl rfl rfl kd_X9_in ⟨Nat.le_of_ble_eq_true rfl, Nat.le_of_ble_eq_true rfl⟩) ⟨fun _ _ _ _ q => q, fun U hU hW => ⟨rfl, trivial⟩⟩ rfl rfl hl.1 rfl (lv_room (Nat.le_of_ble_eq_true rfl)) dX9_complain_16 ⟨Nat.le_of_ble_eq_true rfl, Nat.le_of_ble_eq_true rfl⟩) (fun r_5 hr_5 => ?_)
    subst hr_5
    refine b_if_ne (tgt := 26) hx hb dX9_complain_19 (by decide)  (fun c_6 => ?_) (fun c_6 => ?_)
    · have cc_7 : isIx a (M 16 0) = true := c_6
      obtain ⟨a1, ha1, rfl⟩ := isIx_of (by omega) cc_7
      have ka19 : (nI a1).toNatClampNeg = a1 := nI_clamp (by omega)
      refine lv_iload_n hx hb dX9_complain_26 rfl (lv_at hl 3 rfl) ?_
      refine lv_iconst (v := nI 0) hx hb dX9_complain_27 (by decide) ?_
      refine lv_iconst (v := nI 2) hx hb dX9_complain_28 (by decide) ?_
      refine vp_callSi (W.runS (As := [.int z, .int (nI 0), .int (nI 2)]) (rest := [.ref (ad 0)]) ⟨hx, hb, hml, hown, hts⟩ (c9_in l  z (nI 0) (nI 2)) (va_cwS 3 hts gX9_complain_X9_in rfl rfl rfl kd_X9_in ⟨Nat.le_of_ble_eq_true rfl, Nat.le_of_ble_eq_true rfl⟩) ⟨fun _ _ _ _ q => q, fun U hU hW => ⟨rfl, trivial⟩⟩ rfl rfl hl.1 rfl (lv_room (Nat.le_of_ble_eq_true rfl)) dX9_complain_29 ⟨Nat.le_of_ble_eq_true rfl, Nat.le_of_ble_eq_true rfl⟩) (fun r_8 hr_8 => ?_)
      subst hr_8
      refine b_if_ne (tgt := 39) hx hb dX9_complain_32 (by decide)  (fun c_9 => ?_) (fun c_9 => ?_)
      · obtain ⟨z1, hz1, hz19, rfl⟩ := i_in_of (a := 0) (b := 2) (by omega) c_9
        have kz19 : (nI z1).toNatClampNeg = z1 := nI_clamp (by omega)
        refine lv_iconst (v := nI 0) hx hb dX9_complain_39 (by decide) ?_
        refine m_putT hx hb hts hin hown hK hP hD hS l_thrown dX9_complain_40 (fun H locs hP hS => ?_)
        refine lv_aload_n hx hb dX9_complain_43 rfl (lv_at hl 0 rfl) ?_
        refine m_get (v := .int (nI 0)) hx hb hts hin hown hK hP 0 (by decide) l_thrown rfl dX9_complain_44 ?_
        refine n_if_ne (tgt := 78) hx hb dX9_complain_47 (by decide) (by decide) (fun c9 => absurd c9 (by decide)) (fun _ => ?_)
        refine lv_aload_n hx hb dX9_complain_50 rfl (lv_at hl 0 rfl) ?_
        refine lv_aload_n hx hb dX9_complain_51 rfl (lv_at hl 0 rfl) ?_
        refine lv_iload_n hx hb dX9_complain_52 rfl (lv_at hl 1 rfl) ?_
        refine lv_iload_n hx hb dX9_complain_53 rfl (lv_at hl 2 rfl) ?_
        refine lv_iload_n hx hb dX9_complain_54 rfl (lv_at hl 3 rfl) ?_
        refine vp_callSi (W.runV (As := [.int (nI b1), .int (nI a1), .int (nI z1)]) (rest := [.ref (ad 0)]) ⟨hx, hb, hml, hown, hts⟩ (c9_mayComplain l D ad cI cZ cC 0 M hM  b1 a1 z1 (by omega) (by omega) (by omega)) (cwV 3 hts gX9_complain_X9_mayComplain rfl rfl rfl kd_X9_mayComplain ⟨Nat.le_of_ble_eq_true rfl, Nat.le_of_ble_eq_true rfl⟩) ⟨mB_blind, m_recv hK hP, m_pre hK hP _⟩ rfl rfl hl.1 rfl (lv_room (Nat.le_of_ble_eq_true rfl)) dX9_complain_55 ⟨Nat.le_of_ble_eq_true rfl, Nat.le_of_ble_eq_true rfl⟩) (fun r_10 hr_10 => ?_)
        subst hr_10
        refine b_if_eq (tgt := 74) hx hb dX9_complain_58 (by decide)  (fun c_11 => ?_) (fun c_11 => ?_)
        · refine lv_iconst (v := nI 3) hx hb dX9_complain_74 (by decide) ?_
          refine m_putT hx hb hts hin hown hK hP hD hS l_thrown dX9_complain_75 (fun H locs hP hS => ?_)
          refine lv_aload_n hx hb dX9_complain_78 rfl (lv_at hl 0 rfl) ?_
          refine m_get (v := .int (nI 3)) hx hb hts hin hown hK hP 0 (by decide) l_thrown rfl dX9_complain_79 ?_
          refine n_if_le (tgt := 87) hx hb dX9_complain_82 (by decide) (by decide) (fun c9 => absurd c9 (by decide)) (fun _ => ?_)
          refine lv_iconst (v := nI 0) hx hb dX9_complain_85 (by decide) ?_
          have eM_12 : g_complain M (nI b1) (nI a1) (nI z1) = M := by simp [g_complain, k_complain, c_2, kb19, cc_7, ka19, c_9, kz19, c_11]
          have eT_13 : k_complain M (nI b1) (nI a1) (nI z1) = 3 := by first | (simp [k_complain, c_2, kb19, cc_7, ka19, c_9, kz19, c_11]; done) | (simp [k_complain, c_2, kb19, cc_7, ka19, c_9, kz19, c_11]; omega)
          exact W.iret (v := nI 0) hx hb hr (fun U9 ht hW => ⟨⟨_, (), rfl, (show nI 0 = if k_complain M (nI b1) (nI a1) (nI z1) = 0 then nI (M 22 0) else nI 0 from by first | (simp [k_complain, c_2, kb19, cc_7, ka19, c_9, kz19, c_11]; done) | (simp [k_complain, c_2, kb19, cc_7, ka19, c_9, kz19, c_11]; omega)), by show va_P D vwCl _ U9.heap; rw [ht, eM_12, eT_13]; exact hP⟩, hS.F ht⟩) hS.2.2 dX9_complain_86
        · refine lv_aload_n hx hb dX9_complain_61 rfl (lv_at hl 0 rfl) ?_
          refine m_get (v := .int (nI (M 22 0))) hx hb hts hin hown hK hP 22 (by decide) l_complaints rfl dX9_complain_62 ?_
          refine lv_bipush (v := nI 60) hx hb dX9_complain_65 (by decide) ?_
          refine n_icmp_ge (tgt := 74) hx hb dX9_complain_67 (by decide) (by have f1 : M 22 0 ≤ 60 := hM 22 0; omega) (by decide) (fun c_14 => ?_) (fun c_14 => ?_)
          · refine lv_iconst (v := nI 3) hx hb dX9_complain_74 (by decide) ?_
            refine m_putT hx hb hts hin hown hK hP hD hS l_thrown dX9_complain_75 (fun H locs hP hS => ?_)
            refine lv_aload_n hx hb dX9_complain_78 rfl (lv_at hl 0 rfl) ?_
            refine m_get (v := .int (nI 3)) hx hb hts hin hown hK hP 0 (by decide) l_thrown rfl dX9_complain_79 ?_
            refine n_if_le (tgt := 87) hx hb dX9_complain_82 (by decide) (by decide) (fun c9 => absurd c9 (by decide)) (fun _ => ?_)
            refine lv_iconst (v := nI 0) hx hb dX9_complain_85 (by decide) ?_
            have eM_15 : g_complain M (nI b1) (nI a1) (nI z1) = M := by simp [g_complain, k_complain, c_2, kb19, cc_7, ka19, c_9, kz19, c_11, c_14]
            have eT_16 : k_complain M (nI b1) (nI a1) (nI z1) = 3 := by first | (simp [k_complain, c_2, kb19, cc_7, ka19, c_9, kz19, c_11, c_14]; done) | (simp [k_complain, c_2, kb19, cc_7, ka19, c_9, kz19, c_11, c_14]; omega)
            exact W.iret (v := nI 0) hx hb hr (fun U9 ht hW => ⟨⟨_, (), rfl, (show nI 0 = if k_complain M (nI b1) (nI a1) (nI z1) = 0 then nI (M 22 0) else nI 0 from by first | (simp [k_complain, c_2, kb19, cc_7, ka19, c_9, kz19, c_11, c_14]; done) | (simp [k_complain, c_2, kb19, cc_7, ka19, c_9, kz19, c_11, c_14]; omega)), by show va_P D vwCl _ U9.heap; rw [ht, eM_15, eT_16]; exact hP⟩, hS.F ht⟩) hS.2.2 dX9_complain_86
          · refine lv_iconst (v := nI 0) hx hb dX9_complain_70 (by decide) ?_
            refine lv_goto (tgt := 75) hx hb dX9_complain_71 (by decide) ?_
            refine m_putT hx hb hts hin hown hK hP hD hS l_thrown dX9_complain_75 (fun H locs hP hS => ?_)
            refine lv_aload_n hx hb dX9_complain_78 rfl (lv_at hl 0 rfl) ?_
            refine m_get (v := .int (nI 0)) hx hb hts hin hown hK hP 0 (by decide) l_thrown rfl dX9_complain_79 ?_
            refine n_if_le (tgt := 87) hx hb dX9_complain_82 (by decide) (by decide) (fun _ => ?_) (fun c9 => absurd c9 (by decide))
            refine lv_aload_n hx hb dX9_complain_87 rfl (lv_at hl 0 rfl) ?_
            refine m_get hx hb hts hin hown hK hP 23 (by decide) l_about rfl dX9_complain_88 ?_
            refine lv_aload_n hx hb dX9_complain_91 rfl (lv_at hl 0 rfl) ?_
            refine m_get (v := .int (nI (M 22 0))) hx hb hts hin hown hK hP 22 (by decide) l_complaints rfl dX9_complain_92 ?_
            refine lv_iload_n hx hb dX9_complain_95 rfl (lv_at hl 2 rfl) ?_
            refine m_iast (f := 23) (v := a1) hx hb hK hP hD hS 18 rfl (by have f1 : M 22 0 ≤ 60 := hM 22 0; omega) (by decide) (mset_23 _ _ _ _ _ _ _ _) dX9_complain_96 (fun H locs hP hS => ?_)
            refine lv_aload_n hx hb dX9_complain_97 rfl (lv_at hl 0 rfl) ?_
            refine m_get hx hb hts hin hown hK hP 24 (by decide) l_by rfl dX9_complain_98 ?_
            refine lv_aload_n hx hb dX9_complain_101 rfl (lv_at hl 0 rfl) ?_
            refine m_get (v := .int (nI (M 22 0))) hx hb hts hin hown hK hP 22 (by decide) l_complaints rfl dX9_complain_102 ?_
            refine lv_iload_n hx hb dX9_complain_105 rfl (lv_at hl 1 rfl) ?_
            refine m_iast (f := 24) (v := b1) hx hb hK hP hD hS 19 rfl (by have f1 : M 22 0 ≤ 60 := hM 22 0; omega) (by decide) (mset_24 _ _ _ _ _ _ _ _) dX9_complain_106 (fun H locs hP hS => ?_)
            refine lv_aload_n hx hb dX9_complain_107 rfl (lv_at hl 0 rfl) ?_
            refine m_get hx hb hts hin hown hK hP 25 (by decide) l_ground rfl dX9_complain_108 ?_
            refine lv_aload_n hx hb dX9_complain_111 rfl (lv_at hl 0 rfl) ?_
            refine m_get (v := .int (nI (M 22 0))) hx hb hts hin hown hK hP 22 (by decide) l_complaints rfl dX9_complain_112 ?_
            refine lv_iload_n hx hb dX9_complain_115 rfl (lv_at hl 3 rfl) ?_
            refine m_iast (f := 25) (v := z1) hx hb hK hP hD hS 20 rfl (by have f1 : M 22 0 ≤ 60 := hM 22 0; omega) (by decide) (mset_25 _ _ _ _ _ _ _ _) dX9_complain_116 (fun H locs hP hS => ?_)
            refine lv_aload_n hx hb dX9_complain_117 rfl (lv_at hl 0 rfl) ?_
            refine lv_dup hx hb dX9_complain_118 rfl ?_
            refine m_get (v := .int (nI (M 22 0))) hx hb hts hin hown hK hP 22 (by decide) l_complaints rfl dX9_complain_119 ?_
            refine lv_iconst (v := nI 1) hx hb dX9_complain_122 (by decide) ?_
            refine n_iadd hx hb dX9_complain_123 (z := (M 22 0) + 1) rfl ?_
            refine m_put hx hb hts hin hown hK hP hD hS 22 (by decide) l_complaints rfl rfl (mset_22 _ _ _ _ _ _ _) dX9_complain_124 (fun H locs hP hS => ?_)
            refine lv_aload_n hx hb dX9_complain_127 rfl (lv_at hl 0 rfl) ?_
            refine m_get (v := .int (nI ((M 22 0) + 1))) hx hb hts hin hown hK hP 22 (by decide) l_complaints rfl dX9_complain_128 ?_
            refine lv_iconst (v := nI 1) hx hb dX9_complain_131 (by decide) ?_
            refine n_isub hx hb dX9_complain_132 (z := ((M 22 0) + 1) - 1) (by have f1 : M 22 0 ≤ 60 := hM 22 0; omega) rfl ?_
            have eM_17 : g_complain M (nI b1) (nI a1) (nI z1) = mu (mu (mu (mu M 23 (M 22 0) a1) 24 (M 22 0) b1) 25 (M 22 0) z1) 22 0 ((M 22 0) + 1) := by simp [g_complain, k_complain, c_2, kb19, cc_7, ka19, c_9, kz19, c_11, c_14]
            have eT_18 : k_complain M (nI b1) (nI a1) (nI z1) = 0 := by first | (simp [k_complain, c_2, kb19, cc_7, ka19, c_9, kz19, c_11, c_14]; done) | (simp [k_complain, c_2, kb19, cc_7, ka19, c_9, kz19, c_11, c_14]; omega)
            exact W.iret (v := nI (((M 22 0) + 1) - 1)) hx hb hr (fun U9 ht hW => ⟨⟨_, (), rfl, (show nI (((M 22 0) + 1) - 1) = if k_complain M (nI b1) (nI a1) (nI z1) = 0 then nI (M 22 0) else nI 0 from by first | (simp [k_complain, c_2, kb19, cc_7, ka19, c_9, kz19, c_11, c_14]; done) | (simp [k_complain, c_2, kb19, cc_7, ka19, c_9, kz19, c_11, c_14]; omega)), by show va_P D vwCl _ U9.heap; rw [ht, eM_17, eT_18]; exact hP⟩, hS.F ht⟩) hS.2.2 dX9_complain_133
      · refine lv_iconst (v := nI 2) hx hb dX9_complain_35 (by decide) ?_
        refine lv_goto (tgt := 40) hx hb dX9_complain_36 (by decide) ?_
        refine m_putT hx hb hts hin hown hK hP hD hS l_thrown dX9_complain_40 (fun H locs hP hS => ?_)
        refine lv_aload_n hx hb dX9_complain_43 rfl (lv_at hl 0 rfl) ?_
        refine m_get (v := .int (nI 2)) hx hb hts hin hown hK hP 0 (by decide) l_thrown rfl dX9_complain_44 ?_
        refine n_if_ne (tgt := 78) hx hb dX9_complain_47 (by decide) (by decide) (fun _ => ?_) (fun c9 => absurd c9 (by decide))
        refine lv_aload_n hx hb dX9_complain_78 rfl (lv_at hl 0 rfl) ?_
        refine m_get (v := .int (nI 2)) hx hb hts hin hown hK hP 0 (by decide) l_thrown rfl dX9_complain_79 ?_
        refine n_if_le (tgt := 87) hx hb dX9_complain_82 (by decide) (by decide) (fun c9 => absurd c9 (by decide)) (fun _ => ?_)
        refine lv_iconst (v := nI 0) hx hb dX9_complain_85 (by decide) ?_
        have eM_19 : g_complain M (nI b1) (nI a1) z = M := by simp [g_complain, k_complain, c_2, kb19, cc_7, ka19, c_9]
        have eT_20 : k_complain M (nI b1) (nI a1) z = 2 := by first | (simp [k_complain, c_2, kb19, cc_7, ka19, c_9]; done) | (simp [k_complain, c_2, kb19, cc_7, ka19, c_9]; omega)
        exact W.iret (v := nI 0) hx hb hr (fun U9 ht hW => ⟨⟨_, (), rfl, (show nI 0 = if k_complain M (nI b1) (nI a1) z = 0 then nI (M 22 0) else nI 0 from by first | (simp [k_complain, c_2, kb19, cc_7, ka19, c_9]; done) | (simp [k_complain, c_2, kb19, cc_7, ka19, c_9]; omega)), by show va_P D vwCl _ U9.heap; rw [ht, eM_19, eT_20]; exact hP⟩, hS.F ht⟩) hS.2.2 dX9_complain_86
    · have cc_21 : isIx a (M 16 0) = false := c_6
      refine lv_iconst (v := nI 1) hx hb dX9_complain_22 (by decide) ?_
      refine lv_goto (tgt := 40) hx hb dX9_complain_23 (by decide) ?_
      refine m_putT hx hb hts hin hown hK hP hD hS l_thrown dX9_complain_40 (fun H locs hP hS => ?_)
      refine lv_aload_n hx hb dX9_complain_43 rfl (lv_at hl 0 rfl) ?_
      refine m_get (v := .int (nI 1)) hx hb hts hin hown hK hP 0 (by decide) l_thrown rfl dX9_complain_44 ?_
      refine n_if_ne (tgt := 78) hx hb dX9_complain_47 (by decide) (by decide) (fun _ => ?_) (fun c9 => absurd c9 (by decide))
      refine lv_aload_n hx hb dX9_complain_78 rfl (lv_at hl 0 rfl) ?_
      refine m_get (v := .int (nI 1)) hx hb hts hin hown hK hP 0 (by decide) l_thrown rfl dX9_complain_79 ?_
      refine n_if_le (tgt := 87) hx hb dX9_complain_82 (by decide) (by decide) (fun c9 => absurd c9 (by decide)) (fun _ => ?_)
      refine lv_iconst (v := nI 0) hx hb dX9_complain_85 (by decide) ?_
      have eM_22 : g_complain M (nI b1) a z = M := by simp [g_complain, k_complain, c_2, kb19, cc_21]
      have eT_23 : k_complain M (nI b1) a z = 1 := by first | (simp [k_complain, c_2, kb19, cc_21]; done) | (simp [k_complain, c_2, kb19, cc_21]; omega)
      exact W.iret (v := nI 0) hx hb hr (fun U9 ht hW => ⟨⟨_, (), rfl, (show nI 0 = if k_complain M (nI b1) a z = 0 then nI (M 22 0) else nI 0 from by first | (simp [k_complain, c_2, kb19, cc_21]; done) | (simp [k_complain, c_2, kb19, cc_21]; omega)), by show va_P D vwCl _ U9.heap; rw [ht, eM_22, eT_23]; exact hP⟩, hS.F ht⟩) hS.2.2 dX9_complain_86
set_option maxHeartbeats 4000000 in
set_option maxRecDepth 100000 in
theorem c9_upholds (l : Launch) (D : va_G) (ad : Nat → Nat) (cI cZ cC : ClassId) (th : Nat) (M : MS) (hM : MI M) {A : Nat → Prop} (hD : mDis A ad) (i : Nat) (q : Nat) (hi : i < 60) (hq : q ≤ 100) (h16 : M 16 0 < 60) : Met l yX9_upholds wsX9_upholds ({ frames := 6, cells := 0, slots := 0, locals := 140 }) (va_Pc [.ref (ad 0), .int (nI i), .int (nI q)] (mB D ad cI cZ cC th M)) (va_Qi (fun (r : Int32) (_ : Unit) => r = m_upr M i q) (fun _ U9 => va_P D vwCl (mws ad cI cZ cC th (m_up M i q)) U9.heap) A) 0 0 A := by
  refine Met.ofW (cc := cX9_upholds) (maxL := 6) (ret := (some .int)) (by decide) rfl ?_
  intro p e s m args below meth c s₁ B hml hv
  obtain ⟨rfl, hP, hK⟩ := hv
  have hx := B.exec
  have hb := B.bytes
  have hr := B.returns
  have hts := atoms_spec (ws := wsX9_upholds) B.pre
  have hown : s.vm.findClass RX9 = some m.cls := findClass_of_methodNamed B.named
  have hlocks := B.notSynchronized
  have hin : ∀ w ∈ wsX90, w ∈ wsX9_upholds := fun w h => List.mem_cons_of_mem _ (List.mem_append_right _ h)
  have l_about := (hts (.fieldLink RX9 62 "TenderHallModel" "about" "[I") (List.mem_of_getElem? (i := 1) rfl))
  have l_lotOf := (hts (.fieldLink RX9 47 "TenderHallModel" "lotOf" "[I") (List.mem_of_getElem? (i := 2) rfl))
  have l_won := (hts (.fieldLink RX9 50 "TenderHallModel" "won" "[I") (List.mem_of_getElem? (i := 3) rfl))
  have l_ground := (hts (.fieldLink RX9 68 "TenderHallModel" "ground" "[I") (List.mem_of_getElem? (i := 4) rfl))
  have l_lacks := (hts (.fieldLink RX9 40 "TenderHallModel" "lacks" "[Z") (List.mem_of_getElem? (i := 7) rfl))
  have l_by := (hts (.fieldLink RX9 65 "TenderHallModel" "by" "[I") (List.mem_of_getElem? (i := 8) rfl))
  have l_state := (hts (.fieldLink RX9 71 "TenderHallModel" "state" "[I") (List.mem_of_getElem? (i := 9) rfl))
  have l_isVoid := (hts (.fieldLink RX9 56 "TenderHallModel" "isVoid" "[Z") (List.mem_of_getElem? (i := 10) rfl))
  have l_complaints := (hts (.fieldLink RX9 148 "TenderHallModel" "complaints" "I") (List.mem_of_getElem? (i := 11) rfl))
  have l_quality := (hts (.fieldLink RX9 34 "TenderHallModel" "quality" "[I") (List.mem_of_getElem? (i := 6) rfl))
  have l_isOut := (hts (.fieldLink RX9 44 "TenderHallModel" "isOut" "[Z") (List.mem_of_getElem? (i := 5) rfl))
  have hS : va_S A s.heap s.heap [] := va_S.rf
  have hl := lv_entry ([.ref (ad 0), .int (nI i), .int (nI q)]) (n := 6) (Nat.le_of_ble_eq_true rfl)
  rw [lg_entry_eq]
  generalize (lg_sl ([.ref (ad 0), .int (nI i), .int (nI q)]) ++ List.replicate (6 - (lg_sl ([.ref (ad 0), .int (nI i), .int (nI q)])).length) Slot.unset).toArray = ls at hl ⊢
  have hl : lv_has ls 6 [(0, .ref (ad 0)), (1, .int (nI i)), (2, .int (nI q))] := hl
  have h36 : M 3 0 ≤ 6 := hM 3 0
  have h160 : M 16 0 ≤ 60 := hM 16 0
  have h220 : M 22 0 ≤ 60 := hM 22 0
  have h290 : M 29 0 ≤ 60 := hM 29 0
  have h120 : M 1 0 ≤ 2000 := hM 1 0
  refine lv_aload_n hx hb dX9_upholds_0 rfl (lv_at hl 0 rfl) ?_
  refine m_get hx hb hts hin hown hK hP 23 (by decide) l_about rfl dX9_upholds_1 ?_
  refine lv_iload_n hx hb dX9_upholds_4 rfl (lv_at hl 1 rfl) ?_
  refine m_iald (f := 23) hx hb hK hP 18 rfl (by omega) (by decide) dX9_upholds_5 ?_
  refine lv_istore_n (lv' := [(3, .int (nI (M 23 i))), (0, .ref (ad 0)), (1, .int (nI i)), (2, .int (nI q))]) hx hb dX9_upholds_6 rfl hl (by decide) rfl (fun ls hl => ?_)
  refine lv_bipush (v := nI 8) hx hb dX9_upholds_7 (by decide) ?_
  refine lv_aload_n hx hb dX9_upholds_9 rfl (lv_at hl 1 rfl) ?_
  refine m_get hx hb hts hin hown hK hP 17 (by decide) l_lotOf rfl dX9_upholds_10 ?_
  refine lv_iload_n hx hb dX9_upholds_13 rfl (lv_at hl 0 rfl) ?_
  refine m_iald (f := 17) hx hb hK hP 13 rfl (by have f1 : M 23 i ≤ 59 := hM 23 i; omega) (by decide) dX9_upholds_14 ?_
  refine n_imul hx hb dX9_upholds_15 (z := 8 * (M 17 (M 23 i))) rfl ?_
  refine lv_aload_n hx hb dX9_upholds_16 rfl (lv_at hl 1 rfl) ?_
  refine m_get hx hb hts hin hown hK hP 18 (by decide) l_won rfl dX9_upholds_17 ?_
  refine lv_iload_n hx hb dX9_upholds_20 rfl (lv_at hl 0 rfl) ?_
  refine m_iald (f := 18) hx hb hK hP 14 rfl (by have f1 : M 23 i ≤ 59 := hM 23 i; omega) (by decide) dX9_upholds_21 ?_
  refine n_iadd hx hb dX9_upholds_22 (z := (8 * (M 17 (M 23 i))) + (M 18 (M 23 i))) rfl ?_
  refine lv_istore (lv' := [(4, .int (nI ((8 * (M 17 (M 23 i))) + (M 18 (M 23 i))))), (3, .int (nI (M 23 i))), (0, .ref (ad 0)), (1, .int (nI i)), (2, .int (nI q))]) hx hb dX9_upholds_23 hl (by decide) rfl (fun ls hl => ?_)
  refine lv_aload_n hx hb dX9_upholds_25 rfl (lv_at hl 2 rfl) ?_
  refine m_get hx hb hts hin hown hK hP 25 (by decide) l_ground rfl dX9_upholds_26 ?_
  refine lv_iload_n hx hb dX9_upholds_29 rfl (lv_at hl 3 rfl) ?_
  refine m_iald (f := 25) hx hb hK hP 20 rfl (by omega) (by decide) dX9_upholds_30 ?_
  refine n_if_ne (tgt := 45) hx hb dX9_upholds_31 (by decide) (by have f1 : M 25 i ≤ 2 := hM 25 i; omega) (fun c_1 => ?_) (fun c_1 => ?_)
  · refine lv_aload_n hx hb dX9_upholds_45 rfl (lv_at hl 2 rfl) ?_
    refine m_get hx hb hts hin hown hK hP 25 (by decide) l_ground rfl dX9_upholds_46 ?_
    refine lv_iload_n hx hb dX9_upholds_49 rfl (lv_at hl 3 rfl) ?_
    refine m_iald (f := 25) hx hb hK hP 20 rfl (by omega) (by decide) dX9_upholds_50 ?_
    refine lv_iconst (v := nI 1) hx hb dX9_upholds_51 (by decide) ?_
    refine n_icmp_ne (tgt := 66) hx hb dX9_upholds_52 (by decide) (by have f1 : M 25 i ≤ 2 := hM 25 i; omega) (by decide) (fun c_2 => ?_) (fun c_2 => ?_)
    · refine lv_aload_n hx hb dX9_upholds_66 rfl (lv_at hl 2 rfl) ?_
      refine m_get hx hb hts hin hown hK hP 13 (by decide) l_lacks rfl dX9_upholds_67 ?_
      refine lv_bipush (v := nI 8) hx hb dX9_upholds_70 (by decide) ?_
      refine lv_aload_n hx hb dX9_upholds_72 rfl (lv_at hl 2 rfl) ?_
      refine m_get hx hb hts hin hown hK hP 17 (by decide) l_lotOf rfl dX9_upholds_73 ?_
      refine lv_iload_n hx hb dX9_upholds_76 rfl (lv_at hl 1 rfl) ?_
      refine m_iald (f := 17) hx hb hK hP 13 rfl (by have f1 : M 23 i ≤ 59 := hM 23 i; omega) (by decide) dX9_upholds_77 ?_
      refine n_imul hx hb dX9_upholds_78 (z := 8 * (M 17 (M 23 i))) rfl ?_
      refine lv_aload_n hx hb dX9_upholds_79 rfl (lv_at hl 2 rfl) ?_
      refine m_get hx hb hts hin hown hK hP 24 (by decide) l_by rfl dX9_upholds_80 ?_
      refine lv_iload_n hx hb dX9_upholds_83 rfl (lv_at hl 3 rfl) ?_
      refine m_iald (f := 24) hx hb hK hP 19 rfl (by omega) (by decide) dX9_upholds_84 ?_
      refine n_iadd hx hb dX9_upholds_85 (z := (8 * (M 17 (M 23 i))) + (M 24 i)) rfl ?_
      refine lv_iconst (v := nI 0) hx hb dX9_upholds_86 (by decide) ?_
      refine m_zast (f := 13) (v := 0) hx hb hK hP hD hS 11 rfl (by have f1 : M 23 i ≤ 59 := hM 23 i; have f2 : M 17 (M 23 i) ≤ 17 := hM 17 (M 23 i); have f3 : M 24 i ≤ 7 := hM 24 i; omega) (by decide) (by decide) (mset_13 _ _ _ _ _ _ _ _) dX9_upholds_87 (fun H locs hP hS => ?_)
      refine lv_aload_n hx hb dX9_upholds_88 rfl (lv_at hl 2 rfl) ?_
      refine m_get hx hb hts hin hown hK hP 26 (by decide) l_state rfl dX9_upholds_89 ?_
      refine lv_iload_n hx hb dX9_upholds_92 rfl (lv_at hl 3 rfl) ?_
      refine lv_iconst (v := nI 1) hx hb dX9_upholds_93 (by decide) ?_
      refine m_iast (f := 26) (v := 1) hx hb hK hP hD hS 21 rfl (by omega) (by decide) (mset_26 _ _ _ _ _ _ _ _) dX9_upholds_94 (fun H locs hP hS => ?_)
      refine lv_aload_n hx hb dX9_upholds_95 rfl (lv_at hl 2 rfl) ?_
      refine m_get hx hb hts hin hown hK hP 20 (by decide) l_isVoid rfl dX9_upholds_96 ?_
      refine lv_iload_n hx hb dX9_upholds_99 rfl (lv_at hl 1 rfl) ?_
      refine lv_iconst (v := nI 1) hx hb dX9_upholds_100 (by decide) ?_
      refine m_zast (f := 20) (v := 1) hx hb hK hP hD hS 16 rfl (by have f1 : M 23 i ≤ 59 := hM 23 i; omega) (by decide) (by decide) (mset_20 _ _ _ _ _ _ _ _) dX9_upholds_101 (fun H locs hP hS => ?_)
      refine lv_iconst (v := nI 0) hx hb dX9_upholds_102 (by decide) ?_
      refine lv_istore (lv' := [(5, .int (nI 0)), (4, .int (nI ((8 * (M 17 (M 23 i))) + (M 18 (M 23 i))))), (3, .int (nI (M 23 i))), (0, .ref (ad 0)), (1, .int (nI i)), (2, .int (nI q))]) hx hb dX9_upholds_103 hl (by decide) rfl (fun ls hl => ?_)
      have eI_5 : m_mof (m_up1 M i q) (M 23 i) 0 = mu (mu (mu M 13 ((8 * (M 17 (M 23 i))) + (M 24 i)) 0) 26 i 1) 20 (M 23 i) 1 := by simp [m_mof, m_up1, m_up0, c_1, c_2]
      refine m_loop (D := D) (ad := ad) (cI := cI) (cZ := cZ) (cC := cC) (th := th) (A := A) (e := M 22 0) (nL := 6) (fun k => [(0, .ref (ad 0)), (1, .int (nI i)), (2, .int (nI q)), (3, .int (nI (M 23 i))), (4, .int (nI (8 * M 17 (M 23 i) + M 18 (M 23 i)))), (5, .int (nI k))]) (fun k => m_mof (m_up1 M i q) (M 23 i) k) (fun k hb_4 ih_3 H locs ls hP hS hl => ?_) 0 (by omega) _ _ ls (by rw [eI_5]; exact hP) hS (lv_sub hl [3, 4, 5, 2, 1, 0] rfl)
      have e22 : m_mof (m_up1 M i q) (M 23 i) k 22 0 = M 22 0 := by rw [m_mof_nf _ _ (by decide), m_up1_nf _ _ _ (by decide)]
      have h22 : M 22 0 ≤ 60 := hM 22 0
      refine lv_iload hx hb dX9_upholds_105 (lv_at hl 5 rfl) ?_
      refine lv_aload_n hx hb dX9_upholds_107 rfl (lv_at hl 0 rfl) ?_
      refine m_get (v := .int (nI ((m_mof (m_up1 M i q) (M 23 i) k) 22 0))) hx hb hts hin hown hK hP 22 (by decide) l_complaints rfl dX9_upholds_108 ?_
      refine n_icmp_ge (tgt := 159) hx hb dX9_upholds_111 (by decide) (by omega) (by have f1 : (m_mof (m_up1 M i q) (M 23 i) k) 22 0 ≤ 60 := (MI_mof (MI_up1 hM i hq) (M 23 i) k) 22 0; omega) (fun c_6 => ?_) (fun c_6 => ?_)
      · obtain rfl : M 22 0 = k := by omega
        refine lv_aload_n hx hb dX9_upholds_159 rfl (lv_at hl 0 rfl) ?_
        refine lv_aload_n hx hb dX9_upholds_160 rfl (lv_at hl 0 rfl) ?_
        refine m_get hx hb hts hin hown hK hP 17 (by decide) l_lotOf rfl dX9_upholds_161 ?_
        refine lv_iload_n hx hb dX9_upholds_164 rfl (lv_at hl 3 rfl) ?_
        refine m_iald (f := 17) hx hb hK hP 13 rfl (by have f1 : M 23 i ≤ 59 := hM 23 i; omega) (by decide) dX9_upholds_165 ?_
        rw [show (m_mof (m_up1 M i q) (M 23 i) (M 22 0)) 17 (M 23 i) = M 17 (M 23 i) from by rw [m_mof_nf _ _ (by decide), m_up1_nf _ _ _ (by decide)]]
        refine va_calli (va_runV (As := [.int (nI (M 17 (M 23 i)))]) (rest := []) ⟨hx, hb, hml, hown, hts⟩ (c9_gives l D ad cI cZ cC th (m_mof (m_up1 M i q) (M 23 i) (M 22 0)) (MI_mof (MI_up1 hM i hq) (M 23 i) (M 22 0)) hD  (M 17 (M 23 i)) (by have f1 : M 17 (M 23 i) ≤ 17 := hM 17 (M 23 i); omega) (by show m_mof (m_up1 M i q) (M 23 i) (M 22 0) 16 0 < 60; rw [m_mof_nf _ _ (by decide), m_up1_nf _ _ _ (by decide)]; exact h16)) (cwV 1 hts gX9_upholds_X9_gives rfl rfl rfl kd_X9_gives ⟨Nat.le_of_ble_eq_true rfl, Nat.le_of_ble_eq_true rfl⟩) ⟨mB_blind, m_recv hK hP, m_pre hK hP _⟩ rfl rfl hl.1 rfl (lv_room (Nat.le_of_ble_eq_true rfl)) dX9_upholds_166 ⟨Nat.le_of_ble_eq_true rfl, Nat.le_of_ble_eq_true rfl⟩) hS (fun _ _ h => h) (fun _ h => h) (fun r_7 u U8 H1 locs1 ht hvm hr_7 hP1 hz1 hk1 hS1 => ?_)
        rw [ht] at hP1
        clear hS
        have hS := hS1
        have hP : va_P D vwCl (mws ad cI cZ cC th (m_gv (m_mof (m_up1 M i q) (M 23 i) (M 22 0)) (M 17 (M 23 i)))) H1 := hP1
        generalize H1 = H at hP hS ⊢
        have hM_8 : MI (m_gv (m_mof (m_up1 M i q) (M 23 i) (M 22 0)) (M 17 (M 23 i))) := (MI_gv (MI_mof (MI_up1 hM i hq) (M 23 i) (M 22 0)) (by have f1 : M 17 (M 23 i) ≤ 17 := hM 17 (M 23 i); omega) (by show m_mof (m_up1 M i q) (M 23 i) (M 22 0) 16 0 < 60; rw [m_mof_nf _ _ (by decide), m_up1_nf _ _ _ (by decide)]; exact h16))
        subst hr_7
        have eM_9 : m_up M i q = m_gv (m_mof (m_up1 M i q) (M 23 i) (M 22 0)) (M 17 (M 23 i)) := by rfl
        exact W.iret (v := m_gvr (m_mof (m_up1 M i q) (M 23 i) (M 22 0)) (M 17 (M 23 i))) hx hb hr (fun U9 ht hW => ⟨⟨_, (), rfl, (show m_gvr (m_mof (m_up1 M i q) (M 23 i) (M 22 0)) (M 17 (M 23 i)) = m_upr M i q from by rfl), by show va_P D vwCl _ U9.heap; rw [ht, eM_9]; exact hP⟩, hS.F ht⟩) hS.2.2 dX9_upholds_169
      · refine lv_aload_n hx hb dX9_upholds_114 rfl (lv_at hl 0 rfl) ?_
        refine m_get hx hb hts hin hown hK hP 26 (by decide) l_state rfl dX9_upholds_115 ?_
        refine lv_iload hx hb dX9_upholds_118 (lv_at hl 5 rfl) ?_
        refine lv_aload_n hx hb dX9_upholds_120 rfl (lv_at hl 0 rfl) ?_
        refine m_get hx hb hts hin hown hK hP 23 (by decide) l_about rfl dX9_upholds_121 ?_
        refine lv_iload hx hb dX9_upholds_124 (lv_at hl 5 rfl) ?_
        refine m_iald (f := 23) hx hb hK hP 18 rfl (by omega) (by decide) dX9_upholds_126 ?_
        refine lv_iload_n hx hb dX9_upholds_127 rfl (lv_at hl 3 rfl) ?_
        refine n_icmp_ne (tgt := 145) hx hb dX9_upholds_128 (by decide) (by have f1 : (m_mof (m_up1 M i q) (M 23 i) k) 23 k ≤ 59 := (MI_mof (MI_up1 hM i hq) (M 23 i) k) 23 k; omega) (by have f1 : M 23 i ≤ 59 := hM 23 i; omega) (fun c_10 => ?_) (fun c_10 => ?_)
        · refine lv_aload_n hx hb dX9_upholds_145 rfl (lv_at hl 0 rfl) ?_
          refine m_get hx hb hts hin hown hK hP 26 (by decide) l_state rfl dX9_upholds_146 ?_
          refine lv_iload hx hb dX9_upholds_149 (lv_at hl 5 rfl) ?_
          refine m_iald (f := 26) hx hb hK hP 21 rfl (by omega) (by decide) dX9_upholds_151 ?_
          refine m_iast (f := 26) (v := (m_mof (m_up1 M i q) (M 23 i) k) 26 k) hx hb hK hP hD hS 21 rfl (by omega) (by decide) (mset_26 _ _ _ _ _ _ _ _) dX9_upholds_152 (fun H locs hP hS => ?_)
          refine n_iinc (k := 5) (lv' := [(5, .int (nI (k + 1))), (0, .ref (ad 0)), (1, .int (nI i)), (2, .int (nI q)), (3, .int (nI (M 23 i))), (4, .int (nI (8 * M 17 (M 23 i) + M 18 (M 23 i))))]) hx hb dX9_upholds_153 hl rfl (by decide) rfl (fun ls hl => ?_)
          refine lv_goto (tgt := 105) hx hb dX9_upholds_156 (by decide) ?_
          have eM_11 : m_mof (m_up1 M i q) (M 23 i) (k + 1) = mu (m_mof (m_up1 M i q) (M 23 i) k) 26 k ((m_mof (m_up1 M i q) (M 23 i) k) 26 k) := by simp [m_mof, c_1, c_2, c_6, c_10]
          refine ih_3 (by omega) _ _ ls (by rw [eM_11]; exact hP) hS ?_
          show lv_has ls 6 [(0, .ref (ad 0)), (1, .int (nI i)), (2, .int (nI q)), (3, .int (nI (M 23 i))), (4, .int (nI (8 * M 17 (M 23 i) + M 18 (M 23 i)))), (5, .int (nI (k + 1)))]
          exact lv_sub hl [1, 2, 3, 4, 5, 0] rfl
        · refine lv_aload_n hx hb dX9_upholds_131 rfl (lv_at hl 0 rfl) ?_
          refine m_get hx hb hts hin hown hK hP 26 (by decide) l_state rfl dX9_upholds_132 ?_
          refine lv_iload hx hb dX9_upholds_135 (lv_at hl 5 rfl) ?_
          refine m_iald (f := 26) hx hb hK hP 21 rfl (by omega) (by decide) dX9_upholds_137 ?_
          refine n_if_ne (tgt := 145) hx hb dX9_upholds_138 (by decide) (by have f1 : (m_mof (m_up1 M i q) (M 23 i) k) 26 k ≤ 3 := (MI_mof (MI_up1 hM i hq) (M 23 i) k) 26 k; omega) (fun c_12 => ?_) (fun c_12 => ?_)
          · refine lv_aload_n hx hb dX9_upholds_145 rfl (lv_at hl 0 rfl) ?_
            refine m_get hx hb hts hin hown hK hP 26 (by decide) l_state rfl dX9_upholds_146 ?_
            refine lv_iload hx hb dX9_upholds_149 (lv_at hl 5 rfl) ?_
            refine m_iald (f := 26) hx hb hK hP 21 rfl (by omega) (by decide) dX9_upholds_151 ?_
            refine m_iast (f := 26) (v := (m_mof (m_up1 M i q) (M 23 i) k) 26 k) hx hb hK hP hD hS 21 rfl (by omega) (by decide) (mset_26 _ _ _ _ _ _ _ _) dX9_upholds_152 (fun H locs hP hS => ?_)
            refine n_iinc (k := 5) (lv' := [(5, .int (nI (k + 1))), (0, .ref (ad 0)), (1, .int (nI i)), (2, .int (nI q)), (3, .int (nI (M 23 i))), (4, .int (nI (8 * M 17 (M 23 i) + M 18 (M 23 i))))]) hx hb dX9_upholds_153 hl rfl (by decide) rfl (fun ls hl => ?_)
            refine lv_goto (tgt := 105) hx hb dX9_upholds_156 (by decide) ?_
            have eM_13 : m_mof (m_up1 M i q) (M 23 i) (k + 1) = mu (m_mof (m_up1 M i q) (M 23 i) k) 26 k ((m_mof (m_up1 M i q) (M 23 i) k) 26 k) := by simp [m_mof, c_1, c_2, c_6, c_10, c_12]
            refine ih_3 (by omega) _ _ ls (by rw [eM_13]; exact hP) hS ?_
            show lv_has ls 6 [(0, .ref (ad 0)), (1, .int (nI i)), (2, .int (nI q)), (3, .int (nI (M 23 i))), (4, .int (nI (8 * M 17 (M 23 i) + M 18 (M 23 i)))), (5, .int (nI (k + 1)))]
            exact lv_sub hl [1, 2, 3, 4, 5, 0] rfl
          · refine lv_iconst (v := nI 3) hx hb dX9_upholds_141 (by decide) ?_
            refine lv_goto (tgt := 152) hx hb dX9_upholds_142 (by decide) ?_
            refine m_iast (f := 26) (v := 3) hx hb hK hP hD hS 21 rfl (by omega) (by decide) (mset_26 _ _ _ _ _ _ _ _) dX9_upholds_152 (fun H locs hP hS => ?_)
            refine n_iinc (k := 5) (lv' := [(5, .int (nI (k + 1))), (0, .ref (ad 0)), (1, .int (nI i)), (2, .int (nI q)), (3, .int (nI (M 23 i))), (4, .int (nI (8 * M 17 (M 23 i) + M 18 (M 23 i))))]) hx hb dX9_upholds_153 hl rfl (by decide) rfl (fun ls hl => ?_)
            refine lv_goto (tgt := 105) hx hb dX9_upholds_156 (by decide) ?_
            have eM_14 : m_mof (m_up1 M i q) (M 23 i) (k + 1) = mu (m_mof (m_up1 M i q) (M 23 i) k) 26 k 3 := by simp [m_mof, c_1, c_2, c_6, c_10, c_12]
            refine ih_3 (by omega) _ _ ls (by rw [eM_14]; exact hP) hS ?_
            show lv_has ls 6 [(0, .ref (ad 0)), (1, .int (nI i)), (2, .int (nI q)), (3, .int (nI (M 23 i))), (4, .int (nI (8 * M 17 (M 23 i) + M 18 (M 23 i)))), (5, .int (nI (k + 1)))]
            exact lv_sub hl [1, 2, 3, 4, 5, 0] rfl
    · refine lv_aload_n hx hb dX9_upholds_55 rfl (lv_at hl 2 rfl) ?_
      refine m_get hx hb hts hin hown hK hP 11 (by decide) l_quality rfl dX9_upholds_56 ?_
      refine lv_iload hx hb dX9_upholds_59 (lv_at hl 0 rfl) ?_
      refine lv_iload_n hx hb dX9_upholds_61 rfl (lv_at hl 4 rfl) ?_
      refine m_iast (f := 11) (v := q) hx hb hK hP hD hS 9 rfl (by have f1 : M 23 i ≤ 59 := hM 23 i; have f2 : M 17 (M 23 i) ≤ 17 := hM 17 (M 23 i); have f3 : M 18 (M 23 i) ≤ 7 := hM 18 (M 23 i); omega) (by decide) (mset_11 _ _ _ _ _ _ _ _) dX9_upholds_62 (fun H locs hP hS => ?_)
      refine lv_goto (tgt := 88) hx hb dX9_upholds_63 (by decide) ?_
      refine lv_aload_n hx hb dX9_upholds_88 rfl (lv_at hl 2 rfl) ?_
      refine m_get hx hb hts hin hown hK hP 26 (by decide) l_state rfl dX9_upholds_89 ?_
      refine lv_iload_n hx hb dX9_upholds_92 rfl (lv_at hl 3 rfl) ?_
      refine lv_iconst (v := nI 1) hx hb dX9_upholds_93 (by decide) ?_
      refine m_iast (f := 26) (v := 1) hx hb hK hP hD hS 21 rfl (by omega) (by decide) (mset_26 _ _ _ _ _ _ _ _) dX9_upholds_94 (fun H locs hP hS => ?_)
      refine lv_aload_n hx hb dX9_upholds_95 rfl (lv_at hl 2 rfl) ?_
      refine m_get hx hb hts hin hown hK hP 20 (by decide) l_isVoid rfl dX9_upholds_96 ?_
      refine lv_iload_n hx hb dX9_upholds_99 rfl (lv_at hl 1 rfl) ?_
      refine lv_iconst (v := nI 1) hx hb dX9_upholds_100 (by decide) ?_
      refine m_zast (f := 20) (v := 1) hx hb hK hP hD hS 16 rfl (by have f1 : M 23 i ≤ 59 := hM 23 i; omega) (by decide) (by decide) (mset_20 _ _ _ _ _ _ _ _) dX9_upholds_101 (fun H locs hP hS => ?_)
      refine lv_iconst (v := nI 0) hx hb dX9_upholds_102 (by decide) ?_
      refine lv_istore (lv' := [(5, .int (nI 0)), (4, .int (nI ((8 * (M 17 (M 23 i))) + (M 18 (M 23 i))))), (3, .int (nI (M 23 i))), (0, .ref (ad 0)), (1, .int (nI i)), (2, .int (nI q))]) hx hb dX9_upholds_103 hl (by decide) rfl (fun ls hl => ?_)
      have eI_17 : m_mof (m_up1 M i q) (M 23 i) 0 = mu (mu (mu M 11 ((8 * (M 17 (M 23 i))) + (M 18 (M 23 i))) q) 26 i 1) 20 (M 23 i) 1 := by simp [m_mof, m_up1, m_up0, c_1, c_2]
      refine m_loop (D := D) (ad := ad) (cI := cI) (cZ := cZ) (cC := cC) (th := th) (A := A) (e := M 22 0) (nL := 6) (fun k => [(0, .ref (ad 0)), (1, .int (nI i)), (2, .int (nI q)), (3, .int (nI (M 23 i))), (4, .int (nI (8 * M 17 (M 23 i) + M 18 (M 23 i)))), (5, .int (nI k))]) (fun k => m_mof (m_up1 M i q) (M 23 i) k) (fun k hb_16 ih_15 H locs ls hP hS hl => ?_) 0 (by omega) _ _ ls (by rw [eI_17]; exact hP) hS (lv_sub hl [3, 4, 5, 2, 1, 0] rfl)
      have e22 : m_mof (m_up1 M i q) (M 23 i) k 22 0 = M 22 0 := by rw [m_mof_nf _ _ (by decide), m_up1_nf _ _ _ (by decide)]
      have h22 : M 22 0 ≤ 60 := hM 22 0
      refine lv_iload hx hb dX9_upholds_105 (lv_at hl 5 rfl) ?_
      refine lv_aload_n hx hb dX9_upholds_107 rfl (lv_at hl 0 rfl) ?_
      refine m_get (v := .int (nI ((m_mof (m_up1 M i q) (M 23 i) k) 22 0))) hx hb hts hin hown hK hP 22 (by decide) l_complaints rfl dX9_upholds_108 ?_
      refine n_icmp_ge (tgt := 159) hx hb dX9_upholds_111 (by decide) (by omega) (by have f1 : (m_mof (m_up1 M i q) (M 23 i) k) 22 0 ≤ 60 := (MI_mof (MI_up1 hM i hq) (M 23 i) k) 22 0; omega) (fun c_18 => ?_) (fun c_18 => ?_)
      · obtain rfl : M 22 0 = k := by omega
        refine lv_aload_n hx hb dX9_upholds_159 rfl (lv_at hl 0 rfl) ?_
        refine lv_aload_n hx hb dX9_upholds_160 rfl (lv_at hl 0 rfl) ?_
        refine m_get hx hb hts hin hown hK hP 17 (by decide) l_lotOf rfl dX9_upholds_161 ?_
        refine lv_iload_n hx hb dX9_upholds_164 rfl (lv_at hl 3 rfl) ?_
        refine m_iald (f := 17) hx hb hK hP 13 rfl (by have f1 : M 23 i ≤ 59 := hM 23 i; omega) (by decide) dX9_upholds_165 ?_
        rw [show (m_mof (m_up1 M i q) (M 23 i) (M 22 0)) 17 (M 23 i) = M 17 (M 23 i) from by rw [m_mof_nf _ _ (by decide), m_up1_nf _ _ _ (by decide)]]
        refine va_calli (va_runV (As := [.int (nI (M 17 (M 23 i)))]) (rest := []) ⟨hx, hb, hml, hown, hts⟩ (c9_gives l D ad cI cZ cC th (m_mof (m_up1 M i q) (M 23 i) (M 22 0)) (MI_mof (MI_up1 hM i hq) (M 23 i) (M 22 0)) hD  (M 17 (M 23 i)) (by have f1 : M 17 (M 23 i) ≤ 17 := hM 17 (M 23 i); omega) (by show m_mof (m_up1 M i q) (M 23 i) (M 22 0) 16 0 < 60; rw [m_mof_nf _ _ (by decide), m_up1_nf _ _ _ (by decide)]; exact h16)) (cwV 1 hts gX9_upholds_X9_gives rfl rfl rfl kd_X9_gives ⟨Nat.le_of_ble_eq_true rfl, Nat.le_of_ble_eq_true rfl⟩) ⟨mB_blind, m_recv hK hP, m_pre hK hP _⟩ rfl rfl hl.1 rfl (lv_room (Nat.le_of_ble_eq_true rfl)) dX9_upholds_166 ⟨Nat.le_of_ble_eq_true rfl, Nat.le_of_ble_eq_true rfl⟩) hS (fun _ _ h => h) (fun _ h => h) (fun r_19 u U8 H1 locs1 ht hvm hr_19 hP1 hz1 hk1 hS1 => ?_)
        rw [ht] at hP1
        clear hS
        have hS := hS1
        have hP : va_P D vwCl (mws ad cI cZ cC th (m_gv (m_mof (m_up1 M i q) (M 23 i) (M 22 0)) (M 17 (M 23 i)))) H1 := hP1
        generalize H1 = H at hP hS ⊢
        have hM_20 : MI (m_gv (m_mof (m_up1 M i q) (M 23 i) (M 22 0)) (M 17 (M 23 i))) := (MI_gv (MI_mof (MI_up1 hM i hq) (M 23 i) (M 22 0)) (by have f1 : M 17 (M 23 i) ≤ 17 := hM 17 (M 23 i); omega) (by show m_mof (m_up1 M i q) (M 23 i) (M 22 0) 16 0 < 60; rw [m_mof_nf _ _ (by decide), m_up1_nf _ _ _ (by decide)]; exact h16))
        subst hr_19
        have eM_21 : m_up M i q = m_gv (m_mof (m_up1 M i q) (M 23 i) (M 22 0)) (M 17 (M 23 i)) := by rfl
        exact W.iret (v := m_gvr (m_mof (m_up1 M i q) (M 23 i) (M 22 0)) (M 17 (M 23 i))) hx hb hr (fun U9 ht hW => ⟨⟨_, (), rfl, (show m_gvr (m_mof (m_up1 M i q) (M 23 i) (M 22 0)) (M 17 (M 23 i)) = m_upr M i q from by rfl), by show va_P D vwCl _ U9.heap; rw [ht, eM_21]; exact hP⟩, hS.F ht⟩) hS.2.2 dX9_upholds_169
      · refine lv_aload_n hx hb dX9_upholds_114 rfl (lv_at hl 0 rfl) ?_
        refine m_get hx hb hts hin hown hK hP 26 (by decide) l_state rfl dX9_upholds_115 ?_
        refine lv_iload hx hb dX9_upholds_118 (lv_at hl 5 rfl) ?_
        refine lv_aload_n hx hb dX9_upholds_120 rfl (lv_at hl 0 rfl) ?_
        refine m_get hx hb hts hin hown hK hP 23 (by decide) l_about rfl dX9_upholds_121 ?_
        refine lv_iload hx hb dX9_upholds_124 (lv_at hl 5 rfl) ?_
        refine m_iald (f := 23) hx hb hK hP 18 rfl (by omega) (by decide) dX9_upholds_126 ?_
        refine lv_iload_n hx hb dX9_upholds_127 rfl (lv_at hl 3 rfl) ?_
        refine n_icmp_ne (tgt := 145) hx hb dX9_upholds_128 (by decide) (by have f1 : (m_mof (m_up1 M i q) (M 23 i) k) 23 k ≤ 59 := (MI_mof (MI_up1 hM i hq) (M 23 i) k) 23 k; omega) (by have f1 : M 23 i ≤ 59 := hM 23 i; omega) (fun c_22 => ?_) (fun c_22 => ?_)
        · refine lv_aload_n hx hb dX9_upholds_145 rfl (lv_at hl 0 rfl) ?_
          refine m_get hx hb hts hin hown hK hP 26 (by decide) l_state rfl dX9_upholds_146 ?_
          refine lv_iload hx hb dX9_upholds_149 (lv_at hl 5 rfl) ?_
          refine m_iald (f := 26) hx hb hK hP 21 rfl (by omega) (by decide) dX9_upholds_151 ?_
          refine m_iast (f := 26) (v := (m_mof (m_up1 M i q) (M 23 i) k) 26 k) hx hb hK hP hD hS 21 rfl (by omega) (by decide) (mset_26 _ _ _ _ _ _ _ _) dX9_upholds_152 (fun H locs hP hS => ?_)
          refine n_iinc (k := 5) (lv' := [(5, .int (nI (k + 1))), (0, .ref (ad 0)), (1, .int (nI i)), (2, .int (nI q)), (3, .int (nI (M 23 i))), (4, .int (nI (8 * M 17 (M 23 i) + M 18 (M 23 i))))]) hx hb dX9_upholds_153 hl rfl (by decide) rfl (fun ls hl => ?_)
          refine lv_goto (tgt := 105) hx hb dX9_upholds_156 (by decide) ?_
          have eM_23 : m_mof (m_up1 M i q) (M 23 i) (k + 1) = mu (m_mof (m_up1 M i q) (M 23 i) k) 26 k ((m_mof (m_up1 M i q) (M 23 i) k) 26 k) := by simp [m_mof, c_1, c_2, c_18, c_22]
          refine ih_15 (by omega) _ _ ls (by rw [eM_23]; exact hP) hS ?_
          show lv_has ls 6 [(0, .ref (ad 0)), (1, .int (nI i)), (2, .int (nI q)), (3, .int (nI (M 23 i))), (4, .int (nI (8 * M 17 (M 23 i) + M 18 (M 23 i)))), (5, .int (nI (k + 1)))]
          exact lv_sub hl [1, 2, 3, 4, 5, 0] rfl
        · refine lv_aload_n hx hb dX9_upholds_131 rfl (lv_at hl 0 rfl) ?_
          refine m_get hx hb hts hin hown hK hP 26 (by decide) l_state rfl dX9_upholds_132 ?_
          refine lv_iload hx hb dX9_upholds_135 (lv_at hl 5 rfl) ?_
          refine m_iald (f := 26) hx hb hK hP 21 rfl (by omega) (by decide) dX9_upholds_137 ?_
          refine n_if_ne (tgt := 145) hx hb dX9_upholds_138 (by decide) (by have f1 : (m_mof (m_up1 M i q) (M 23 i) k) 26 k ≤ 3 := (MI_mof (MI_up1 hM i hq) (M 23 i) k) 26 k; omega) (fun c_24 => ?_) (fun c_24 => ?_)
          · refine lv_aload_n hx hb dX9_upholds_145 rfl (lv_at hl 0 rfl) ?_
            refine m_get hx hb hts hin hown hK hP 26 (by decide) l_state rfl dX9_upholds_146 ?_
            refine lv_iload hx hb dX9_upholds_149 (lv_at hl 5 rfl) ?_
            refine m_iald (f := 26) hx hb hK hP 21 rfl (by omega) (by decide) dX9_upholds_151 ?_
            refine m_iast (f := 26) (v := (m_mof (m_up1 M i q) (M 23 i) k) 26 k) hx hb hK hP hD hS 21 rfl (by omega) (by decide) (mset_26 _ _ _ _ _ _ _ _) dX9_upholds_152 (fun H locs hP hS => ?_)
            refine n_iinc (k := 5) (lv' := [(5, .int (nI (k + 1))), (0, .ref (ad 0)), (1, .int (nI i)), (2, .int (nI q)), (3, .int (nI (M 23 i))), (4, .int (nI (8 * M 17 (M 23 i) + M 18 (M 23 i))))]) hx hb dX9_upholds_153 hl rfl (by decide) rfl (fun ls hl => ?_)
            refine lv_goto (tgt := 105) hx hb dX9_upholds_156 (by decide) ?_
            have eM_25 : m_mof (m_up1 M i q) (M 23 i) (k + 1) = mu (m_mof (m_up1 M i q) (M 23 i) k) 26 k ((m_mof (m_up1 M i q) (M 23 i) k) 26 k) := by simp [m_mof, c_1, c_2, c_18, c_22, c_24]
            refine ih_15 (by omega) _ _ ls (by rw [eM_25]; exact hP) hS ?_
            show lv_has ls 6 [(0, .ref (ad 0)), (1, .int (nI i)), (2, .int (nI q)), (3, .int (nI (M 23 i))), (4, .int (nI (8 * M 17 (M 23 i) + M 18 (M 23 i)))), (5, .int (nI (k + 1)))]
            exact lv_sub hl [1, 2, 3, 4, 5, 0] rfl
          · refine lv_iconst (v := nI 3) hx hb dX9_upholds_141 (by decide) ?_
            refine lv_goto (tgt := 152) hx hb dX9_upholds_142 (by decide) ?_
            refine m_iast (f := 26) (v := 3) hx hb hK hP hD hS 21 rfl (by omega) (by decide) (mset_26 _ _ _ _ _ _ _ _) dX9_upholds_152 (fun H locs hP hS => ?_)
            refine n_iinc (k := 5) (lv' := [(5, .int (nI (k + 1))), (0, .ref (ad 0)), (1, .int (nI i)), (2, .int (nI q)), (3, .int (nI (M 23 i))), (4, .int (nI (8 * M 17 (M 23 i) + M 18 (M 23 i))))]) hx hb dX9_upholds_153 hl rfl (by decide) rfl (fun ls hl => ?_)
            refine lv_goto (tgt := 105) hx hb dX9_upholds_156 (by decide) ?_
            have eM_26 : m_mof (m_up1 M i q) (M 23 i) (k + 1) = mu (m_mof (m_up1 M i q) (M 23 i) k) 26 k 3 := by simp [m_mof, c_1, c_2, c_18, c_22, c_24]
            refine ih_15 (by omega) _ _ ls (by rw [eM_26]; exact hP) hS ?_
            show lv_has ls 6 [(0, .ref (ad 0)), (1, .int (nI i)), (2, .int (nI q)), (3, .int (nI (M 23 i))), (4, .int (nI (8 * M 17 (M 23 i) + M 18 (M 23 i)))), (5, .int (nI (k + 1)))]
            exact lv_sub hl [1, 2, 3, 4, 5, 0] rfl
  · refine lv_aload_n hx hb dX9_upholds_34 rfl (lv_at hl 2 rfl) ?_
    refine m_get hx hb hts hin hown hK hP 14 (by decide) l_isOut rfl dX9_upholds_35 ?_
    refine lv_iload hx hb dX9_upholds_38 (lv_at hl 0 rfl) ?_
    refine lv_iconst (v := nI 1) hx hb dX9_upholds_40 (by decide) ?_
    refine m_zast (f := 14) (v := 1) hx hb hK hP hD hS 12 rfl (by have f1 : M 23 i ≤ 59 := hM 23 i; have f2 : M 17 (M 23 i) ≤ 17 := hM 17 (M 23 i); have f3 : M 18 (M 23 i) ≤ 7 := hM 18 (M 23 i); omega) (by decide) (by decide) (mset_14 _ _ _ _ _ _ _ _) dX9_upholds_41 (fun H locs hP hS => ?_)
    refine lv_goto (tgt := 88) hx hb dX9_upholds_42 (by decide) ?_
    refine lv_aload_n hx hb dX9_upholds_88 rfl (lv_at hl 2 rfl) ?_
    refine m_get hx hb hts hin hown hK hP 26 (by decide) l_state rfl dX9_upholds_89 ?_
    refine lv_iload_n hx hb dX9_upholds_92 rfl (lv_at hl 3 rfl) ?_
    refine lv_iconst (v := nI 1) hx hb dX9_upholds_93 (by decide) ?_
    refine m_iast (f := 26) (v := 1) hx hb hK hP hD hS 21 rfl (by omega) (by decide) (mset_26 _ _ _ _ _ _ _ _) dX9_upholds_94 (fun H locs hP hS => ?_)
    refine lv_aload_n hx hb dX9_upholds_95 rfl (lv_at hl 2 rfl) ?_
    refine m_get hx hb hts hin hown hK hP 20 (by decide) l_isVoid rfl dX9_upholds_96 ?_
    refine lv_iload_n hx hb dX9_upholds_99 rfl (lv_at hl 1 rfl) ?_
    refine lv_iconst (v := nI 1) hx hb dX9_upholds_100 (by decide) ?_
    refine m_zast (f := 20) (v := 1) hx hb hK hP hD hS 16 rfl (by have f1 : M 23 i ≤ 59 := hM 23 i; omega) (by decide) (by decide) (mset_20 _ _ _ _ _ _ _ _) dX9_upholds_101 (fun H locs hP hS => ?_)
    refine lv_iconst (v := nI 0) hx hb dX9_upholds_102 (by decide) ?_
    refine lv_istore (lv' := [(5, .int (nI 0)), (4, .int (nI ((8 * (M 17 (M 23 i))) + (M 18 (M 23 i))))), (3, .int (nI (M 23 i))), (0, .ref (ad 0)), (1, .int (nI i)), (2, .int (nI q))]) hx hb dX9_upholds_103 hl (by decide) rfl (fun ls hl => ?_)
    have eI_29 : m_mof (m_up1 M i q) (M 23 i) 0 = mu (mu (mu M 14 ((8 * (M 17 (M 23 i))) + (M 18 (M 23 i))) 1) 26 i 1) 20 (M 23 i) 1 := by simp [m_mof, m_up1, m_up0, c_1]
    refine m_loop (D := D) (ad := ad) (cI := cI) (cZ := cZ) (cC := cC) (th := th) (A := A) (e := M 22 0) (nL := 6) (fun k => [(0, .ref (ad 0)), (1, .int (nI i)), (2, .int (nI q)), (3, .int (nI (M 23 i))), (4, .int (nI (8 * M 17 (M 23 i) + M 18 (M 23 i)))), (5, .int (nI k))]) (fun k => m_mof (m_up1 M i q) (M 23 i) k) (fun k hb_28 ih_27 H locs ls hP hS hl => ?_) 0 (by omega) _ _ ls (by rw [eI_29]; exact hP) hS (lv_sub hl [3, 4, 5, 2, 1, 0] rfl)
    have e22 : m_mof (m_up1 M i q) (M 23 i) k 22 0 = M 22 0 := by rw [m_mof_nf _ _ (by decide), m_up1_nf _ _ _ (by decide)]
    have h22 : M 22 0 ≤ 60 := hM 22 0
    refine lv_iload hx hb dX9_upholds_105 (lv_at hl 5 rfl) ?_
    refine lv_aload_n hx hb dX9_upholds_107 rfl (lv_at hl 0 rfl) ?_
    refine m_get (v := .int (nI ((m_mof (m_up1 M i q) (M 23 i) k) 22 0))) hx hb hts hin hown hK hP 22 (by decide) l_complaints rfl dX9_upholds_108 ?_
    refine n_icmp_ge (tgt := 159) hx hb dX9_upholds_111 (by decide) (by omega) (by have f1 : (m_mof (m_up1 M i q) (M 23 i) k) 22 0 ≤ 60 := (MI_mof (MI_up1 hM i hq) (M 23 i) k) 22 0; omega) (fun c_30 => ?_) (fun c_30 => ?_)
    · obtain rfl : M 22 0 = k := by omega
      refine lv_aload_n hx hb dX9_upholds_159 rfl (lv_at hl 0 rfl) ?_
      refine lv_aload_n hx hb dX9_upholds_160 rfl (lv_at hl 0 rfl) ?_
      refine m_get hx hb hts hin hown hK hP 17 (by decide) l_lotOf rfl dX9_upholds_161 ?_
      refine lv_iload_n hx hb dX9_upholds_164 rfl (lv_at hl 3 rfl) ?_
      refine m_iald (f := 17) hx hb hK hP 13 rfl (by have f1 : M 23 i ≤ 59 := hM 23 i; omega) (by decide) dX9_upholds_165 ?_
      rw [show (m_mof (m_up1 M i q) (M 23 i) (M 22 0)) 17 (M 23 i) = M 17 (M 23 i) from by rw [m_mof_nf _ _ (by decide), m_up1_nf _ _ _ (by decide)]]
      refine va_calli (va_runV (As := [.int (nI (M 17 (M 23 i)))]) (rest := []) ⟨hx, hb, hml, hown, hts⟩ (c9_gives l D ad cI cZ cC th (m_mof (m_up1 M i q) (M 23 i) (M 22 0)) (MI_mof (MI_up1 hM i hq) (M 23 i) (M 22 0)) hD  (M 17 (M 23 i)) (by have f1 : M 17 (M 23 i) ≤ 17 := hM 17 (M 23 i); omega) (by show m_mof (m_up1 M i q) (M 23 i) (M 22 0) 16 0 < 60; rw [m_mof_nf _ _ (by decide), m_up1_nf _ _ _ (by decide)]; exact h16)) (cwV 1 hts gX9_upholds_X9_gives rfl rfl rfl kd_X9_gives ⟨Nat.le_of_ble_eq_true rfl, Nat.le_of_ble_eq_true rfl⟩) ⟨mB_blind, m_recv hK hP, m_pre hK hP _⟩ rfl rfl hl.1 rfl (lv_room (Nat.le_of_ble_eq_true rfl)) dX9_upholds_166 ⟨Nat.le_of_ble_eq_true rfl, Nat.le_of_ble_eq_true rfl⟩) hS (fun _ _ h => h) (fun _ h => h) (fun r_31 u U8 H1 locs1 ht hvm hr_31 hP1 hz1 hk1 hS1 => ?_)
      rw [ht] at hP1
      clear hS
      have hS := hS1
      have hP : va_P D vwCl (mws ad cI cZ cC th (m_gv (m_mof (m_up1 M i q) (M 23 i) (M 22 0)) (M 17 (M 23 i)))) H1 := hP1
      generalize H1 = H at hP hS ⊢
      have hM_32 : MI (m_gv (m_mof (m_up1 M i q) (M 23 i) (M 22 0)) (M 17 (M 23 i))) := (MI_gv (MI_mof (MI_up1 hM i hq) (M 23 i) (M 22 0)) (by have f1 : M 17 (M 23 i) ≤ 17 := hM 17 (M 23 i); omega) (by show m_mof (m_up1 M i q) (M 23 i) (M 22 0) 16 0 < 60; rw [m_mof_nf _ _ (by decide), m_up1_nf _ _ _ (by decide)]; exact h16))
      subst hr_31
      have eM_33 : m_up M i q = m_gv (m_mof (m_up1 M i q) (M 23 i) (M 22 0)) (M 17 (M 23 i)) := by rfl
      exact W.iret (v := m_gvr (m_mof (m_up1 M i q) (M 23 i) (M 22 0)) (M 17 (M 23 i))) hx hb hr (fun U9 ht hW => ⟨⟨_, (), rfl, (show m_gvr (m_mof (m_up1 M i q) (M 23 i) (M 22 0)) (M 17 (M 23 i)) = m_upr M i q from by rfl), by show va_P D vwCl _ U9.heap; rw [ht, eM_33]; exact hP⟩, hS.F ht⟩) hS.2.2 dX9_upholds_169
    · refine lv_aload_n hx hb dX9_upholds_114 rfl (lv_at hl 0 rfl) ?_
      refine m_get hx hb hts hin hown hK hP 26 (by decide) l_state rfl dX9_upholds_115 ?_
      refine lv_iload hx hb dX9_upholds_118 (lv_at hl 5 rfl) ?_
      refine lv_aload_n hx hb dX9_upholds_120 rfl (lv_at hl 0 rfl) ?_
      refine m_get hx hb hts hin hown hK hP 23 (by decide) l_about rfl dX9_upholds_121 ?_
      refine lv_iload hx hb dX9_upholds_124 (lv_at hl 5 rfl) ?_
      refine m_iald (f := 23) hx hb hK hP 18 rfl (by omega) (by decide) dX9_upholds_126 ?_
      refine lv_iload_n hx hb dX9_upholds_127 rfl (lv_at hl 3 rfl) ?_
      refine n_icmp_ne (tgt := 145) hx hb dX9_upholds_128 (by decide) (by have f1 : (m_mof (m_up1 M i q) (M 23 i) k) 23 k ≤ 59 := (MI_mof (MI_up1 hM i hq) (M 23 i) k) 23 k; omega) (by have f1 : M 23 i ≤ 59 := hM 23 i; omega) (fun c_34 => ?_) (fun c_34 => ?_)
      · refine lv_aload_n hx hb dX9_upholds_145 rfl (lv_at hl 0 rfl) ?_
        refine m_get hx hb hts hin hown hK hP 26 (by decide) l_state rfl dX9_upholds_146 ?_
        refine lv_iload hx hb dX9_upholds_149 (lv_at hl 5 rfl) ?_
        refine m_iald (f := 26) hx hb hK hP 21 rfl (by omega) (by decide) dX9_upholds_151 ?_
        refine m_iast (f := 26) (v := (m_mof (m_up1 M i q) (M 23 i) k) 26 k) hx hb hK hP hD hS 21 rfl (by omega) (by decide) (mset_26 _ _ _ _ _ _ _ _) dX9_upholds_152 (fun H locs hP hS => ?_)
        refine n_iinc (k := 5) (lv' := [(5, .int (nI (k + 1))), (0, .ref (ad 0)), (1, .int (nI i)), (2, .int (nI q)), (3, .int (nI (M 23 i))), (4, .int (nI (8 * M 17 (M 23 i) + M 18 (M 23 i))))]) hx hb dX9_upholds_153 hl rfl (by decide) rfl (fun ls hl => ?_)
        refine lv_goto (tgt := 105) hx hb dX9_upholds_156 (by decide) ?_
        have eM_35 : m_mof (m_up1 M i q) (M 23 i) (k + 1) = mu (m_mof (m_up1 M i q) (M 23 i) k) 26 k ((m_mof (m_up1 M i q) (M 23 i) k) 26 k) := by simp [m_mof, c_1, c_30, c_34]
        refine ih_27 (by omega) _ _ ls (by rw [eM_35]; exact hP) hS ?_
        show lv_has ls 6 [(0, .ref (ad 0)), (1, .int (nI i)), (2, .int (nI q)), (3, .int (nI (M 23 i))), (4, .int (nI (8 * M 17 (M 23 i) + M 18 (M 23 i)))), (5, .int (nI (k + 1)))]
        exact lv_sub hl [1, 2, 3, 4, 5, 0] rfl
      · refine lv_aload_n hx hb dX9_upholds_131 rfl (lv_at hl 0 rfl) ?_
        refine m_get hx hb hts hin hown hK hP 26 (by decide) l_state rfl dX9_upholds_132 ?_
        refine lv_iload hx hb dX9_upholds_135 (lv_at hl 5 rfl) ?_
        refine m_iald (f := 26) hx hb hK hP 21 rfl (by omega) (by decide) dX9_upholds_137 ?_
        refine n_if_ne (tgt := 145) hx hb dX9_upholds_138 (by decide) (by have f1 : (m_mof (m_up1 M i q) (M 23 i) k) 26 k ≤ 3 := (MI_mof (MI_up1 hM i hq) (M 23 i) k) 26 k; omega) (fun c_36 => ?_) (fun c_36 => ?_)
        · refine lv_aload_n hx hb dX9_upholds_145 rfl (lv_at hl 0 rfl) ?_
          refine m_get hx hb hts hin hown hK hP 26 (by decide) l_state rfl dX9_upholds_146 ?_
          refine lv_iload hx hb dX9_upholds_149 (lv_at hl 5 rfl) ?_
          refine m_iald (f := 26) hx hb hK hP 21 rfl (by omega) (by decide) dX9_upholds_151 ?_
          refine m_iast (f := 26) (v := (m_mof (m_up1 M i q) (M 23 i) k) 26 k) hx hb hK hP hD hS 21 rfl (by omega) (by decide) (mset_26 _ _ _ _ _ _ _ _) dX9_upholds_152 (fun H locs hP hS => ?_)
          refine n_iinc (k := 5) (lv' := [(5, .int (nI (k + 1))), (0, .ref (ad 0)), (1, .int (nI i)), (2, .int (nI q)), (3, .int (nI (M 23 i))), (4, .int (nI (8 * M 17 (M 23 i) + M 18 (M 23 i))))]) hx hb dX9_upholds_153 hl rfl (by decide) rfl (fun ls hl => ?_)
          refine lv_goto (tgt := 105) hx hb dX9_upholds_156 (by decide) ?_
          have eM_37 : m_mof (m_up1 M i q) (M 23 i) (k + 1) = mu (m_mof (m_up1 M i q) (M 23 i) k) 26 k ((m_mof (m_up1 M i q) (M 23 i) k) 26 k) := by simp [m_mof, c_1, c_30, c_34, c_36]
          refine ih_27 (by omega) _ _ ls (by rw [eM_37]; exact hP) hS ?_
          show lv_has ls 6 [(0, .ref (ad 0)), (1, .int (nI i)), (2, .int (nI q)), (3, .int (nI (M 23 i))), (4, .int (nI (8 * M 17 (M 23 i) + M 18 (M 23 i)))), (5, .int (nI (k + 1)))]
          exact lv_sub hl [1, 2, 3, 4, 5, 0] rfl
        · refine lv_iconst (v := nI 3) hx hb dX9_upholds_141 (by decide) ?_
          refine lv_goto (tgt := 152) hx hb dX9_upholds_142 (by decide) ?_
          refine m_iast (f := 26) (v := 3) hx hb hK hP hD hS 21 rfl (by omega) (by decide) (mset_26 _ _ _ _ _ _ _ _) dX9_upholds_152 (fun H locs hP hS => ?_)
          refine n_iinc (k := 5) (lv' := [(5, .int (nI (k + 1))), (0, .ref (ad 0)), (1, .int (nI i)), (2, .int (nI q)), (3, .int (nI (M 23 i))), (4, .int (nI (8 * M 17 (M 23 i) + M 18 (M 23 i))))]) hx hb dX9_upholds_153 hl rfl (by decide) rfl (fun ls hl => ?_)
          refine lv_goto (tgt := 105) hx hb dX9_upholds_156 (by decide) ?_
          have eM_38 : m_mof (m_up1 M i q) (M 23 i) (k + 1) = mu (m_mof (m_up1 M i q) (M 23 i) k) 26 k 3 := by simp [m_mof, c_1, c_30, c_34, c_36]
          refine ih_27 (by omega) _ _ ls (by rw [eM_38]; exact hP) hS ?_
          show lv_has ls 6 [(0, .ref (ad 0)), (1, .int (nI i)), (2, .int (nI q)), (3, .int (nI (M 23 i))), (4, .int (nI (8 * M 17 (M 23 i) + M 18 (M 23 i)))), (5, .int (nI (k + 1)))]
          exact lv_sub hl [1, 2, 3, 4, 5, 0] rfl
set_option maxHeartbeats 4000000 in
set_option maxRecDepth 100000 in
theorem c9_rule (l : Launch) (D : va_G) (ad : Nat → Nat) (cI cZ cC : ClassId) (th : Nat) (M : MS) (hM : MI M) {A : Nat → Prop} (hD : mDis A ad) (i : Int32) (v : Bool) (q : Int32) : Met l yX9_rule wsX9_rule ({ frames := 7, cells := 0, slots := 0, locals := 165 }) (va_Pc [.ref (ad 0), .int i, .int (bi v), .int q] (mB D ad cI cZ cC th M)) (va_Qi (fun (r : Int32) (_ : Unit) => r = r_rule M i v q) (fun _ U9 => va_P D vwCl (mws ad cI cZ cC (k_rule M i v q) (g_rule M i v q)) U9.heap) A) 0 0 A := by
  refine Met.ofW (cc := cX9_rule) (maxL := 4) (ret := (some .int)) (by decide) rfl ?_
  intro p e s m args below meth c s₁ B hml hv
  obtain ⟨rfl, hP, hK⟩ := hv
  have hx := B.exec
  have hb := B.bytes
  have hr := B.returns
  have hts := atoms_spec (ws := wsX9_rule) B.pre
  have hown : s.vm.findClass RX9 = some m.cls := findClass_of_methodNamed B.named
  have hlocks := B.notSynchronized
  have hin : ∀ w ∈ wsX90, w ∈ wsX9_rule := fun w h => List.mem_cons_of_mem _ (List.mem_append_right _ h)
  have l_state := (hts (.fieldLink RX9 71 "TenderHallModel" "state" "[I") (List.mem_of_getElem? (i := 1) rfl))
  have l_thrown := (hts (.fieldLink RX9 93 "TenderHallModel" "thrown" "I") (List.mem_of_getElem? (i := 3) rfl))
  have l_dismissed := (hts (.fieldLink RX9 74 "TenderHallModel" "dismissed" "[I") (List.mem_of_getElem? (i := 4) rfl))
  have l_today := (hts (.fieldLink RX9 108 "TenderHallModel" "today" "I") (List.mem_of_getElem? (i := 5) rfl))
  have l_awards := (hts (.fieldLink RX9 157 "TenderHallModel" "awards" "I") (List.mem_of_getElem? (i := 2) rfl))
  have hS : va_S A s.heap s.heap [] := va_S.rf
  have hl := lv_entry ([.ref (ad 0), .int i, .int (bi v), .int q]) (n := 4) (Nat.le_of_ble_eq_true rfl)
  rw [lg_entry_eq]
  generalize (lg_sl ([.ref (ad 0), .int i, .int (bi v), .int q]) ++ List.replicate (4 - (lg_sl ([.ref (ad 0), .int i, .int (bi v), .int q])).length) Slot.unset).toArray = ls at hl ⊢
  have hl : lv_has ls 4 [(0, .ref (ad 0)), (1, .int i), (2, .int (bi v)), (3, .int q)] := hl
  have h36 : M 3 0 ≤ 6 := hM 3 0
  have h160 : M 16 0 ≤ 60 := hM 16 0
  have h220 : M 22 0 ≤ 60 := hM 22 0
  have h290 : M 29 0 ≤ 60 := hM 29 0
  have h120 : M 1 0 ≤ 2000 := hM 1 0
  refine lv_aload_n hx hb dX9_rule_0 rfl (lv_at hl 0 rfl) ?_
  refine lv_aload_n hx hb dX9_rule_1 rfl (lv_at hl 0 rfl) ?_
  refine lv_iload_n hx hb dX9_rule_2 rfl (lv_at hl 1 rfl) ?_
  refine vp_callSi (W.runV (As := [.int i]) (rest := [.ref (ad 0)]) ⟨hx, hb, hml, hown, hts⟩ (c9_isComplaint l D ad cI cZ cC th M hM  i) (cwV 1 hts gX9_rule_X9_isComplaint rfl rfl rfl kd_X9_isComplaint ⟨Nat.le_of_ble_eq_true rfl, Nat.le_of_ble_eq_true rfl⟩) ⟨mB_blind, m_recv hK hP, m_pre hK hP _⟩ rfl rfl hl.1 rfl (lv_room (Nat.le_of_ble_eq_true rfl)) dX9_rule_3 ⟨Nat.le_of_ble_eq_true rfl, Nat.le_of_ble_eq_true rfl⟩) (fun r_1 hr_1 => ?_)
  subst hr_1
  refine b_if_ne (tgt := 13) hx hb dX9_rule_6 (by decide)  (fun c_2 => ?_) (fun c_2 => ?_)
  · obtain ⟨i1, hi1, rfl⟩ := isIx_of (by omega) c_2
    have ki19 : (nI i1).toNatClampNeg = i1 := nI_clamp (by omega)
    refine lv_iload_n hx hb dX9_rule_13 rfl (lv_at hl 3 rfl) ?_
    refine lv_iconst (v := nI 0) hx hb dX9_rule_14 (by decide) ?_
    refine lv_bipush (v := nI 100) hx hb dX9_rule_15 (by decide) ?_
    refine vp_callSi (W.runS (As := [.int q, .int (nI 0), .int (nI 100)]) (rest := [.ref (ad 0)]) ⟨hx, hb, hml, hown, hts⟩ (c9_in l  q (nI 0) (nI 100)) (va_cwS 3 hts gX9_rule_X9_in rfl rfl rfl kd_X9_in ⟨Nat.le_of_ble_eq_true rfl, Nat.le_of_ble_eq_true rfl⟩) ⟨fun _ _ _ _ q => q, fun U hU hW => ⟨rfl, trivial⟩⟩ rfl rfl hl.1 rfl (lv_room (Nat.le_of_ble_eq_true rfl)) dX9_rule_17 ⟨Nat.le_of_ble_eq_true rfl, Nat.le_of_ble_eq_true rfl⟩) (fun r_3 hr_3 => ?_)
    subst hr_3
    refine b_if_ne (tgt := 27) hx hb dX9_rule_20 (by decide)  (fun c_4 => ?_) (fun c_4 => ?_)
    · obtain ⟨q1, hq1, hq19, rfl⟩ := i_in_of (a := 0) (b := 100) (by omega) c_4
      have kq19 : (nI q1).toNatClampNeg = q1 := nI_clamp (by omega)
      refine lv_aload_n hx hb dX9_rule_27 rfl (lv_at hl 0 rfl) ?_
      refine m_get hx hb hts hin hown hK hP 26 (by decide) l_state rfl dX9_rule_28 ?_
      refine lv_iload_n hx hb dX9_rule_31 rfl (lv_at hl 1 rfl) ?_
      refine m_iald (f := 26) hx hb hK hP 21 rfl (by omega) (by decide) dX9_rule_32 ?_
      refine n_if_ne (tgt := 49) hx hb dX9_rule_33 (by decide) (by have f1 : M 26 i1 ≤ 3 := hM 26 i1; omega) (fun c_5 => ?_) (fun c_5 => ?_)
      · refine lv_iconst (v := nI 3) hx hb dX9_rule_49 (by decide) ?_
        refine lv_goto (tgt := 54) hx hb dX9_rule_50 (by decide) ?_
        refine m_putT hx hb hts hin hown hK hP hD hS l_thrown dX9_rule_54 (fun H locs hP hS => ?_)
        refine lv_aload_n hx hb dX9_rule_57 rfl (lv_at hl 0 rfl) ?_
        refine m_get (v := .int (nI 3)) hx hb hts hin hown hK hP 0 (by decide) l_thrown rfl dX9_rule_58 ?_
        refine n_if_le (tgt := 66) hx hb dX9_rule_61 (by decide) (by decide) (fun c9 => absurd c9 (by decide)) (fun _ => ?_)
        refine lv_iconst (v := nI 0) hx hb dX9_rule_64 (by decide) ?_
        have eM_6 : g_rule M (nI i1) v (nI q1) = M := by simp [g_rule, k_rule, c_2, ki19, c_4, kq19, c_5]
        have eT_7 : k_rule M (nI i1) v (nI q1) = 3 := by simp [k_rule, c_2, ki19, c_4, kq19, c_5]
        exact W.iret (v := nI 0) hx hb hr (fun U9 ht hW => ⟨⟨_, (), rfl, (show nI 0 = r_rule M (nI i1) v (nI q1) from by simp [r_rule, k_rule, c_2, ki19, c_4, kq19, c_5]), by show va_P D vwCl _ U9.heap; rw [ht, eM_6, eT_7]; exact hP⟩, hS.F ht⟩) hS.2.2 dX9_rule_65
      · refine lv_iload_n hx hb dX9_rule_36 rfl (lv_at hl 2 rfl) ?_
        refine b_if_eq (tgt := 53) hx hb dX9_rule_37 (by decide)  (fun c_8 => ?_) (fun c_8 => ?_)
        · refine lv_iconst (v := nI 0) hx hb dX9_rule_53 (by decide) ?_
          refine m_putT hx hb hts hin hown hK hP hD hS l_thrown dX9_rule_54 (fun H locs hP hS => ?_)
          refine lv_aload_n hx hb dX9_rule_57 rfl (lv_at hl 0 rfl) ?_
          refine m_get (v := .int (nI 0)) hx hb hts hin hown hK hP 0 (by decide) l_thrown rfl dX9_rule_58 ?_
          refine n_if_le (tgt := 66) hx hb dX9_rule_61 (by decide) (by decide) (fun _ => ?_) (fun c9 => absurd c9 (by decide))
          refine lv_iload_n hx hb dX9_rule_66 rfl (lv_at hl 2 rfl) ?_
          refine b_if_eq (tgt := 77) hx hb dX9_rule_67 (by decide) (fun _ => ?_) (fun c9 => absurd (c_8.symm.trans c9) (by decide))
          refine lv_aload_n hx hb dX9_rule_77 rfl (lv_at hl 0 rfl) ?_
          refine m_get hx hb hts hin hown hK hP 26 (by decide) l_state rfl dX9_rule_78 ?_
          refine lv_iload_n hx hb dX9_rule_81 rfl (lv_at hl 1 rfl) ?_
          refine lv_iconst (v := nI 2) hx hb dX9_rule_82 (by decide) ?_
          refine m_iast (f := 26) (v := 2) hx hb hK hP hD hS 21 rfl (by omega) (by decide) (mset_26 _ _ _ _ _ _ _ _) dX9_rule_83 (fun H locs hP hS => ?_)
          refine lv_aload_n hx hb dX9_rule_84 rfl (lv_at hl 0 rfl) ?_
          refine m_get hx hb hts hin hown hK hP 27 (by decide) l_dismissed rfl dX9_rule_85 ?_
          refine lv_iload_n hx hb dX9_rule_88 rfl (lv_at hl 1 rfl) ?_
          refine lv_aload_n hx hb dX9_rule_89 rfl (lv_at hl 0 rfl) ?_
          refine m_get (v := .int (nI (M 1 0))) hx hb hts hin hown hK hP 1 (by decide) l_today rfl dX9_rule_90 ?_
          refine m_iast (f := 27) (v := M 1 0) hx hb hK hP hD hS 22 rfl (by omega) (by decide) (mset_27 _ _ _ _ _ _ _ _) dX9_rule_93 (fun H locs hP hS => ?_)
          refine lv_iconst (v := (-1)) hx hb dX9_rule_94 (by decide) ?_
          have eM_9 : g_rule M (nI i1) v (nI q1) = mu (mu M 26 i1 2) 27 i1 (M 1 0) := by simp [g_rule, k_rule, c_2, ki19, c_4, kq19, c_5, c_8]
          have eT_10 : k_rule M (nI i1) v (nI q1) = 0 := by simp [k_rule, c_2, ki19, c_4, kq19, c_5, c_8]
          exact W.iret (v := (-1)) hx hb hr (fun U9 ht hW => ⟨⟨_, (), rfl, (show (-1) = r_rule M (nI i1) v (nI q1) from by simp [r_rule, k_rule, c_2, ki19, c_4, kq19, c_5, c_8]), by show va_P D vwCl _ U9.heap; rw [ht, eM_9, eT_10]; exact hP⟩, hS.F ht⟩) hS.2.2 dX9_rule_95
        · refine lv_aload_n hx hb dX9_rule_40 rfl (lv_at hl 0 rfl) ?_
          refine m_get (v := .int (nI (M 16 0))) hx hb hts hin hown hK hP 16 (by decide) l_awards rfl dX9_rule_41 ?_
          refine lv_bipush (v := nI 60) hx hb dX9_rule_44 (by decide) ?_
          refine n_icmp_ne (tgt := 53) hx hb dX9_rule_46 (by decide) (by have f1 : M 16 0 ≤ 60 := hM 16 0; omega) (by decide) (fun c_11 => ?_) (fun c_11 => ?_)
          · refine lv_iconst (v := nI 0) hx hb dX9_rule_53 (by decide) ?_
            refine m_putT hx hb hts hin hown hK hP hD hS l_thrown dX9_rule_54 (fun H locs hP hS => ?_)
            refine lv_aload_n hx hb dX9_rule_57 rfl (lv_at hl 0 rfl) ?_
            refine m_get (v := .int (nI 0)) hx hb hts hin hown hK hP 0 (by decide) l_thrown rfl dX9_rule_58 ?_
            refine n_if_le (tgt := 66) hx hb dX9_rule_61 (by decide) (by decide) (fun _ => ?_) (fun c9 => absurd c9 (by decide))
            refine lv_iload_n hx hb dX9_rule_66 rfl (lv_at hl 2 rfl) ?_
            refine b_if_eq (tgt := 77) hx hb dX9_rule_67 (by decide) (fun c9 => absurd (c_8.symm.trans c9) (by decide)) (fun _ => ?_)
            refine lv_aload_n hx hb dX9_rule_70 rfl (lv_at hl 0 rfl) ?_
            refine lv_iload_n hx hb dX9_rule_71 rfl (lv_at hl 1 rfl) ?_
            refine lv_iload_n hx hb dX9_rule_72 rfl (lv_at hl 3 rfl) ?_
            refine va_calli (va_runV (As := [.int (nI i1), .int (nI q1)]) (rest := []) ⟨hx, hb, hml, hown, hts⟩ (c9_upholds l D ad cI cZ cC 0 M hM hD  i1 q1 (by omega) (by omega) (by omega)) (cwV 2 hts gX9_rule_X9_upholds rfl rfl rfl kd_X9_upholds ⟨Nat.le_of_ble_eq_true rfl, Nat.le_of_ble_eq_true rfl⟩) ⟨mB_blind, m_recv hK hP, m_pre hK hP _⟩ rfl rfl hl.1 rfl (lv_room (Nat.le_of_ble_eq_true rfl)) dX9_rule_73 ⟨Nat.le_of_ble_eq_true rfl, Nat.le_of_ble_eq_true rfl⟩) hS (fun _ _ h => h) (fun _ h => h) (fun r_12 u U8 H1 locs1 ht hvm hr_12 hP1 hz1 hk1 hS1 => ?_)
            rw [ht] at hP1
            clear hS
            have hS := hS1
            have hP : va_P D vwCl (mws ad cI cZ cC 0 (m_up M i1 q1)) H1 := hP1
            generalize H1 = H at hP hS ⊢
            have hM_13 : MI (m_up M i1 q1) := (MI_up hM i1 (by omega) (by omega))
            subst hr_12
            have eM_14 : g_rule M (nI i1) v (nI q1) = m_up M i1 q1 := by simp [g_rule, k_rule, c_2, ki19, c_4, kq19, c_5, c_8, c_11]
            have eT_15 : k_rule M (nI i1) v (nI q1) = 0 := by simp [k_rule, c_2, ki19, c_4, kq19, c_5, c_8, c_11]
            exact W.iret (v := m_upr M i1 q1) hx hb hr (fun U9 ht hW => ⟨⟨_, (), rfl, (show m_upr M i1 q1 = r_rule M (nI i1) v (nI q1) from by simp [r_rule, k_rule, c_2, ki19, c_4, kq19, c_5, c_8, c_11]), by show va_P D vwCl _ U9.heap; rw [ht, eM_14, eT_15]; exact hP⟩, hS.F ht⟩) hS.2.2 dX9_rule_76
          · refine lv_iconst (v := nI 3) hx hb dX9_rule_49 (by decide) ?_
            refine lv_goto (tgt := 54) hx hb dX9_rule_50 (by decide) ?_
            refine m_putT hx hb hts hin hown hK hP hD hS l_thrown dX9_rule_54 (fun H locs hP hS => ?_)
            refine lv_aload_n hx hb dX9_rule_57 rfl (lv_at hl 0 rfl) ?_
            refine m_get (v := .int (nI 3)) hx hb hts hin hown hK hP 0 (by decide) l_thrown rfl dX9_rule_58 ?_
            refine n_if_le (tgt := 66) hx hb dX9_rule_61 (by decide) (by decide) (fun c9 => absurd c9 (by decide)) (fun _ => ?_)
            refine lv_iconst (v := nI 0) hx hb dX9_rule_64 (by decide) ?_
            have eM_16 : g_rule M (nI i1) v (nI q1) = M := by simp [g_rule, k_rule, c_2, ki19, c_4, kq19, c_5, c_8, c_11]
            have eT_17 : k_rule M (nI i1) v (nI q1) = 3 := by simp [k_rule, c_2, ki19, c_4, kq19, c_5, c_8, c_11]
            exact W.iret (v := nI 0) hx hb hr (fun U9 ht hW => ⟨⟨_, (), rfl, (show nI 0 = r_rule M (nI i1) v (nI q1) from by simp [r_rule, k_rule, c_2, ki19, c_4, kq19, c_5, c_8, c_11]), by show va_P D vwCl _ U9.heap; rw [ht, eM_16, eT_17]; exact hP⟩, hS.F ht⟩) hS.2.2 dX9_rule_65
    · refine lv_iconst (v := nI 2) hx hb dX9_rule_23 (by decide) ?_
      refine lv_goto (tgt := 54) hx hb dX9_rule_24 (by decide) ?_
      refine m_putT hx hb hts hin hown hK hP hD hS l_thrown dX9_rule_54 (fun H locs hP hS => ?_)
      refine lv_aload_n hx hb dX9_rule_57 rfl (lv_at hl 0 rfl) ?_
      refine m_get (v := .int (nI 2)) hx hb hts hin hown hK hP 0 (by decide) l_thrown rfl dX9_rule_58 ?_
      refine n_if_le (tgt := 66) hx hb dX9_rule_61 (by decide) (by decide) (fun c9 => absurd c9 (by decide)) (fun _ => ?_)
      refine lv_iconst (v := nI 0) hx hb dX9_rule_64 (by decide) ?_
      have eM_18 : g_rule M (nI i1) v q = M := by simp [g_rule, k_rule, c_2, ki19, c_4]
      have eT_19 : k_rule M (nI i1) v q = 2 := by simp [k_rule, c_2, ki19, c_4]
      exact W.iret (v := nI 0) hx hb hr (fun U9 ht hW => ⟨⟨_, (), rfl, (show nI 0 = r_rule M (nI i1) v q from by simp [r_rule, k_rule, c_2, ki19, c_4]), by show va_P D vwCl _ U9.heap; rw [ht, eM_18, eT_19]; exact hP⟩, hS.F ht⟩) hS.2.2 dX9_rule_65
  · refine lv_iconst (v := nI 1) hx hb dX9_rule_9 (by decide) ?_
    refine lv_goto (tgt := 54) hx hb dX9_rule_10 (by decide) ?_
    refine m_putT hx hb hts hin hown hK hP hD hS l_thrown dX9_rule_54 (fun H locs hP hS => ?_)
    refine lv_aload_n hx hb dX9_rule_57 rfl (lv_at hl 0 rfl) ?_
    refine m_get (v := .int (nI 1)) hx hb hts hin hown hK hP 0 (by decide) l_thrown rfl dX9_rule_58 ?_
    refine n_if_le (tgt := 66) hx hb dX9_rule_61 (by decide) (by decide) (fun c9 => absurd c9 (by decide)) (fun _ => ?_)
    refine lv_iconst (v := nI 0) hx hb dX9_rule_64 (by decide) ?_
    have eM_20 : g_rule M i v q = M := by simp [g_rule, k_rule, c_2]
    have eT_21 : k_rule M i v q = 1 := by simp [k_rule, c_2]
    exact W.iret (v := nI 0) hx hb hr (fun U9 ht hW => ⟨⟨_, (), rfl, (show nI 0 = r_rule M i v q from by simp [r_rule, k_rule, c_2]), by show va_P D vwCl _ U9.heap; rw [ht, eM_20, eT_21]; exact hP⟩, hS.F ht⟩) hS.2.2 dX9_rule_65
set_option maxHeartbeats 4000000 in
set_option maxRecDepth 100000 in
theorem c9_appeal (l : Launch) (D : va_G) (ad : Nat → Nat) (cI cZ cC : ClassId) (th : Nat) (M : MS) (hM : MI M) {A : Nat → Prop} (hD : mDis A ad) (i : Int32) : Met l yX9_appeal wsX9_appeal ({ frames := 2, cells := 0, slots := 0, locals := 43 }) (va_Pc [.ref (ad 0), .int i] (mB D ad cI cZ cC th M)) (va_Qi (fun (r : Int32) (_ : Unit) => r = r_appeal M i) (fun _ U9 => va_P D vwCl (mws ad cI cZ cC (k_appeal M i) (g_appeal M i)) U9.heap) A) 0 0 A := by
  refine Met.ofW (cc := cX9_appeal) (maxL := 3) (ret := (some .int)) (by decide) rfl ?_
  intro p e s m args below meth c s₁ B hml hv
  obtain ⟨rfl, hP, hK⟩ := hv
  have hx := B.exec
  have hb := B.bytes
  have hr := B.returns
  have hts := atoms_spec (ws := wsX9_appeal) B.pre
  have hown : s.vm.findClass RX9 = some m.cls := findClass_of_methodNamed B.named
  have hlocks := B.notSynchronized
  have hin : ∀ w ∈ wsX90, w ∈ wsX9_appeal := fun w h => List.mem_cons_of_mem _ (List.mem_append_right _ h)
  have l_thrown := (hts (.fieldLink RX9 93 "TenderHallModel" "thrown" "I") (List.mem_of_getElem? (i := 1) rfl))
  have l_state := (hts (.fieldLink RX9 71 "TenderHallModel" "state" "[I") (List.mem_of_getElem? (i := 2) rfl))
  have l_isAppealed := (hts (.fieldLink RX9 77 "TenderHallModel" "isAppealed" "[Z") (List.mem_of_getElem? (i := 3) rfl))
  have l_today := (hts (.fieldLink RX9 108 "TenderHallModel" "today" "I") (List.mem_of_getElem? (i := 4) rfl))
  have l_dismissed := (hts (.fieldLink RX9 74 "TenderHallModel" "dismissed" "[I") (List.mem_of_getElem? (i := 5) rfl))
  have l_isVoid := (hts (.fieldLink RX9 56 "TenderHallModel" "isVoid" "[Z") (List.mem_of_getElem? (i := 6) rfl))
  have l_about := (hts (.fieldLink RX9 62 "TenderHallModel" "about" "[I") (List.mem_of_getElem? (i := 7) rfl))
  have hS : va_S A s.heap s.heap [] := va_S.rf
  have hl := lv_entry ([.ref (ad 0), .int i]) (n := 3) (Nat.le_of_ble_eq_true rfl)
  rw [lg_entry_eq]
  generalize (lg_sl ([.ref (ad 0), .int i]) ++ List.replicate (3 - (lg_sl ([.ref (ad 0), .int i])).length) Slot.unset).toArray = ls at hl ⊢
  have hl : lv_has ls 3 [(0, .ref (ad 0)), (1, .int i)] := hl
  have h36 : M 3 0 ≤ 6 := hM 3 0
  have h160 : M 16 0 ≤ 60 := hM 16 0
  have h220 : M 22 0 ≤ 60 := hM 22 0
  have h290 : M 29 0 ≤ 60 := hM 29 0
  have h120 : M 1 0 ≤ 2000 := hM 1 0
  refine lv_aload_n hx hb dX9_appeal_0 rfl (lv_at hl 0 rfl) ?_
  refine lv_aload_n hx hb dX9_appeal_1 rfl (lv_at hl 0 rfl) ?_
  refine lv_iload_n hx hb dX9_appeal_2 rfl (lv_at hl 1 rfl) ?_
  refine vp_callSi (W.runV (As := [.int i]) (rest := [.ref (ad 0)]) ⟨hx, hb, hml, hown, hts⟩ (c9_isComplaint l D ad cI cZ cC th M hM  i) (cwV 1 hts gX9_appeal_X9_isComplaint rfl rfl rfl kd_X9_isComplaint ⟨Nat.le_of_ble_eq_true rfl, Nat.le_of_ble_eq_true rfl⟩) ⟨mB_blind, m_recv hK hP, m_pre hK hP _⟩ rfl rfl hl.1 rfl (lv_room (Nat.le_of_ble_eq_true rfl)) dX9_appeal_3 ⟨Nat.le_of_ble_eq_true rfl, Nat.le_of_ble_eq_true rfl⟩) (fun r_1 hr_1 => ?_)
  subst hr_1
  refine b_if_eq (tgt := 13) hx hb dX9_appeal_6 (by decide)  (fun c_2 => ?_) (fun c_2 => ?_)
  · refine lv_iconst (v := nI 1) hx hb dX9_appeal_13 (by decide) ?_
    refine m_putT hx hb hts hin hown hK hP hD hS l_thrown dX9_appeal_14 (fun H locs hP hS => ?_)
    refine lv_aload_n hx hb dX9_appeal_17 rfl (lv_at hl 0 rfl) ?_
    refine m_get (v := .int (nI 1)) hx hb hts hin hown hK hP 0 (by decide) l_thrown rfl dX9_appeal_18 ?_
    refine n_if_ne (tgt := 92) hx hb dX9_appeal_21 (by decide) (by decide) (fun _ => ?_) (fun c9 => absurd c9 (by decide))
    refine lv_aload_n hx hb dX9_appeal_92 rfl (lv_at hl 0 rfl) ?_
    refine m_get (v := .int (nI 1)) hx hb hts hin hown hK hP 0 (by decide) l_thrown rfl dX9_appeal_93 ?_
    refine n_if_le (tgt := 101) hx hb dX9_appeal_96 (by decide) (by decide) (fun c9 => absurd c9 (by decide)) (fun _ => ?_)
    refine lv_iconst (v := nI 0) hx hb dX9_appeal_99 (by decide) ?_
    have eM_3 : g_appeal M i = M := by first | (simp [g_appeal, k_appeal, c_2]; done) | (simp [g_appeal, k_appeal, c_2]; omega)
    have eT_4 : k_appeal M i = 1 := by first | (simp [k_appeal, c_2]; done) | (simp [k_appeal, c_2]; omega)
    exact W.iret (v := nI 0) hx hb hr (fun U9 ht hW => ⟨⟨_, (), rfl, (show nI 0 = r_appeal M i from by first | (simp [r_appeal, g_appeal, k_appeal, c_2]; done) | (simp [r_appeal, g_appeal, k_appeal, c_2]; omega)), by show va_P D vwCl _ U9.heap; rw [ht, eM_3, eT_4]; exact hP⟩, hS.F ht⟩) hS.2.2 dX9_appeal_100
  · obtain ⟨i1, hi1, rfl⟩ := isIx_of (by omega) c_2
    have ki19 : (nI i1).toNatClampNeg = i1 := nI_clamp (by omega)
    refine lv_iconst (v := nI 0) hx hb dX9_appeal_9 (by decide) ?_
    refine lv_goto (tgt := 14) hx hb dX9_appeal_10 (by decide) ?_
    refine m_putT hx hb hts hin hown hK hP hD hS l_thrown dX9_appeal_14 (fun H locs hP hS => ?_)
    refine lv_aload_n hx hb dX9_appeal_17 rfl (lv_at hl 0 rfl) ?_
    refine m_get (v := .int (nI 0)) hx hb hts hin hown hK hP 0 (by decide) l_thrown rfl dX9_appeal_18 ?_
    refine n_if_ne (tgt := 92) hx hb dX9_appeal_21 (by decide) (by decide) (fun c9 => absurd c9 (by decide)) (fun _ => ?_)
    refine lv_aload_n hx hb dX9_appeal_24 rfl (lv_at hl 0 rfl) ?_
    refine m_get hx hb hts hin hown hK hP 26 (by decide) l_state rfl dX9_appeal_25 ?_
    refine lv_iload_n hx hb dX9_appeal_28 rfl (lv_at hl 1 rfl) ?_
    refine m_iald (f := 26) hx hb hK hP 21 rfl (by omega) (by decide) dX9_appeal_29 ?_
    refine lv_iconst (v := nI 2) hx hb dX9_appeal_30 (by decide) ?_
    refine n_icmp_ne (tgt := 77) hx hb dX9_appeal_31 (by decide) (by have f1 : M 26 i1 ≤ 3 := hM 26 i1; omega) (by decide) (fun c_5 => ?_) (fun c_5 => ?_)
    · refine lv_iconst (v := nI 0) hx hb dX9_appeal_77 (by decide) ?_
      refine lv_istore_n (lv' := [(2, .int (nI 0)), (0, .ref (ad 0)), (1, .int (nI i1))]) hx hb dX9_appeal_78 rfl hl (by decide) rfl (fun ls hl => ?_)
      refine lv_aload_n hx hb dX9_appeal_79 rfl (lv_at hl 1 rfl) ?_
      refine lv_iload_n hx hb dX9_appeal_80 rfl (lv_at hl 0 rfl) ?_
      refine n_if_eq (tgt := 88) hx hb dX9_appeal_81 (by decide) (by decide) (fun _ => ?_) (fun c9 => absurd c9 (by decide))
      refine lv_iconst (v := nI 2) hx hb dX9_appeal_88 (by decide) ?_
      refine m_putT hx hb hts hin hown hK hP hD hS l_thrown dX9_appeal_89 (fun H locs hP hS => ?_)
      refine lv_aload_n hx hb dX9_appeal_92 rfl (lv_at hl 1 rfl) ?_
      refine m_get (v := .int (nI 2)) hx hb hts hin hown hK hP 0 (by decide) l_thrown rfl dX9_appeal_93 ?_
      refine n_if_le (tgt := 101) hx hb dX9_appeal_96 (by decide) (by decide) (fun c9 => absurd c9 (by decide)) (fun _ => ?_)
      refine lv_iconst (v := nI 0) hx hb dX9_appeal_99 (by decide) ?_
      have eM_6 : g_appeal M (nI i1) = M := by first | (simp [g_appeal, k_appeal, c_2, ki19, c_5]; done) | (simp [g_appeal, k_appeal, c_2, ki19, c_5]; omega)
      have eT_7 : k_appeal M (nI i1) = 2 := by first | (simp [k_appeal, c_2, ki19, c_5]; done) | (simp [k_appeal, c_2, ki19, c_5]; omega)
      exact W.iret (v := nI 0) hx hb hr (fun U9 ht hW => ⟨⟨_, (), rfl, (show nI 0 = r_appeal M (nI i1) from by first | (simp [r_appeal, g_appeal, k_appeal, c_2, ki19, c_5]; done) | (simp [r_appeal, g_appeal, k_appeal, c_2, ki19, c_5]; omega)), by show va_P D vwCl _ U9.heap; rw [ht, eM_6, eT_7]; exact hP⟩, hS.F ht⟩) hS.2.2 dX9_appeal_100
    · refine lv_aload_n hx hb dX9_appeal_34 rfl (lv_at hl 0 rfl) ?_
      refine m_get hx hb hts hin hown hK hP 28 (by decide) l_isAppealed rfl dX9_appeal_35 ?_
      refine lv_iload_n hx hb dX9_appeal_38 rfl (lv_at hl 1 rfl) ?_
      refine m_zald (f := 28) hx hb hK hP 23 rfl (by omega) (by decide) dX9_appeal_39 ?_
      refine n_if_ne (tgt := 77) hx hb dX9_appeal_40 (by decide) (by have f1 : M 28 i1 ≤ 1 := hM 28 i1; omega) (fun c_8 => ?_) (fun c_8 => ?_)
      · refine lv_iconst (v := nI 0) hx hb dX9_appeal_77 (by decide) ?_
        refine lv_istore_n (lv' := [(2, .int (nI 0)), (0, .ref (ad 0)), (1, .int (nI i1))]) hx hb dX9_appeal_78 rfl hl (by decide) rfl (fun ls hl => ?_)
        refine lv_aload_n hx hb dX9_appeal_79 rfl (lv_at hl 1 rfl) ?_
        refine lv_iload_n hx hb dX9_appeal_80 rfl (lv_at hl 0 rfl) ?_
        refine n_if_eq (tgt := 88) hx hb dX9_appeal_81 (by decide) (by decide) (fun _ => ?_) (fun c9 => absurd c9 (by decide))
        refine lv_iconst (v := nI 2) hx hb dX9_appeal_88 (by decide) ?_
        refine m_putT hx hb hts hin hown hK hP hD hS l_thrown dX9_appeal_89 (fun H locs hP hS => ?_)
        refine lv_aload_n hx hb dX9_appeal_92 rfl (lv_at hl 1 rfl) ?_
        refine m_get (v := .int (nI 2)) hx hb hts hin hown hK hP 0 (by decide) l_thrown rfl dX9_appeal_93 ?_
        refine n_if_le (tgt := 101) hx hb dX9_appeal_96 (by decide) (by decide) (fun c9 => absurd c9 (by decide)) (fun _ => ?_)
        refine lv_iconst (v := nI 0) hx hb dX9_appeal_99 (by decide) ?_
        have eM_9 : g_appeal M (nI i1) = M := by first | (simp [g_appeal, k_appeal, c_2, ki19, c_5, c_8]; done) | (simp [g_appeal, k_appeal, c_2, ki19, c_5, c_8]; omega)
        have eT_10 : k_appeal M (nI i1) = 2 := by first | (simp [k_appeal, c_2, ki19, c_5, c_8]; done) | (simp [k_appeal, c_2, ki19, c_5, c_8]; omega)
        exact W.iret (v := nI 0) hx hb hr (fun U9 ht hW => ⟨⟨_, (), rfl, (show nI 0 = r_appeal M (nI i1) from by first | (simp [r_appeal, g_appeal, k_appeal, c_2, ki19, c_5, c_8]; done) | (simp [r_appeal, g_appeal, k_appeal, c_2, ki19, c_5, c_8]; omega)), by show va_P D vwCl _ U9.heap; rw [ht, eM_9, eT_10]; exact hP⟩, hS.F ht⟩) hS.2.2 dX9_appeal_100
      · refine lv_aload_n hx hb dX9_appeal_43 rfl (lv_at hl 0 rfl) ?_
        refine m_get (v := .int (nI (M 1 0))) hx hb hts hin hown hK hP 1 (by decide) l_today rfl dX9_appeal_44 ?_
        refine lv_aload_n hx hb dX9_appeal_47 rfl (lv_at hl 0 rfl) ?_
        refine m_get hx hb hts hin hown hK hP 27 (by decide) l_dismissed rfl dX9_appeal_48 ?_
        refine lv_iload_n hx hb dX9_appeal_51 rfl (lv_at hl 1 rfl) ?_
        refine m_iald (f := 27) hx hb hK hP 22 rfl (by omega) (by decide) dX9_appeal_52 ?_
        refine lv_isub hx hb dX9_appeal_53 ?_
        refine lv_bipush (v := nI 10) hx hb dX9_appeal_54 (by decide) ?_
        refine lv_icmp_gt (tgt := 77) hx hb dX9_appeal_56 (by decide)  (fun c_11 => ?_) (fun c_11 => ?_)
        · have cc_12 : 10 + M 27 i1 < M 1 0 := (n_lt_sub (by decide) (by omega) (by have f1 : M 27 i1 ≤ 2000 := hM 27 _; omega)).mp c_11
          refine lv_iconst (v := nI 0) hx hb dX9_appeal_77 (by decide) ?_
          refine lv_istore_n (lv' := [(2, .int (nI 0)), (0, .ref (ad 0)), (1, .int (nI i1))]) hx hb dX9_appeal_78 rfl hl (by decide) rfl (fun ls hl => ?_)
          refine lv_aload_n hx hb dX9_appeal_79 rfl (lv_at hl 1 rfl) ?_
          refine lv_iload_n hx hb dX9_appeal_80 rfl (lv_at hl 0 rfl) ?_
          refine n_if_eq (tgt := 88) hx hb dX9_appeal_81 (by decide) (by decide) (fun _ => ?_) (fun c9 => absurd c9 (by decide))
          refine lv_iconst (v := nI 2) hx hb dX9_appeal_88 (by decide) ?_
          refine m_putT hx hb hts hin hown hK hP hD hS l_thrown dX9_appeal_89 (fun H locs hP hS => ?_)
          refine lv_aload_n hx hb dX9_appeal_92 rfl (lv_at hl 1 rfl) ?_
          refine m_get (v := .int (nI 2)) hx hb hts hin hown hK hP 0 (by decide) l_thrown rfl dX9_appeal_93 ?_
          refine n_if_le (tgt := 101) hx hb dX9_appeal_96 (by decide) (by decide) (fun c9 => absurd c9 (by decide)) (fun _ => ?_)
          refine lv_iconst (v := nI 0) hx hb dX9_appeal_99 (by decide) ?_
          have eM_13 : g_appeal M (nI i1) = M := by first | (simp [g_appeal, k_appeal, c_2, ki19, c_5, c_8, cc_12]; done) | (simp [g_appeal, k_appeal, c_2, ki19, c_5, c_8, cc_12]; omega)
          have eT_14 : k_appeal M (nI i1) = 2 := by first | (simp [k_appeal, c_2, ki19, c_5, c_8, cc_12]; done) | (simp [k_appeal, c_2, ki19, c_5, c_8, cc_12]; omega)
          exact W.iret (v := nI 0) hx hb hr (fun U9 ht hW => ⟨⟨_, (), rfl, (show nI 0 = r_appeal M (nI i1) from by first | (simp [r_appeal, g_appeal, k_appeal, c_2, ki19, c_5, c_8, cc_12]; done) | (simp [r_appeal, g_appeal, k_appeal, c_2, ki19, c_5, c_8, cc_12]; omega)), by show va_P D vwCl _ U9.heap; rw [ht, eM_13, eT_14]; exact hP⟩, hS.F ht⟩) hS.2.2 dX9_appeal_100
        · have cc_15 : M 1 0 ≤ 10 + M 27 i1 := Nat.not_lt.mp fun q9 => c_11 ((n_lt_sub (by decide) (by omega) (by have f1 : M 27 i1 ≤ 2000 := hM 27 _; omega)).mpr q9)
          refine lv_aload_n hx hb dX9_appeal_59 rfl (lv_at hl 0 rfl) ?_
          refine m_get hx hb hts hin hown hK hP 20 (by decide) l_isVoid rfl dX9_appeal_60 ?_
          refine lv_aload_n hx hb dX9_appeal_63 rfl (lv_at hl 0 rfl) ?_
          refine m_get hx hb hts hin hown hK hP 23 (by decide) l_about rfl dX9_appeal_64 ?_
          refine lv_iload_n hx hb dX9_appeal_67 rfl (lv_at hl 1 rfl) ?_
          refine m_iald (f := 23) hx hb hK hP 18 rfl (by omega) (by decide) dX9_appeal_68 ?_
          refine m_zald (f := 20) hx hb hK hP 16 rfl (by have f1 : M 23 i1 ≤ 59 := hM 23 i1; omega) (by decide) dX9_appeal_69 ?_
          refine n_if_ne (tgt := 77) hx hb dX9_appeal_70 (by decide) (by have f1 : M 23 i1 ≤ 59 := hM 23 i1; have f2 : M 20 (M 23 i1) ≤ 1 := hM 20 (M 23 i1); omega) (fun c_16 => ?_) (fun c_16 => ?_)
          · refine lv_iconst (v := nI 0) hx hb dX9_appeal_77 (by decide) ?_
            refine lv_istore_n (lv' := [(2, .int (nI 0)), (0, .ref (ad 0)), (1, .int (nI i1))]) hx hb dX9_appeal_78 rfl hl (by decide) rfl (fun ls hl => ?_)
            refine lv_aload_n hx hb dX9_appeal_79 rfl (lv_at hl 1 rfl) ?_
            refine lv_iload_n hx hb dX9_appeal_80 rfl (lv_at hl 0 rfl) ?_
            refine n_if_eq (tgt := 88) hx hb dX9_appeal_81 (by decide) (by decide) (fun _ => ?_) (fun c9 => absurd c9 (by decide))
            refine lv_iconst (v := nI 2) hx hb dX9_appeal_88 (by decide) ?_
            refine m_putT hx hb hts hin hown hK hP hD hS l_thrown dX9_appeal_89 (fun H locs hP hS => ?_)
            refine lv_aload_n hx hb dX9_appeal_92 rfl (lv_at hl 1 rfl) ?_
            refine m_get (v := .int (nI 2)) hx hb hts hin hown hK hP 0 (by decide) l_thrown rfl dX9_appeal_93 ?_
            refine n_if_le (tgt := 101) hx hb dX9_appeal_96 (by decide) (by decide) (fun c9 => absurd c9 (by decide)) (fun _ => ?_)
            refine lv_iconst (v := nI 0) hx hb dX9_appeal_99 (by decide) ?_
            have eM_17 : g_appeal M (nI i1) = M := by first | (simp [g_appeal, k_appeal, c_2, ki19, c_5, c_8, cc_15, c_16]; done) | (simp [g_appeal, k_appeal, c_2, ki19, c_5, c_8, cc_15, c_16]; omega)
            have eT_18 : k_appeal M (nI i1) = 2 := by first | (simp [k_appeal, c_2, ki19, c_5, c_8, cc_15, c_16]; done) | (simp [k_appeal, c_2, ki19, c_5, c_8, cc_15, c_16]; omega)
            exact W.iret (v := nI 0) hx hb hr (fun U9 ht hW => ⟨⟨_, (), rfl, (show nI 0 = r_appeal M (nI i1) from by first | (simp [r_appeal, g_appeal, k_appeal, c_2, ki19, c_5, c_8, cc_15, c_16]; done) | (simp [r_appeal, g_appeal, k_appeal, c_2, ki19, c_5, c_8, cc_15, c_16]; omega)), by show va_P D vwCl _ U9.heap; rw [ht, eM_17, eT_18]; exact hP⟩, hS.F ht⟩) hS.2.2 dX9_appeal_100
          · refine lv_iconst (v := nI 1) hx hb dX9_appeal_73 (by decide) ?_
            refine lv_goto (tgt := 78) hx hb dX9_appeal_74 (by decide) ?_
            refine lv_istore_n (lv' := [(2, .int (nI 1)), (0, .ref (ad 0)), (1, .int (nI i1))]) hx hb dX9_appeal_78 rfl hl (by decide) rfl (fun ls hl => ?_)
            refine lv_aload_n hx hb dX9_appeal_79 rfl (lv_at hl 1 rfl) ?_
            refine lv_iload_n hx hb dX9_appeal_80 rfl (lv_at hl 0 rfl) ?_
            refine n_if_eq (tgt := 88) hx hb dX9_appeal_81 (by decide) (by decide) (fun c9 => absurd c9 (by decide)) (fun _ => ?_)
            refine lv_iconst (v := nI 0) hx hb dX9_appeal_84 (by decide) ?_
            refine lv_goto (tgt := 89) hx hb dX9_appeal_85 (by decide) ?_
            refine m_putT hx hb hts hin hown hK hP hD hS l_thrown dX9_appeal_89 (fun H locs hP hS => ?_)
            refine lv_aload_n hx hb dX9_appeal_92 rfl (lv_at hl 1 rfl) ?_
            refine m_get (v := .int (nI 0)) hx hb hts hin hown hK hP 0 (by decide) l_thrown rfl dX9_appeal_93 ?_
            refine n_if_le (tgt := 101) hx hb dX9_appeal_96 (by decide) (by decide) (fun _ => ?_) (fun c9 => absurd c9 (by decide))
            refine lv_aload_n hx hb dX9_appeal_101 rfl (lv_at hl 1 rfl) ?_
            refine m_get hx hb hts hin hown hK hP 26 (by decide) l_state rfl dX9_appeal_102 ?_
            refine lv_iload_n hx hb dX9_appeal_105 rfl (lv_at hl 2 rfl) ?_
            refine lv_iconst (v := nI 0) hx hb dX9_appeal_106 (by decide) ?_
            refine m_iast (f := 26) (v := 0) hx hb hK hP hD hS 21 rfl (by omega) (by decide) (mset_26 _ _ _ _ _ _ _ _) dX9_appeal_107 (fun H locs hP hS => ?_)
            refine lv_aload_n hx hb dX9_appeal_108 rfl (lv_at hl 1 rfl) ?_
            refine m_get hx hb hts hin hown hK hP 28 (by decide) l_isAppealed rfl dX9_appeal_109 ?_
            refine lv_iload_n hx hb dX9_appeal_112 rfl (lv_at hl 2 rfl) ?_
            refine lv_iconst (v := nI 1) hx hb dX9_appeal_113 (by decide) ?_
            refine m_zast (f := 28) (v := 1) hx hb hK hP hD hS 23 rfl (by omega) (by decide) (by decide) (mset_28 _ _ _ _ _ _ _ _) dX9_appeal_114 (fun H locs hP hS => ?_)
            refine lv_aload_n hx hb dX9_appeal_115 rfl (lv_at hl 1 rfl) ?_
            refine lv_aload_n hx hb dX9_appeal_116 rfl (lv_at hl 1 rfl) ?_
            refine m_get hx hb hts hin hown hK hP 23 (by decide) l_about rfl dX9_appeal_117 ?_
            refine lv_iload_n hx hb dX9_appeal_120 rfl (lv_at hl 2 rfl) ?_
            refine m_iald (f := 23) hx hb hK hP 18 rfl (by omega) (by decide) dX9_appeal_121 ?_
            rw [show (mu (mu M 26 i1 0) 28 i1 1) 23 i1 = M 23 i1 from rfl]
            refine vp_callSi (W.runV (As := [.int (nI (M 23 i1))]) (rest := []) ⟨hx, hb, hml, hown, hts⟩ (c9_openOnes l D ad cI cZ cC 0 (mu (mu M 26 i1 0) 28 i1 1) (MI_mu (MI_mu hM (by show 0 ≤ 3; omega)) (by show 1 ≤ 1; omega))  (M 23 i1) (by have f1 : M 23 i1 ≤ 59 := hM 23 i1; omega)) (cwV 1 hts gX9_appeal_X9_openOnes rfl rfl rfl kd_X9_openOnes ⟨Nat.le_of_ble_eq_true rfl, Nat.le_of_ble_eq_true rfl⟩) ⟨mB_blind, m_recv hK hP, m_pre hK hP _⟩ rfl rfl hl.1 rfl (lv_room (Nat.le_of_ble_eq_true rfl)) dX9_appeal_122 ⟨Nat.le_of_ble_eq_true rfl, Nat.le_of_ble_eq_true rfl⟩) (fun r_19 hr_19 => ?_)
            subst hr_19
            have eM_20 : g_appeal M (nI i1) = mu (mu M 26 i1 0) 28 i1 1 := by first | (simp [g_appeal, k_appeal, c_2, ki19, c_5, c_8, cc_15, c_16]; done) | (simp [g_appeal, k_appeal, c_2, ki19, c_5, c_8, cc_15, c_16]; omega)
            have eT_21 : k_appeal M (nI i1) = 0 := by first | (simp [k_appeal, c_2, ki19, c_5, c_8, cc_15, c_16]; done) | (simp [k_appeal, c_2, ki19, c_5, c_8, cc_15, c_16]; omega)
            exact W.iret (v := nI (m_oo (mu (mu M 26 i1 0) 28 i1 1) (M 23 i1))) hx hb hr (fun U9 ht hW => ⟨⟨_, (), rfl, (show nI (m_oo (mu (mu M 26 i1 0) 28 i1 1) (M 23 i1)) = r_appeal M (nI i1) from by first | (simp [r_appeal, g_appeal, k_appeal, c_2, ki19, c_5, c_8, cc_15, c_16]; done) | (simp [r_appeal, g_appeal, k_appeal, c_2, ki19, c_5, c_8, cc_15, c_16]; omega)), by show va_P D vwCl _ U9.heap; rw [ht, eM_20, eT_21]; exact hP⟩, hS.F ht⟩) hS.2.2 dX9_appeal_125
set_option maxHeartbeats 4000000 in
set_option maxRecDepth 100000 in
theorem c9_stateOf (l : Launch) (D : va_G) (ad : Nat → Nat) (cI cZ cC : ClassId) (th : Nat) (M : MS) (hM : MI M) {A : Nat → Prop} (hD : mDis A ad) (i : Int32) : Met l yX9_stateOf wsX9_stateOf ({ frames := 2, cells := 0, slots := 0, locals := 43 }) (va_Pc [.ref (ad 0), .int i] (mB D ad cI cZ cC th M)) (va_Qi (fun (r : Int32) (_ : Unit) => r = r_stateOf M i) (fun _ U9 => va_P D vwCl (mws ad cI cZ cC (k_co M i) M) U9.heap) A) 0 0 A := by
  refine Met.ofW (cc := cX9_stateOf) (maxL := 2) (ret := (some .int)) (by decide) rfl ?_
  intro p e s m args below meth c s₁ B hml hv
  obtain ⟨rfl, hP, hK⟩ := hv
  have hx := B.exec
  have hb := B.bytes
  have hr := B.returns
  have hts := atoms_spec (ws := wsX9_stateOf) B.pre
  have hown : s.vm.findClass RX9 = some m.cls := findClass_of_methodNamed B.named
  have hlocks := B.notSynchronized
  have hin : ∀ w ∈ wsX90, w ∈ wsX9_stateOf := fun w h => List.mem_cons_of_mem _ (List.mem_append_right _ h)
  have l_thrown := (hts (.fieldLink RX9 93 "TenderHallModel" "thrown" "I") (List.mem_of_getElem? (i := 1) rfl))
  have l_state := (hts (.fieldLink RX9 71 "TenderHallModel" "state" "[I") (List.mem_of_getElem? (i := 2) rfl))
  have hS : va_S A s.heap s.heap [] := va_S.rf
  have hl := lv_entry ([.ref (ad 0), .int i]) (n := 2) (Nat.le_of_ble_eq_true rfl)
  rw [lg_entry_eq]
  generalize (lg_sl ([.ref (ad 0), .int i]) ++ List.replicate (2 - (lg_sl ([.ref (ad 0), .int i])).length) Slot.unset).toArray = ls at hl ⊢
  have hl : lv_has ls 2 [(0, .ref (ad 0)), (1, .int i)] := hl
  have h36 : M 3 0 ≤ 6 := hM 3 0
  have h160 : M 16 0 ≤ 60 := hM 16 0
  have h220 : M 22 0 ≤ 60 := hM 22 0
  have h290 : M 29 0 ≤ 60 := hM 29 0
  have h120 : M 1 0 ≤ 2000 := hM 1 0
  refine lv_aload_n hx hb dX9_stateOf_0 rfl (lv_at hl 0 rfl) ?_
  refine lv_aload_n hx hb dX9_stateOf_1 rfl (lv_at hl 0 rfl) ?_
  refine lv_iload_n hx hb dX9_stateOf_2 rfl (lv_at hl 1 rfl) ?_
  refine vp_callSi (W.runV (As := [.int i]) (rest := [.ref (ad 0)]) ⟨hx, hb, hml, hown, hts⟩ (c9_isComplaint l D ad cI cZ cC th M hM  i) (cwV 1 hts gX9_stateOf_X9_isComplaint rfl rfl rfl kd_X9_isComplaint ⟨Nat.le_of_ble_eq_true rfl, Nat.le_of_ble_eq_true rfl⟩) ⟨mB_blind, m_recv hK hP, m_pre hK hP _⟩ rfl rfl hl.1 rfl (lv_room (Nat.le_of_ble_eq_true rfl)) dX9_stateOf_3 ⟨Nat.le_of_ble_eq_true rfl, Nat.le_of_ble_eq_true rfl⟩) (fun r_1 hr_1 => ?_)
  subst hr_1
  refine b_if_eq (tgt := 13) hx hb dX9_stateOf_6 (by decide)  (fun c_2 => ?_) (fun c_2 => ?_)
  · refine lv_iconst (v := nI 1) hx hb dX9_stateOf_13 (by decide) ?_
    refine m_putT hx hb hts hin hown hK hP hD hS l_thrown dX9_stateOf_14 (fun H locs hP hS => ?_)
    refine lv_aload_n hx hb dX9_stateOf_17 rfl (lv_at hl 0 rfl) ?_
    refine m_get (v := .int (nI 1)) hx hb hts hin hown hK hP 0 (by decide) l_thrown rfl dX9_stateOf_18 ?_
    refine n_if_le (tgt := 28) hx hb dX9_stateOf_21 (by decide) (by decide) (fun c9 => absurd c9 (by decide)) (fun _ => ?_)
    refine lv_iconst (v := nI 0) hx hb dX9_stateOf_24 (by decide) ?_
    refine lv_goto (tgt := 34) hx hb dX9_stateOf_25 (by decide) ?_
    have eT_3 : k_co M i = 1 := by simp [k_co, c_2]
    exact W.iret (v := nI 0) hx hb hr (fun U9 ht hW => ⟨⟨_, (), rfl, (show nI 0 = r_stateOf M i from by simp [r_stateOf, k_co, c_2]), by show va_P D vwCl _ U9.heap; rw [ht, eT_3]; exact hP⟩, hS.F ht⟩) hS.2.2 dX9_stateOf_34
  · obtain ⟨i1, hi1, rfl⟩ := isIx_of (by omega) c_2
    have ki19 : (nI i1).toNatClampNeg = i1 := nI_clamp (by omega)
    refine lv_iconst (v := nI 0) hx hb dX9_stateOf_9 (by decide) ?_
    refine lv_goto (tgt := 14) hx hb dX9_stateOf_10 (by decide) ?_
    refine m_putT hx hb hts hin hown hK hP hD hS l_thrown dX9_stateOf_14 (fun H locs hP hS => ?_)
    refine lv_aload_n hx hb dX9_stateOf_17 rfl (lv_at hl 0 rfl) ?_
    refine m_get (v := .int (nI 0)) hx hb hts hin hown hK hP 0 (by decide) l_thrown rfl dX9_stateOf_18 ?_
    refine n_if_le (tgt := 28) hx hb dX9_stateOf_21 (by decide) (by decide) (fun _ => ?_) (fun c9 => absurd c9 (by decide))
    refine lv_aload_n hx hb dX9_stateOf_28 rfl (lv_at hl 0 rfl) ?_
    refine m_get hx hb hts hin hown hK hP 26 (by decide) l_state rfl dX9_stateOf_29 ?_
    refine lv_iload_n hx hb dX9_stateOf_32 rfl (lv_at hl 1 rfl) ?_
    refine m_iald (f := 26) hx hb hK hP 21 rfl (by omega) (by decide) dX9_stateOf_33 ?_
    have eT_4 : k_co M (nI i1) = 0 := by simp [k_co, c_2, ki19]
    exact W.iret (v := nI (M 26 i1)) hx hb hr (fun U9 ht hW => ⟨⟨_, (), rfl, (show nI (M 26 i1) = r_stateOf M (nI i1) from by simp [r_stateOf, k_co, c_2, ki19]), by show va_P D vwCl _ U9.heap; rw [ht, eT_4]; exact hP⟩, hS.F ht⟩) hS.2.2 dX9_stateOf_34
set_option maxHeartbeats 4000000 in
set_option maxRecDepth 100000 in
theorem c9_sign (l : Launch) (D : va_G) (ad : Nat → Nat) (cI cZ cC : ClassId) (th : Nat) (M : MS) (hM : MI M) {A : Nat → Prop} (hD : mDis A ad) (a : Int32) (hs9 : ∀ a, a < M 16 0 → M 21 a = 0 → M 29 0 < 60) : Met l yX9_sign wsX9_sign ({ frames := 2, cells := 0, slots := 0, locals := 44 }) (va_Pc [.ref (ad 0), .int a] (mB D ad cI cZ cC th M)) (va_Qi (fun (r : Int32) (_ : Unit) => r = r_sign M a) (fun _ U9 => va_P D vwCl (mws ad cI cZ cC (k_sign M a) (g_sign M a)) U9.heap) A) 0 0 A := by
  refine Met.ofW (cc := cX9_sign) (maxL := 2) (ret := (some .int)) (by decide) rfl ?_
  intro p e s m args below meth c s₁ B hml hv
  obtain ⟨rfl, hP, hK⟩ := hv
  have hx := B.exec
  have hb := B.bytes
  have hr := B.returns
  have hts := atoms_spec (ws := wsX9_sign) B.pre
  have hown : s.vm.findClass RX9 = some m.cls := findClass_of_methodNamed B.named
  have hlocks := B.notSynchronized
  have hin : ∀ w ∈ wsX90, w ∈ wsX9_sign := fun w h => List.mem_cons_of_mem _ (List.mem_append_right _ h)
  have l_awards := (hts (.fieldLink RX9 157 "TenderHallModel" "awards" "I") (List.mem_of_getElem? (i := 1) rfl))
  have l_thrown := (hts (.fieldLink RX9 93 "TenderHallModel" "thrown" "I") (List.mem_of_getElem? (i := 3) rfl))
  have l_signed := (hts (.fieldLink RX9 59 "TenderHallModel" "signed" "[I") (List.mem_of_getElem? (i := 2) rfl))
  have l_awardOf := (hts (.fieldLink RX9 80 "TenderHallModel" "awardOf" "[I") (List.mem_of_getElem? (i := 4) rfl))
  have l_contracts := (hts (.fieldLink RX9 198 "TenderHallModel" "contracts" "I") (List.mem_of_getElem? (i := 5) rfl))
  have hS : va_S A s.heap s.heap [] := va_S.rf
  have hl := lv_entry ([.ref (ad 0), .int a]) (n := 2) (Nat.le_of_ble_eq_true rfl)
  rw [lg_entry_eq]
  generalize (lg_sl ([.ref (ad 0), .int a]) ++ List.replicate (2 - (lg_sl ([.ref (ad 0), .int a])).length) Slot.unset).toArray = ls at hl ⊢
  have hl : lv_has ls 2 [(0, .ref (ad 0)), (1, .int a)] := hl
  have h36 : M 3 0 ≤ 6 := hM 3 0
  have h160 : M 16 0 ≤ 60 := hM 16 0
  have h220 : M 22 0 ≤ 60 := hM 22 0
  have h290 : M 29 0 ≤ 60 := hM 29 0
  have h120 : M 1 0 ≤ 2000 := hM 1 0
  refine lv_aload_n hx hb dX9_sign_0 rfl (lv_at hl 0 rfl) ?_
  refine lv_iload_n hx hb dX9_sign_1 rfl (lv_at hl 1 rfl) ?_
  refine lv_iconst (v := nI 0) hx hb dX9_sign_2 (by decide) ?_
  refine lv_aload_n hx hb dX9_sign_3 rfl (lv_at hl 0 rfl) ?_
  refine m_get (v := .int (nI (M 16 0))) hx hb hts hin hown hK hP 16 (by decide) l_awards rfl dX9_sign_4 ?_
  refine lv_iconst (v := nI 1) hx hb dX9_sign_7 (by decide) ?_
  refine lv_isub hx hb dX9_sign_8 ?_
  refine vp_callSi (W.runS (As := [.int a, .int (nI 0), .int ((nI (M 16 0)) - (nI 1))]) (rest := [.ref (ad 0)]) ⟨hx, hb, hml, hown, hts⟩ (c9_in l  a (nI 0) ((nI (M 16 0)) - (nI 1))) (va_cwS 3 hts gX9_sign_X9_in rfl rfl rfl kd_X9_in ⟨Nat.le_of_ble_eq_true rfl, Nat.le_of_ble_eq_true rfl⟩) ⟨fun _ _ _ _ q => q, fun U hU hW => ⟨rfl, trivial⟩⟩ rfl rfl hl.1 rfl (lv_room (Nat.le_of_ble_eq_true rfl)) dX9_sign_9 ⟨Nat.le_of_ble_eq_true rfl, Nat.le_of_ble_eq_true rfl⟩) (fun r_1 hr_1 => ?_)
  subst hr_1
  refine b_if_ne (tgt := 19) hx hb dX9_sign_12 (by decide)  (fun c_2 => ?_) (fun c_2 => ?_)
  · have cc_3 : isIx a (M 16 0) = true := c_2
    obtain ⟨a1, ha1, rfl⟩ := isIx_of (by omega) cc_3
    have ka19 : (nI a1).toNatClampNeg = a1 := nI_clamp (by omega)
    refine lv_aload_n hx hb dX9_sign_19 rfl (lv_at hl 0 rfl) ?_
    refine lv_iload_n hx hb dX9_sign_20 rfl (lv_at hl 1 rfl) ?_
    refine vp_callSi (W.runV (As := [.int (nI a1)]) (rest := [.ref (ad 0)]) ⟨hx, hb, hml, hown, hts⟩ (c9_isFinalNow l D ad cI cZ cC th M hM  a1 (by omega)) (cwV 1 hts gX9_sign_X9_isFinalNow rfl rfl rfl kd_X9_isFinalNow ⟨Nat.le_of_ble_eq_true rfl, Nat.le_of_ble_eq_true rfl⟩) ⟨mB_blind, m_recv hK hP, m_pre hK hP _⟩ rfl rfl hl.1 rfl (lv_room (Nat.le_of_ble_eq_true rfl)) dX9_sign_21 ⟨Nat.le_of_ble_eq_true rfl, Nat.le_of_ble_eq_true rfl⟩) (fun r_4 hr_4 => ?_)
    subst hr_4
    refine b_if_eq (tgt := 36) hx hb dX9_sign_24 (by decide)  (fun c_5 => ?_) (fun c_5 => ?_)
    · refine lv_iconst (v := nI 2) hx hb dX9_sign_36 (by decide) ?_
      refine lv_goto (tgt := 41) hx hb dX9_sign_37 (by decide) ?_
      refine m_putT hx hb hts hin hown hK hP hD hS l_thrown dX9_sign_41 (fun H locs hP hS => ?_)
      refine lv_aload_n hx hb dX9_sign_44 rfl (lv_at hl 0 rfl) ?_
      refine m_get (v := .int (nI 2)) hx hb hts hin hown hK hP 0 (by decide) l_thrown rfl dX9_sign_45 ?_
      refine n_if_le (tgt := 53) hx hb dX9_sign_48 (by decide) (by decide) (fun c9 => absurd c9 (by decide)) (fun _ => ?_)
      refine lv_iconst (v := nI 0) hx hb dX9_sign_51 (by decide) ?_
      have eM_6 : g_sign M (nI a1) = M := by first | (simp [g_sign, k_sign, cc_3, ka19, c_5]; done) | (simp [g_sign, k_sign, cc_3, ka19, c_5]; omega)
      have eT_7 : k_sign M (nI a1) = 2 := by first | (simp [k_sign, cc_3, ka19, c_5]; done) | (simp [k_sign, cc_3, ka19, c_5]; omega)
      exact W.iret (v := nI 0) hx hb hr (fun U9 ht hW => ⟨⟨_, (), rfl, (show nI 0 = r_sign M (nI a1) from by first | (simp [r_sign, k_sign, cc_3, ka19, c_5]; done) | (simp [r_sign, k_sign, cc_3, ka19, c_5]; omega)), by show va_P D vwCl _ U9.heap; rw [ht, eM_6, eT_7]; exact hP⟩, hS.F ht⟩) hS.2.2 dX9_sign_52
    · refine lv_aload_n hx hb dX9_sign_27 rfl (lv_at hl 0 rfl) ?_
      refine m_get hx hb hts hin hown hK hP 21 (by decide) l_signed rfl dX9_sign_28 ?_
      refine lv_iload_n hx hb dX9_sign_31 rfl (lv_at hl 1 rfl) ?_
      refine m_iald (f := 21) hx hb hK hP 17 rfl (by omega) (by decide) dX9_sign_32 ?_
      refine n_if_le (tgt := 40) hx hb dX9_sign_33 (by decide) (by have f1 : M 21 a1 ≤ 60 := hM 21 a1; omega) (fun c_8 => ?_) (fun c_8 => ?_)
      · have h29 : M 29 0 < 60 := hs9 a1 ha1 c_8
        refine lv_iconst (v := nI 0) hx hb dX9_sign_40 (by decide) ?_
        refine m_putT hx hb hts hin hown hK hP hD hS l_thrown dX9_sign_41 (fun H locs hP hS => ?_)
        refine lv_aload_n hx hb dX9_sign_44 rfl (lv_at hl 0 rfl) ?_
        refine m_get (v := .int (nI 0)) hx hb hts hin hown hK hP 0 (by decide) l_thrown rfl dX9_sign_45 ?_
        refine n_if_le (tgt := 53) hx hb dX9_sign_48 (by decide) (by decide) (fun _ => ?_) (fun c9 => absurd c9 (by decide))
        refine lv_aload_n hx hb dX9_sign_53 rfl (lv_at hl 0 rfl) ?_
        refine m_get hx hb hts hin hown hK hP 30 (by decide) l_awardOf rfl dX9_sign_54 ?_
        refine lv_aload_n hx hb dX9_sign_57 rfl (lv_at hl 0 rfl) ?_
        refine m_get (v := .int (nI (M 29 0))) hx hb hts hin hown hK hP 29 (by decide) l_contracts rfl dX9_sign_58 ?_
        refine lv_iload_n hx hb dX9_sign_61 rfl (lv_at hl 1 rfl) ?_
        refine m_iast (f := 30) (v := a1) hx hb hK hP hD hS 24 rfl (by have f1 : M 29 0 ≤ 60 := hM 29 0; omega) (by decide) (mset_30 _ _ _ _ _ _ _ _) dX9_sign_62 (fun H locs hP hS => ?_)
        refine lv_aload_n hx hb dX9_sign_63 rfl (lv_at hl 0 rfl) ?_
        refine lv_dup hx hb dX9_sign_64 rfl ?_
        refine m_get (v := .int (nI (M 29 0))) hx hb hts hin hown hK hP 29 (by decide) l_contracts rfl dX9_sign_65 ?_
        refine lv_iconst (v := nI 1) hx hb dX9_sign_68 (by decide) ?_
        refine n_iadd hx hb dX9_sign_69 (z := (M 29 0) + 1) rfl ?_
        refine m_put hx hb hts hin hown hK hP hD hS 29 (by decide) l_contracts rfl rfl (mset_29 _ _ _ _ _ _ _) dX9_sign_70 (fun H locs hP hS => ?_)
        refine lv_aload_n hx hb dX9_sign_73 rfl (lv_at hl 0 rfl) ?_
        refine m_get hx hb hts hin hown hK hP 21 (by decide) l_signed rfl dX9_sign_74 ?_
        refine lv_iload_n hx hb dX9_sign_77 rfl (lv_at hl 1 rfl) ?_
        refine lv_aload_n hx hb dX9_sign_78 rfl (lv_at hl 0 rfl) ?_
        refine m_get (v := .int (nI ((M 29 0) + 1))) hx hb hts hin hown hK hP 29 (by decide) l_contracts rfl dX9_sign_79 ?_
        refine m_iast (f := 21) (v := (M 29 0) + 1) hx hb hK hP hD hS 17 rfl (by omega) (by decide) (mset_21 _ _ _ _ _ _ _ _) dX9_sign_82 (fun H locs hP hS => ?_)
        refine lv_aload_n hx hb dX9_sign_83 rfl (lv_at hl 0 rfl) ?_
        refine m_get (v := .int (nI ((M 29 0) + 1))) hx hb hts hin hown hK hP 29 (by decide) l_contracts rfl dX9_sign_84 ?_
        refine lv_iconst (v := nI 1) hx hb dX9_sign_87 (by decide) ?_
        refine n_isub hx hb dX9_sign_88 (z := ((M 29 0) + 1) - 1) (by have f1 : M 29 0 ≤ 60 := hM 29 0; omega) rfl ?_
        have eM_9 : g_sign M (nI a1) = mu (mu (mu M 30 (M 29 0) a1) 29 0 ((M 29 0) + 1)) 21 a1 ((M 29 0) + 1) := by first | (simp [g_sign, k_sign, cc_3, ka19, c_5, c_8]; done) | (simp [g_sign, k_sign, cc_3, ka19, c_5, c_8]; omega)
        have eT_10 : k_sign M (nI a1) = 0 := by first | (simp [k_sign, cc_3, ka19, c_5, c_8]; done) | (simp [k_sign, cc_3, ka19, c_5, c_8]; omega)
        exact W.iret (v := nI (((M 29 0) + 1) - 1)) hx hb hr (fun U9 ht hW => ⟨⟨_, (), rfl, (show nI (((M 29 0) + 1) - 1) = r_sign M (nI a1) from by first | (simp [r_sign, k_sign, cc_3, ka19, c_5, c_8]; done) | (simp [r_sign, k_sign, cc_3, ka19, c_5, c_8]; omega)), by show va_P D vwCl _ U9.heap; rw [ht, eM_9, eT_10]; exact hP⟩, hS.F ht⟩) hS.2.2 dX9_sign_89
      · refine lv_iconst (v := nI 2) hx hb dX9_sign_36 (by decide) ?_
        refine lv_goto (tgt := 41) hx hb dX9_sign_37 (by decide) ?_
        refine m_putT hx hb hts hin hown hK hP hD hS l_thrown dX9_sign_41 (fun H locs hP hS => ?_)
        refine lv_aload_n hx hb dX9_sign_44 rfl (lv_at hl 0 rfl) ?_
        refine m_get (v := .int (nI 2)) hx hb hts hin hown hK hP 0 (by decide) l_thrown rfl dX9_sign_45 ?_
        refine n_if_le (tgt := 53) hx hb dX9_sign_48 (by decide) (by decide) (fun c9 => absurd c9 (by decide)) (fun _ => ?_)
        refine lv_iconst (v := nI 0) hx hb dX9_sign_51 (by decide) ?_
        have eM_11 : g_sign M (nI a1) = M := by first | (simp [g_sign, k_sign, cc_3, ka19, c_5, c_8]; done) | (simp [g_sign, k_sign, cc_3, ka19, c_5, c_8]; omega)
        have eT_12 : k_sign M (nI a1) = 2 := by first | (simp [k_sign, cc_3, ka19, c_5, c_8]; done) | (simp [k_sign, cc_3, ka19, c_5, c_8]; omega)
        exact W.iret (v := nI 0) hx hb hr (fun U9 ht hW => ⟨⟨_, (), rfl, (show nI 0 = r_sign M (nI a1) from by first | (simp [r_sign, k_sign, cc_3, ka19, c_5, c_8]; done) | (simp [r_sign, k_sign, cc_3, ka19, c_5, c_8]; omega)), by show va_P D vwCl _ U9.heap; rw [ht, eM_11, eT_12]; exact hP⟩, hS.F ht⟩) hS.2.2 dX9_sign_52
  · have cc_13 : isIx a (M 16 0) = false := c_2
    refine lv_iconst (v := nI 1) hx hb dX9_sign_15 (by decide) ?_
    refine lv_goto (tgt := 41) hx hb dX9_sign_16 (by decide) ?_
    refine m_putT hx hb hts hin hown hK hP hD hS l_thrown dX9_sign_41 (fun H locs hP hS => ?_)
    refine lv_aload_n hx hb dX9_sign_44 rfl (lv_at hl 0 rfl) ?_
    refine m_get (v := .int (nI 1)) hx hb hts hin hown hK hP 0 (by decide) l_thrown rfl dX9_sign_45 ?_
    refine n_if_le (tgt := 53) hx hb dX9_sign_48 (by decide) (by decide) (fun c9 => absurd c9 (by decide)) (fun _ => ?_)
    refine lv_iconst (v := nI 0) hx hb dX9_sign_51 (by decide) ?_
    have eM_14 : g_sign M a = M := by first | (simp [g_sign, k_sign, cc_13]; done) | (simp [g_sign, k_sign, cc_13]; omega)
    have eT_15 : k_sign M a = 1 := by first | (simp [k_sign, cc_13]; done) | (simp [k_sign, cc_13]; omega)
    exact W.iret (v := nI 0) hx hb hr (fun U9 ht hW => ⟨⟨_, (), rfl, (show nI 0 = r_sign M a from by first | (simp [r_sign, k_sign, cc_13]; done) | (simp [r_sign, k_sign, cc_13]; omega)), by show va_P D vwCl _ U9.heap; rw [ht, eM_14, eT_15]; exact hP⟩, hS.F ht⟩) hS.2.2 dX9_sign_52
set_option maxHeartbeats 4000000 in
set_option maxRecDepth 100000 in
theorem c9_call (l : Launch) (D : va_G) (ad : Nat → Nat) (cI cZ cC : ClassId) (th : Nat) (M : MS) (hM : MI M) {A : Nat → Prop} (hD : mDis A ad) (i : Int32) (q : Int32) : Met l yX9_call wsX9_call ({ frames := 2, cells := 0, slots := 0, locals := 44 }) (va_Pc [.ref (ad 0), .int i, .int q] (mB D ad cI cZ cC th M)) (va_Qi (fun (r : Int32) (_ : Unit) => r = r_call M i q) (fun _ U9 => va_P D vwCl (mws ad cI cZ cC (k_call M i q) (g_call M i q)) U9.heap) A) 0 0 A := by
  refine Met.ofW (cc := cX9_call) (maxL := 3) (ret := (some .int)) (by decide) rfl ?_
  intro p e s m args below meth c s₁ B hml hv
  obtain ⟨rfl, hP, hK⟩ := hv
  have hx := B.exec
  have hb := B.bytes
  have hr := B.returns
  have hts := atoms_spec (ws := wsX9_call) B.pre
  have hown : s.vm.findClass RX9 = some m.cls := findClass_of_methodNamed B.named
  have hlocks := B.notSynchronized
  have hin : ∀ w ∈ wsX90, w ∈ wsX9_call := fun w h => List.mem_cons_of_mem _ (List.mem_append_right _ h)
  have l_thrown := (hts (.fieldLink RX9 93 "TenderHallModel" "thrown" "I") (List.mem_of_getElem? (i := 3) rfl))
  have l_called := (hts (.fieldLink RX9 83 "TenderHallModel" "called" "[I") (List.mem_of_getElem? (i := 2) rfl))
  have hS : va_S A s.heap s.heap [] := va_S.rf
  have hl := lv_entry ([.ref (ad 0), .int i, .int q]) (n := 3) (Nat.le_of_ble_eq_true rfl)
  rw [lg_entry_eq]
  generalize (lg_sl ([.ref (ad 0), .int i, .int q]) ++ List.replicate (3 - (lg_sl ([.ref (ad 0), .int i, .int q])).length) Slot.unset).toArray = ls at hl ⊢
  have hl : lv_has ls 3 [(0, .ref (ad 0)), (1, .int i), (2, .int q)] := hl
  have h36 : M 3 0 ≤ 6 := hM 3 0
  have h160 : M 16 0 ≤ 60 := hM 16 0
  have h220 : M 22 0 ≤ 60 := hM 22 0
  have h290 : M 29 0 ≤ 60 := hM 29 0
  have h120 : M 1 0 ≤ 2000 := hM 1 0
  refine lv_aload_n hx hb dX9_call_0 rfl (lv_at hl 0 rfl) ?_
  refine lv_aload_n hx hb dX9_call_1 rfl (lv_at hl 0 rfl) ?_
  refine lv_iload_n hx hb dX9_call_2 rfl (lv_at hl 1 rfl) ?_
  refine vp_callSi (W.runV (As := [.int i]) (rest := [.ref (ad 0)]) ⟨hx, hb, hml, hown, hts⟩ (c9_isContract l D ad cI cZ cC th M hM  i) (cwV 1 hts gX9_call_X9_isContract rfl rfl rfl kd_X9_isContract ⟨Nat.le_of_ble_eq_true rfl, Nat.le_of_ble_eq_true rfl⟩) ⟨mB_blind, m_recv hK hP, m_pre hK hP _⟩ rfl rfl hl.1 rfl (lv_room (Nat.le_of_ble_eq_true rfl)) dX9_call_3 ⟨Nat.le_of_ble_eq_true rfl, Nat.le_of_ble_eq_true rfl⟩) (fun r_1 hr_1 => ?_)
  subst hr_1
  refine b_if_ne (tgt := 13) hx hb dX9_call_6 (by decide)  (fun c_2 => ?_) (fun c_2 => ?_)
  · obtain ⟨i1, hi1, rfl⟩ := isIx_of (by omega) c_2
    have ki19 : (nI i1).toNatClampNeg = i1 := nI_clamp (by omega)
    refine lv_iload_n hx hb dX9_call_13 rfl (lv_at hl 2 rfl) ?_
    refine lv_iconst (v := nI 1) hx hb dX9_call_14 (by decide) ?_
    refine lv_ldc (v := nI 100000) hx hb hown (hts (.constant RX9 117 (100000)) (List.mem_of_getElem? (i := 1) rfl)) dX9_call_15 ?_
    refine vp_callSi (W.runS (As := [.int q, .int (nI 1), .int (nI 100000)]) (rest := [.ref (ad 0)]) ⟨hx, hb, hml, hown, hts⟩ (c9_in l  q (nI 1) (nI 100000)) (va_cwS 3 hts gX9_call_X9_in rfl rfl rfl kd_X9_in ⟨Nat.le_of_ble_eq_true rfl, Nat.le_of_ble_eq_true rfl⟩) ⟨fun _ _ _ _ q => q, fun U hU hW => ⟨rfl, trivial⟩⟩ rfl rfl hl.1 rfl (lv_room (Nat.le_of_ble_eq_true rfl)) dX9_call_17 ⟨Nat.le_of_ble_eq_true rfl, Nat.le_of_ble_eq_true rfl⟩) (fun r_3 hr_3 => ?_)
    subst hr_3
    refine b_if_ne (tgt := 27) hx hb dX9_call_20 (by decide)  (fun c_4 => ?_) (fun c_4 => ?_)
    · obtain ⟨q1, hq1, hq19, rfl⟩ := i_in_of (a := 1) (b := 100000) (by omega) c_4
      have kq19 : (nI q1).toNatClampNeg = q1 := nI_clamp (by omega)
      refine lv_aload_n hx hb dX9_call_27 rfl (lv_at hl 0 rfl) ?_
      refine lv_iload_n hx hb dX9_call_28 rfl (lv_at hl 1 rfl) ?_
      refine vp_callSi (W.runV (As := [.int (nI i1)]) (rest := [.ref (ad 0)]) ⟨hx, hb, hml, hown, hts⟩ (c9_runs l D ad cI cZ cC th M hM  i1 (by omega)) (cwV 1 hts gX9_call_X9_runs rfl rfl rfl kd_X9_runs ⟨Nat.le_of_ble_eq_true rfl, Nat.le_of_ble_eq_true rfl⟩) ⟨mB_blind, m_recv hK hP, m_pre hK hP _⟩ rfl rfl hl.1 rfl (lv_room (Nat.le_of_ble_eq_true rfl)) dX9_call_29 ⟨Nat.le_of_ble_eq_true rfl, Nat.le_of_ble_eq_true rfl⟩) (fun r_5 hr_5 => ?_)
      subst hr_5
      refine lv_iconst (v := nI 2) hx hb dX9_call_32 (by decide) ?_
      refine n_icmp_lt (tgt := 52) hx hb dX9_call_33 (by decide) (by have f1 := (m_runs_le M i1); omega) (by decide) (fun c_6 => ?_) (fun c_6 => ?_)
      · refine lv_iconst (v := nI 3) hx hb dX9_call_52 (by decide) ?_
        refine lv_goto (tgt := 57) hx hb dX9_call_53 (by decide) ?_
        refine m_putT hx hb hts hin hown hK hP hD hS l_thrown dX9_call_57 (fun H locs hP hS => ?_)
        refine lv_aload_n hx hb dX9_call_60 rfl (lv_at hl 0 rfl) ?_
        refine m_get (v := .int (nI 3)) hx hb hts hin hown hK hP 0 (by decide) l_thrown rfl dX9_call_61 ?_
        refine n_if_le (tgt := 69) hx hb dX9_call_64 (by decide) (by decide) (fun c9 => absurd c9 (by decide)) (fun _ => ?_)
        refine lv_iconst (v := nI 0) hx hb dX9_call_67 (by decide) ?_
        have eM_7 : g_call M (nI i1) (nI q1) = M := by first | (simp [g_call, k_call, c_2, ki19, c_4, kq19, c_6]; done) | (simp [g_call, k_call, c_2, ki19, c_4, kq19, c_6]; omega)
        have eT_8 : k_call M (nI i1) (nI q1) = 3 := by first | (simp [k_call, c_2, ki19, c_4, kq19, c_6]; done) | (simp [k_call, c_2, ki19, c_4, kq19, c_6]; omega)
        exact W.iret (v := nI 0) hx hb hr (fun U9 ht hW => ⟨⟨_, (), rfl, (show nI 0 = r_call M (nI i1) (nI q1) from by first | (simp [r_call, k_call, c_2, ki19, c_4, kq19, c_6]; done) | (simp [r_call, k_call, c_2, ki19, c_4, kq19, c_6]; omega)), by show va_P D vwCl _ U9.heap; rw [ht, eM_7, eT_8]; exact hP⟩, hS.F ht⟩) hS.2.2 dX9_call_68
      · refine lv_aload_n hx hb dX9_call_36 rfl (lv_at hl 0 rfl) ?_
        refine m_get hx hb hts hin hown hK hP 31 (by decide) l_called rfl dX9_call_37 ?_
        refine lv_iload_n hx hb dX9_call_40 rfl (lv_at hl 1 rfl) ?_
        refine m_iald (f := 31) hx hb hK hP 25 rfl (by omega) (by decide) dX9_call_41 ?_
        refine lv_iload_n hx hb dX9_call_42 rfl (lv_at hl 2 rfl) ?_
        refine n_iadd hx hb dX9_call_43 (z := (M 31 i1) + q1) rfl ?_
        refine lv_aload_n hx hb dX9_call_44 rfl (lv_at hl 0 rfl) ?_
        refine lv_iload_n hx hb dX9_call_45 rfl (lv_at hl 1 rfl) ?_
        refine vp_callSi (W.runV (As := [.int (nI i1)]) (rest := [.int (nI ((M 31 i1) + q1)), .ref (ad 0)]) ⟨hx, hb, hml, hown, hts⟩ (c9_priceOf l D ad cI cZ cC th M hM  i1 (by omega)) (cwV 1 hts gX9_call_X9_priceOf rfl rfl rfl kd_X9_priceOf ⟨Nat.le_of_ble_eq_true rfl, Nat.le_of_ble_eq_true rfl⟩) ⟨mB_blind, m_recv hK hP, m_pre hK hP _⟩ rfl rfl hl.1 rfl (lv_room (Nat.le_of_ble_eq_true rfl)) dX9_call_46 ⟨Nat.le_of_ble_eq_true rfl, Nat.le_of_ble_eq_true rfl⟩) (fun r_9 hr_9 => ?_)
        subst hr_9
        refine n_icmp_le (tgt := 56) hx hb dX9_call_49 (by decide) (by have f1 : M 31 i1 ≤ 100000 := hM 31 i1; omega) (by have f1 : m_pr M i1 ≤ 100000 := hM 10 _; omega) (fun c_10 => ?_) (fun c_10 => ?_)
        · refine lv_iconst (v := nI 0) hx hb dX9_call_56 (by decide) ?_
          refine m_putT hx hb hts hin hown hK hP hD hS l_thrown dX9_call_57 (fun H locs hP hS => ?_)
          refine lv_aload_n hx hb dX9_call_60 rfl (lv_at hl 0 rfl) ?_
          refine m_get (v := .int (nI 0)) hx hb hts hin hown hK hP 0 (by decide) l_thrown rfl dX9_call_61 ?_
          refine n_if_le (tgt := 69) hx hb dX9_call_64 (by decide) (by decide) (fun _ => ?_) (fun c9 => absurd c9 (by decide))
          refine lv_aload_n hx hb dX9_call_69 rfl (lv_at hl 0 rfl) ?_
          refine m_get hx hb hts hin hown hK hP 31 (by decide) l_called rfl dX9_call_70 ?_
          refine lv_iload_n hx hb dX9_call_73 rfl (lv_at hl 1 rfl) ?_
          refine lv_dup2_11 hx hb dX9_call_74 rfl rfl ?_
          refine m_iald (f := 31) hx hb hK hP 25 rfl (by omega) (by decide) dX9_call_75 ?_
          refine lv_iload_n hx hb dX9_call_76 rfl (lv_at hl 2 rfl) ?_
          refine n_iadd hx hb dX9_call_77 (z := (M 31 i1) + q1) rfl ?_
          refine m_iast (f := 31) (v := (M 31 i1) + q1) hx hb hK hP hD hS 25 rfl (by omega) (by decide) (mset_31 _ _ _ _ _ _ _ _) dX9_call_78 (fun H locs hP hS => ?_)
          refine lv_aload_n hx hb dX9_call_79 rfl (lv_at hl 0 rfl) ?_
          refine m_get hx hb hts hin hown hK hP 31 (by decide) l_called rfl dX9_call_80 ?_
          refine lv_iload_n hx hb dX9_call_83 rfl (lv_at hl 1 rfl) ?_
          refine m_iald (f := 31) hx hb hK hP 25 rfl (by omega) (by decide) dX9_call_84 ?_
          rw [show (mu M 31 i1 ((M 31 i1) + q1)) 31 i1 = (M 31 i1) + q1 from by simp [mu]]
          have eM_11 : g_call M (nI i1) (nI q1) = mu M 31 i1 ((M 31 i1) + q1) := by first | (simp [g_call, k_call, c_2, ki19, c_4, kq19, c_6, c_10]; done) | (simp [g_call, k_call, c_2, ki19, c_4, kq19, c_6, c_10]; omega)
          have eT_12 : k_call M (nI i1) (nI q1) = 0 := by first | (simp [k_call, c_2, ki19, c_4, kq19, c_6, c_10]; done) | (simp [k_call, c_2, ki19, c_4, kq19, c_6, c_10]; omega)
          exact W.iret (v := nI ((M 31 i1) + q1)) hx hb hr (fun U9 ht hW => ⟨⟨_, (), rfl, (show nI ((M 31 i1) + q1) = r_call M (nI i1) (nI q1) from by first | (simp [r_call, k_call, c_2, ki19, c_4, kq19, c_6, c_10]; done) | (simp [r_call, k_call, c_2, ki19, c_4, kq19, c_6, c_10]; omega)), by show va_P D vwCl _ U9.heap; rw [ht, eM_11, eT_12]; exact hP⟩, hS.F ht⟩) hS.2.2 dX9_call_85
        · refine lv_iconst (v := nI 3) hx hb dX9_call_52 (by decide) ?_
          refine lv_goto (tgt := 57) hx hb dX9_call_53 (by decide) ?_
          refine m_putT hx hb hts hin hown hK hP hD hS l_thrown dX9_call_57 (fun H locs hP hS => ?_)
          refine lv_aload_n hx hb dX9_call_60 rfl (lv_at hl 0 rfl) ?_
          refine m_get (v := .int (nI 3)) hx hb hts hin hown hK hP 0 (by decide) l_thrown rfl dX9_call_61 ?_
          refine n_if_le (tgt := 69) hx hb dX9_call_64 (by decide) (by decide) (fun c9 => absurd c9 (by decide)) (fun _ => ?_)
          refine lv_iconst (v := nI 0) hx hb dX9_call_67 (by decide) ?_
          have eM_13 : g_call M (nI i1) (nI q1) = M := by first | (simp [g_call, k_call, c_2, ki19, c_4, kq19, c_6, c_10]; done) | (simp [g_call, k_call, c_2, ki19, c_4, kq19, c_6, c_10]; omega)
          have eT_14 : k_call M (nI i1) (nI q1) = 3 := by first | (simp [k_call, c_2, ki19, c_4, kq19, c_6, c_10]; done) | (simp [k_call, c_2, ki19, c_4, kq19, c_6, c_10]; omega)
          exact W.iret (v := nI 0) hx hb hr (fun U9 ht hW => ⟨⟨_, (), rfl, (show nI 0 = r_call M (nI i1) (nI q1) from by first | (simp [r_call, k_call, c_2, ki19, c_4, kq19, c_6, c_10]; done) | (simp [r_call, k_call, c_2, ki19, c_4, kq19, c_6, c_10]; omega)), by show va_P D vwCl _ U9.heap; rw [ht, eM_13, eT_14]; exact hP⟩, hS.F ht⟩) hS.2.2 dX9_call_68
    · refine lv_iconst (v := nI 2) hx hb dX9_call_23 (by decide) ?_
      refine lv_goto (tgt := 57) hx hb dX9_call_24 (by decide) ?_
      refine m_putT hx hb hts hin hown hK hP hD hS l_thrown dX9_call_57 (fun H locs hP hS => ?_)
      refine lv_aload_n hx hb dX9_call_60 rfl (lv_at hl 0 rfl) ?_
      refine m_get (v := .int (nI 2)) hx hb hts hin hown hK hP 0 (by decide) l_thrown rfl dX9_call_61 ?_
      refine n_if_le (tgt := 69) hx hb dX9_call_64 (by decide) (by decide) (fun c9 => absurd c9 (by decide)) (fun _ => ?_)
      refine lv_iconst (v := nI 0) hx hb dX9_call_67 (by decide) ?_
      have eM_15 : g_call M (nI i1) q = M := by first | (simp [g_call, k_call, c_2, ki19, c_4]; done) | (simp [g_call, k_call, c_2, ki19, c_4]; omega)
      have eT_16 : k_call M (nI i1) q = 2 := by first | (simp [k_call, c_2, ki19, c_4]; done) | (simp [k_call, c_2, ki19, c_4]; omega)
      exact W.iret (v := nI 0) hx hb hr (fun U9 ht hW => ⟨⟨_, (), rfl, (show nI 0 = r_call M (nI i1) q from by first | (simp [r_call, k_call, c_2, ki19, c_4]; done) | (simp [r_call, k_call, c_2, ki19, c_4]; omega)), by show va_P D vwCl _ U9.heap; rw [ht, eM_15, eT_16]; exact hP⟩, hS.F ht⟩) hS.2.2 dX9_call_68
  · refine lv_iconst (v := nI 1) hx hb dX9_call_9 (by decide) ?_
    refine lv_goto (tgt := 57) hx hb dX9_call_10 (by decide) ?_
    refine m_putT hx hb hts hin hown hK hP hD hS l_thrown dX9_call_57 (fun H locs hP hS => ?_)
    refine lv_aload_n hx hb dX9_call_60 rfl (lv_at hl 0 rfl) ?_
    refine m_get (v := .int (nI 1)) hx hb hts hin hown hK hP 0 (by decide) l_thrown rfl dX9_call_61 ?_
    refine n_if_le (tgt := 69) hx hb dX9_call_64 (by decide) (by decide) (fun c9 => absurd c9 (by decide)) (fun _ => ?_)
    refine lv_iconst (v := nI 0) hx hb dX9_call_67 (by decide) ?_
    have eM_17 : g_call M i q = M := by first | (simp [g_call, k_call, c_2]; done) | (simp [g_call, k_call, c_2]; omega)
    have eT_18 : k_call M i q = 1 := by first | (simp [k_call, c_2]; done) | (simp [k_call, c_2]; omega)
    exact W.iret (v := nI 0) hx hb hr (fun U9 ht hW => ⟨⟨_, (), rfl, (show nI 0 = r_call M i q from by first | (simp [r_call, k_call, c_2]; done) | (simp [r_call, k_call, c_2]; omega)), by show va_P D vwCl _ U9.heap; rw [ht, eM_17, eT_18]; exact hP⟩, hS.F ht⟩) hS.2.2 dX9_call_68
set_option maxHeartbeats 4000000 in
set_option maxRecDepth 100000 in
theorem c9_running (l : Launch) (D : va_G) (ad : Nat → Nat) (cI cZ cC : ClassId) (th : Nat) (M : MS) (hM : MI M) {A : Nat → Prop} (hD : mDis A ad) (i : Int32) : Met l yX9_running wsX9_running ({ frames := 2, cells := 0, slots := 0, locals := 44 }) (va_Pc [.ref (ad 0), .int i] (mB D ad cI cZ cC th M)) (va_Qi (fun (r : Int32) (_ : Unit) => r = r_running M i) (fun _ U9 => va_P D vwCl (mws ad cI cZ cC (k_ct M i) M) U9.heap) A) 0 0 A := by
  refine Met.ofW (cc := cX9_running) (maxL := 2) (ret := (some .int)) (by decide) rfl ?_
  intro p e s m args below meth c s₁ B hml hv
  obtain ⟨rfl, hP, hK⟩ := hv
  have hx := B.exec
  have hb := B.bytes
  have hr := B.returns
  have hts := atoms_spec (ws := wsX9_running) B.pre
  have hown : s.vm.findClass RX9 = some m.cls := findClass_of_methodNamed B.named
  have hlocks := B.notSynchronized
  have hin : ∀ w ∈ wsX90, w ∈ wsX9_running := fun w h => List.mem_cons_of_mem _ (List.mem_append_right _ h)
  have l_thrown := (hts (.fieldLink RX9 93 "TenderHallModel" "thrown" "I") (List.mem_of_getElem? (i := 1) rfl))
  have hS : va_S A s.heap s.heap [] := va_S.rf
  have hl := lv_entry ([.ref (ad 0), .int i]) (n := 2) (Nat.le_of_ble_eq_true rfl)
  rw [lg_entry_eq]
  generalize (lg_sl ([.ref (ad 0), .int i]) ++ List.replicate (2 - (lg_sl ([.ref (ad 0), .int i])).length) Slot.unset).toArray = ls at hl ⊢
  have hl : lv_has ls 2 [(0, .ref (ad 0)), (1, .int i)] := hl
  have h36 : M 3 0 ≤ 6 := hM 3 0
  have h160 : M 16 0 ≤ 60 := hM 16 0
  have h220 : M 22 0 ≤ 60 := hM 22 0
  have h290 : M 29 0 ≤ 60 := hM 29 0
  have h120 : M 1 0 ≤ 2000 := hM 1 0
  refine lv_aload_n hx hb dX9_running_0 rfl (lv_at hl 0 rfl) ?_
  refine lv_aload_n hx hb dX9_running_1 rfl (lv_at hl 0 rfl) ?_
  refine lv_iload_n hx hb dX9_running_2 rfl (lv_at hl 1 rfl) ?_
  refine vp_callSi (W.runV (As := [.int i]) (rest := [.ref (ad 0)]) ⟨hx, hb, hml, hown, hts⟩ (c9_isContract l D ad cI cZ cC th M hM  i) (cwV 1 hts gX9_running_X9_isContract rfl rfl rfl kd_X9_isContract ⟨Nat.le_of_ble_eq_true rfl, Nat.le_of_ble_eq_true rfl⟩) ⟨mB_blind, m_recv hK hP, m_pre hK hP _⟩ rfl rfl hl.1 rfl (lv_room (Nat.le_of_ble_eq_true rfl)) dX9_running_3 ⟨Nat.le_of_ble_eq_true rfl, Nat.le_of_ble_eq_true rfl⟩) (fun r_1 hr_1 => ?_)
  subst hr_1
  refine b_if_eq (tgt := 13) hx hb dX9_running_6 (by decide)  (fun c_2 => ?_) (fun c_2 => ?_)
  · refine lv_iconst (v := nI 1) hx hb dX9_running_13 (by decide) ?_
    refine m_putT hx hb hts hin hown hK hP hD hS l_thrown dX9_running_14 (fun H locs hP hS => ?_)
    refine lv_aload_n hx hb dX9_running_17 rfl (lv_at hl 0 rfl) ?_
    refine m_get (v := .int (nI 1)) hx hb hts hin hown hK hP 0 (by decide) l_thrown rfl dX9_running_18 ?_
    refine n_if_le (tgt := 28) hx hb dX9_running_21 (by decide) (by decide) (fun c9 => absurd c9 (by decide)) (fun _ => ?_)
    refine lv_iconst (v := nI 0) hx hb dX9_running_24 (by decide) ?_
    refine lv_goto (tgt := 33) hx hb dX9_running_25 (by decide) ?_
    have eT_3 : k_ct M i = 1 := by simp [k_ct, c_2]
    exact W.iret (v := nI 0) hx hb hr (fun U9 ht hW => ⟨⟨_, (), rfl, (show nI 0 = r_running M i from by simp [r_running, k_ct, c_2]), by show va_P D vwCl _ U9.heap; rw [ht, eT_3]; exact hP⟩, hS.F ht⟩) hS.2.2 dX9_running_33
  · obtain ⟨i1, hi1, rfl⟩ := isIx_of (by omega) c_2
    have ki19 : (nI i1).toNatClampNeg = i1 := nI_clamp (by omega)
    refine lv_iconst (v := nI 0) hx hb dX9_running_9 (by decide) ?_
    refine lv_goto (tgt := 14) hx hb dX9_running_10 (by decide) ?_
    refine m_putT hx hb hts hin hown hK hP hD hS l_thrown dX9_running_14 (fun H locs hP hS => ?_)
    refine lv_aload_n hx hb dX9_running_17 rfl (lv_at hl 0 rfl) ?_
    refine m_get (v := .int (nI 0)) hx hb hts hin hown hK hP 0 (by decide) l_thrown rfl dX9_running_18 ?_
    refine n_if_le (tgt := 28) hx hb dX9_running_21 (by decide) (by decide) (fun _ => ?_) (fun c9 => absurd c9 (by decide))
    refine lv_aload_n hx hb dX9_running_28 rfl (lv_at hl 0 rfl) ?_
    refine lv_iload_n hx hb dX9_running_29 rfl (lv_at hl 1 rfl) ?_
    refine vp_callSi (W.runV (As := [.int (nI i1)]) (rest := []) ⟨hx, hb, hml, hown, hts⟩ (c9_runs l D ad cI cZ cC 0 M hM  i1 (by omega)) (cwV 1 hts gX9_running_X9_runs rfl rfl rfl kd_X9_runs ⟨Nat.le_of_ble_eq_true rfl, Nat.le_of_ble_eq_true rfl⟩) ⟨mB_blind, m_recv hK hP, m_pre hK hP _⟩ rfl rfl hl.1 rfl (lv_room (Nat.le_of_ble_eq_true rfl)) dX9_running_30 ⟨Nat.le_of_ble_eq_true rfl, Nat.le_of_ble_eq_true rfl⟩) (fun r_4 hr_4 => ?_)
    subst hr_4
    have eT_5 : k_ct M (nI i1) = 0 := by simp [k_ct, c_2, ki19]
    exact W.iret (v := nI (m_runs M i1)) hx hb hr (fun U9 ht hW => ⟨⟨_, (), rfl, (show nI (m_runs M i1) = r_running M (nI i1) from by simp [r_running, k_ct, c_2, ki19]), by show va_P D vwCl _ U9.heap; rw [ht, eT_5]; exact hP⟩, hS.F ht⟩) hS.2.2 dX9_running_33
set_option maxHeartbeats 4000000 in
set_option maxRecDepth 100000 in
theorem c9_owes (l : Launch) (D : va_G) (ad : Nat → Nat) (cI cZ cC : ClassId) (th : Nat) (M : MS) (hM : MI M) {A : Nat → Prop} (hD : mDis A ad) (b : Int32) : Met l yX9_owes wsX9_owes ({ frames := 2, cells := 0, slots := 0, locals := 44 }) (va_Pc [.ref (ad 0), .int b] (mB D ad cI cZ cC th M)) (va_Qi (fun (r : Int32) (_ : Unit) => r = r_owes M b) (fun _ U9 => va_P D vwCl (mws ad cI cZ cC (k_b b) M) U9.heap) A) 0 0 A := by
  refine Met.ofW (cc := cX9_owes) (maxL := 4) (ret := (some .int)) (by decide) rfl ?_
  intro p e s m args below meth c s₁ B hml hv
  obtain ⟨rfl, hP, hK⟩ := hv
  have hx := B.exec
  have hb := B.bytes
  have hr := B.returns
  have hts := atoms_spec (ws := wsX9_owes) B.pre
  have hown : s.vm.findClass RX9 = some m.cls := findClass_of_methodNamed B.named
  have hlocks := B.notSynchronized
  have hin : ∀ w ∈ wsX90, w ∈ wsX9_owes := fun w h => List.mem_cons_of_mem _ (List.mem_append_right _ h)
  have l_thrown := (hts (.fieldLink RX9 93 "TenderHallModel" "thrown" "I") (List.mem_of_getElem? (i := 1) rfl))
  have l_contracts := (hts (.fieldLink RX9 198 "TenderHallModel" "contracts" "I") (List.mem_of_getElem? (i := 2) rfl))
  have l_won := (hts (.fieldLink RX9 50 "TenderHallModel" "won" "[I") (List.mem_of_getElem? (i := 3) rfl))
  have l_awardOf := (hts (.fieldLink RX9 80 "TenderHallModel" "awardOf" "[I") (List.mem_of_getElem? (i := 4) rfl))
  have l_called := (hts (.fieldLink RX9 83 "TenderHallModel" "called" "[I") (List.mem_of_getElem? (i := 5) rfl))
  have hS : va_S A s.heap s.heap [] := va_S.rf
  have hl := lv_entry ([.ref (ad 0), .int b]) (n := 4) (Nat.le_of_ble_eq_true rfl)
  rw [lg_entry_eq]
  generalize (lg_sl ([.ref (ad 0), .int b]) ++ List.replicate (4 - (lg_sl ([.ref (ad 0), .int b])).length) Slot.unset).toArray = ls at hl ⊢
  have hl : lv_has ls 4 [(0, .ref (ad 0)), (1, .int b)] := hl
  have h36 : M 3 0 ≤ 6 := hM 3 0
  have h160 : M 16 0 ≤ 60 := hM 16 0
  have h220 : M 22 0 ≤ 60 := hM 22 0
  have h290 : M 29 0 ≤ 60 := hM 29 0
  have h120 : M 1 0 ≤ 2000 := hM 1 0
  refine lv_aload_n hx hb dX9_owes_0 rfl (lv_at hl 0 rfl) ?_
  refine lv_iload_n hx hb dX9_owes_1 rfl (lv_at hl 1 rfl) ?_
  refine vp_callSi (W.runS (As := [.int b]) (rest := [.ref (ad 0)]) ⟨hx, hb, hml, hown, hts⟩ (c9_isBidder l  b) (va_cwS 1 hts gX9_owes_X9_isBidder rfl rfl rfl kd_X9_isBidder ⟨Nat.le_of_ble_eq_true rfl, Nat.le_of_ble_eq_true rfl⟩) ⟨fun _ _ _ _ q => q, fun U hU hW => ⟨rfl, trivial⟩⟩ rfl rfl hl.1 rfl (lv_room (Nat.le_of_ble_eq_true rfl)) dX9_owes_2 ⟨Nat.le_of_ble_eq_true rfl, Nat.le_of_ble_eq_true rfl⟩) (fun r_1 hr_1 => ?_)
  subst hr_1
  refine b_if_eq (tgt := 12) hx hb dX9_owes_5 (by decide)  (fun c_2 => ?_) (fun c_2 => ?_)
  · refine lv_iconst (v := nI 1) hx hb dX9_owes_12 (by decide) ?_
    refine m_putT hx hb hts hin hown hK hP hD hS l_thrown dX9_owes_13 (fun H locs hP hS => ?_)
    refine lv_iconst (v := nI 0) hx hb dX9_owes_16 (by decide) ?_
    refine lv_istore_n (lv' := [(2, .int (nI 0)), (0, .ref (ad 0)), (1, .int b)]) hx hb dX9_owes_17 rfl hl (by decide) rfl (fun ls hl => ?_)
    refine lv_iconst (v := nI 0) hx hb dX9_owes_18 (by decide) ?_
    refine lv_istore_n (lv' := [(3, .int (nI 0)), (2, .int (nI 0)), (0, .ref (ad 0)), (1, .int b)]) hx hb dX9_owes_19 rfl hl (by decide) rfl (fun ls hl => ?_)
    refine lv_iload_n hx hb dX9_owes_20 rfl (lv_at hl 0 rfl) ?_
    refine lv_aload_n hx hb dX9_owes_21 rfl (lv_at hl 2 rfl) ?_
    refine m_get (v := .int (nI (M 29 0))) hx hb hts hin hown hK hP 29 (by decide) l_contracts rfl dX9_owes_22 ?_
    refine n_icmp_ge (tgt := 77) hx hb dX9_owes_25 (by decide) (by decide) (by have f1 : M 29 0 ≤ 60 := hM 29 0; omega) (fun c_3 => ?_) (fun c_3 => ?_)
    · refine lv_iload_n hx hb dX9_owes_77 rfl (lv_at hl 1 rfl) ?_
      have eT_4 : k_b b = 1 := by simp [k_b, c_2, c_3]
      exact W.iret (v := nI 0) hx hb hr (fun U9 ht hW => ⟨⟨_, (), rfl, (show nI 0 = r_owes M b from by simp [r_owes, k_b, c_2, c_3]), by show va_P D vwCl _ U9.heap; rw [ht, eT_4]; exact hP⟩, hS.F ht⟩) hS.2.2 dX9_owes_78
    · refine lv_aload_n hx hb dX9_owes_28 rfl (lv_at hl 2 rfl) ?_
      refine m_get (v := .int (nI 1)) hx hb hts hin hown hK hP 0 (by decide) l_thrown rfl dX9_owes_29 ?_
      refine n_if_ne (tgt := 77) hx hb dX9_owes_32 (by decide) (by decide) (fun _ => ?_) (fun c9 => absurd c9 (by decide))
      refine lv_iload_n hx hb dX9_owes_77 rfl (lv_at hl 1 rfl) ?_
      have eT_5 : k_b b = 1 := by simp [k_b, c_2, c_3]
      exact W.iret (v := nI 0) hx hb hr (fun U9 ht hW => ⟨⟨_, (), rfl, (show nI 0 = r_owes M b from by simp [r_owes, k_b, c_2, c_3]), by show va_P D vwCl _ U9.heap; rw [ht, eT_5]; exact hP⟩, hS.F ht⟩) hS.2.2 dX9_owes_78
  · obtain ⟨b1, hb1, rfl⟩ := isIx_of (by decide) c_2
    have kb19 : (nI b1).toNatClampNeg = b1 := nI_clamp (by omega)
    refine lv_iconst (v := nI 0) hx hb dX9_owes_8 (by decide) ?_
    refine lv_goto (tgt := 13) hx hb dX9_owes_9 (by decide) ?_
    refine m_putT hx hb hts hin hown hK hP hD hS l_thrown dX9_owes_13 (fun H locs hP hS => ?_)
    refine lv_iconst (v := nI 0) hx hb dX9_owes_16 (by decide) ?_
    refine lv_istore_n (lv' := [(2, .int (nI 0)), (0, .ref (ad 0)), (1, .int (nI b1))]) hx hb dX9_owes_17 rfl hl (by decide) rfl (fun ls hl => ?_)
    refine lv_iconst (v := nI 0) hx hb dX9_owes_18 (by decide) ?_
    refine lv_istore_n (lv' := [(3, .int (nI 0)), (2, .int (nI 0)), (0, .ref (ad 0)), (1, .int (nI b1))]) hx hb dX9_owes_19 rfl hl (by decide) rfl (fun ls hl => ?_)
    refine w_loop (e := M 29 0) (nL := 4) (fun i => [(0, .ref (ad 0)), (1, .int (nI b1)), (3, .int (nI i)), (2, .int (nI (m_owf M b1 i)))]) (fun i hb_7 ih_6 ls hl => ?_) 0 (by omega) ls (lv_sub hl [2, 3, 0, 1] rfl)
    refine lv_iload_n hx hb dX9_owes_20 rfl (lv_at hl 2 rfl) ?_
    refine lv_aload_n hx hb dX9_owes_21 rfl (lv_at hl 0 rfl) ?_
    refine m_get (v := .int (nI (M 29 0))) hx hb hts hin hown hK hP 29 (by decide) l_contracts rfl dX9_owes_22 ?_
    refine n_icmp_ge (tgt := 77) hx hb dX9_owes_25 (by decide) (by omega) (by have f1 : M 29 0 ≤ 60 := hM 29 0; omega) (fun c_8 => ?_) (fun c_8 => ?_)
    · obtain rfl : M 29 0 = i := by omega
      refine lv_iload_n hx hb dX9_owes_77 rfl (lv_at hl 3 rfl) ?_
      have eT_9 : k_b (nI b1) = 0 := by simp [k_b, c_2, kb19, c_8]
      exact W.iret (v := nI (m_owf M b1 (M 29 0))) hx hb hr (fun U9 ht hW => ⟨⟨_, (), rfl, (show nI (m_owf M b1 (M 29 0)) = r_owes M (nI b1) from by simp [r_owes, k_b, c_2, kb19, c_8]), by show va_P D vwCl _ U9.heap; rw [ht, eT_9]; exact hP⟩, hS.F ht⟩) hS.2.2 dX9_owes_78
    · refine lv_aload_n hx hb dX9_owes_28 rfl (lv_at hl 0 rfl) ?_
      refine m_get (v := .int (nI 0)) hx hb hts hin hown hK hP 0 (by decide) l_thrown rfl dX9_owes_29 ?_
      refine n_if_ne (tgt := 77) hx hb dX9_owes_32 (by decide) (by decide) (fun c9 => absurd c9 (by decide)) (fun _ => ?_)
      refine lv_iload_n hx hb dX9_owes_35 rfl (lv_at hl 3 rfl) ?_
      refine lv_aload_n hx hb dX9_owes_36 rfl (lv_at hl 0 rfl) ?_
      refine m_get hx hb hts hin hown hK hP 18 (by decide) l_won rfl dX9_owes_37 ?_
      refine lv_aload_n hx hb dX9_owes_40 rfl (lv_at hl 0 rfl) ?_
      refine m_get hx hb hts hin hown hK hP 30 (by decide) l_awardOf rfl dX9_owes_41 ?_
      refine lv_iload_n hx hb dX9_owes_44 rfl (lv_at hl 2 rfl) ?_
      refine m_iald (f := 30) hx hb hK hP 24 rfl (by omega) (by decide) dX9_owes_45 ?_
      refine m_iald (f := 18) hx hb hK hP 14 rfl (by have f1 : M 30 i ≤ 59 := hM 30 i; omega) (by decide) dX9_owes_46 ?_
      refine lv_iload_n hx hb dX9_owes_47 rfl (lv_at hl 1 rfl) ?_
      refine n_icmp_ne (tgt := 68) hx hb dX9_owes_48 (by decide) (by have f1 : M 30 i ≤ 59 := hM 30 i; have f2 : M 18 (M 30 i) ≤ 7 := hM 18 (M 30 i); omega) (by omega) (fun c_10 => ?_) (fun c_10 => ?_)
      · refine lv_iconst (v := nI 0) hx hb dX9_owes_68 (by decide) ?_
        refine n_iadd hx hb dX9_owes_69 (z := (m_owf M b1 i) + 0) rfl ?_
        refine lv_istore_n (lv' := [(2, .int (nI ((m_owf M b1 i) + 0))), (0, .ref (ad 0)), (1, .int (nI b1)), (3, .int (nI i))]) hx hb dX9_owes_70 rfl hl (by decide) rfl (fun ls hl => ?_)
        refine n_iinc (k := 3) (lv' := [(3, .int (nI (i + 1))), (2, .int (nI ((m_owf M b1 i) + 0))), (0, .ref (ad 0)), (1, .int (nI b1))]) hx hb dX9_owes_71 hl rfl (by decide) rfl (fun ls hl => ?_)
        refine lv_goto (tgt := 20) hx hb dX9_owes_74 (by decide) ?_
        have e_11 : m_owf M b1 (i + 1) = (m_owf M b1 i) + 0 := by first | (simp [m_owf, c_2, kb19, c_8, c_10]; done) | (rw [m_owf, if_neg (by omega)])
        refine ih_6 (by omega) ls ?_
        show lv_has ls 4 [(0, .ref (ad 0)), (1, .int (nI b1)), (3, .int (nI (i + 1))), (2, .int (nI (m_owf M b1 (i + 1))))]
        rw [e_11]
        exact lv_sub hl [2, 3, 0, 1] rfl
      · refine lv_aload_n hx hb dX9_owes_51 rfl (lv_at hl 0 rfl) ?_
        refine lv_iload_n hx hb dX9_owes_52 rfl (lv_at hl 2 rfl) ?_
        refine vp_callSi (W.runV (As := [.int (nI i)]) (rest := [.int (nI (m_owf M b1 i))]) ⟨hx, hb, hml, hown, hts⟩ (c9_runs l D ad cI cZ cC 0 M hM  i (by omega)) (cwV 1 hts gX9_owes_X9_runs rfl rfl rfl kd_X9_runs ⟨Nat.le_of_ble_eq_true rfl, Nat.le_of_ble_eq_true rfl⟩) ⟨mB_blind, m_recv hK hP, m_pre hK hP _⟩ rfl rfl hl.1 rfl (lv_room (Nat.le_of_ble_eq_true rfl)) dX9_owes_53 ⟨Nat.le_of_ble_eq_true rfl, Nat.le_of_ble_eq_true rfl⟩) (fun r_12 hr_12 => ?_)
        subst hr_12
        refine n_if_ne (tgt := 68) hx hb dX9_owes_56 (by decide) (by have f1 := (m_runs_le M i); omega) (fun c_13 => ?_) (fun c_13 => ?_)
        · refine lv_iconst (v := nI 0) hx hb dX9_owes_68 (by decide) ?_
          refine n_iadd hx hb dX9_owes_69 (z := (m_owf M b1 i) + 0) rfl ?_
          refine lv_istore_n (lv' := [(2, .int (nI ((m_owf M b1 i) + 0))), (0, .ref (ad 0)), (1, .int (nI b1)), (3, .int (nI i))]) hx hb dX9_owes_70 rfl hl (by decide) rfl (fun ls hl => ?_)
          refine n_iinc (k := 3) (lv' := [(3, .int (nI (i + 1))), (2, .int (nI ((m_owf M b1 i) + 0))), (0, .ref (ad 0)), (1, .int (nI b1))]) hx hb dX9_owes_71 hl rfl (by decide) rfl (fun ls hl => ?_)
          refine lv_goto (tgt := 20) hx hb dX9_owes_74 (by decide) ?_
          have e_14 : m_owf M b1 (i + 1) = (m_owf M b1 i) + 0 := by first | (simp [m_owf, c_2, kb19, c_8, c_10, c_13]; done) | (rw [m_owf, if_neg (by omega)])
          refine ih_6 (by omega) ls ?_
          show lv_has ls 4 [(0, .ref (ad 0)), (1, .int (nI b1)), (3, .int (nI (i + 1))), (2, .int (nI (m_owf M b1 (i + 1))))]
          rw [e_14]
          exact lv_sub hl [2, 3, 0, 1] rfl
        · refine lv_aload_n hx hb dX9_owes_59 rfl (lv_at hl 0 rfl) ?_
          refine m_get hx hb hts hin hown hK hP 31 (by decide) l_called rfl dX9_owes_60 ?_
          refine lv_iload_n hx hb dX9_owes_63 rfl (lv_at hl 2 rfl) ?_
          refine m_iald (f := 31) hx hb hK hP 25 rfl (by omega) (by decide) dX9_owes_64 ?_
          refine lv_goto (tgt := 69) hx hb dX9_owes_65 (by decide) ?_
          refine n_iadd hx hb dX9_owes_69 (z := (m_owf M b1 i) + (M 31 i)) rfl ?_
          refine lv_istore_n (lv' := [(2, .int (nI ((m_owf M b1 i) + (M 31 i)))), (0, .ref (ad 0)), (1, .int (nI b1)), (3, .int (nI i))]) hx hb dX9_owes_70 rfl hl (by decide) rfl (fun ls hl => ?_)
          refine n_iinc (k := 3) (lv' := [(3, .int (nI (i + 1))), (2, .int (nI ((m_owf M b1 i) + (M 31 i)))), (0, .ref (ad 0)), (1, .int (nI b1))]) hx hb dX9_owes_71 hl rfl (by decide) rfl (fun ls hl => ?_)
          refine lv_goto (tgt := 20) hx hb dX9_owes_74 (by decide) ?_
          have e_15 : m_owf M b1 (i + 1) = (m_owf M b1 i) + (M 31 i) := by first | (simp [m_owf, c_2, kb19, c_8, c_10, c_13]; done) | (rw [m_owf, if_neg (by omega)])
          refine ih_6 (by omega) ls ?_
          show lv_has ls 4 [(0, .ref (ad 0)), (1, .int (nI b1)), (3, .int (nI (i + 1))), (2, .int (nI (m_owf M b1 (i + 1))))]
          rw [e_15]
          exact lv_sub hl [2, 3, 0, 1] rfl
set_option maxHeartbeats 4000000 in
set_option maxRecDepth 100000 in
theorem c9_held (l : Launch) (D : va_G) (ad : Nat → Nat) (cI cZ cC : ClassId) (th : Nat) (M : MS) (hM : MI M) {A : Nat → Prop} (hD : mDis A ad) (b : Int32) : Met l yX9_held wsX9_held ({ frames := 3, cells := 0, slots := 0, locals := 67 }) (va_Pc [.ref (ad 0), .int b] (mB D ad cI cZ cC th M)) (va_Qi (fun (r : Int32) (_ : Unit) => r = r_held M b) (fun _ U9 => va_P D vwCl (mws ad cI cZ cC (k_b b) M) U9.heap) A) 0 0 A := by
  refine Met.ofW (cc := cX9_held) (maxL := 6) (ret := (some .int)) (by decide) rfl ?_
  intro p e s m args below meth c s₁ B hml hv
  obtain ⟨rfl, hP, hK⟩ := hv
  have hx := B.exec
  have hb := B.bytes
  have hr := B.returns
  have hts := atoms_spec (ws := wsX9_held) B.pre
  have hown : s.vm.findClass RX9 = some m.cls := findClass_of_methodNamed B.named
  have hlocks := B.notSynchronized
  have hin : ∀ w ∈ wsX90, w ∈ wsX9_held := fun w h => List.mem_cons_of_mem _ (List.mem_append_right _ h)
  have l_thrown := (hts (.fieldLink RX9 93 "TenderHallModel" "thrown" "I") (List.mem_of_getElem? (i := 1) rfl))
  have l_tenders := (hts (.fieldLink RX9 101 "TenderHallModel" "tenders" "I") (List.mem_of_getElem? (i := 2) rfl))
  have l_price := (hts (.fieldLink RX9 31 "TenderHallModel" "price" "[I") (List.mem_of_getElem? (i := 3) rfl))
  have l_lacks := (hts (.fieldLink RX9 40 "TenderHallModel" "lacks" "[Z") (List.mem_of_getElem? (i := 4) rfl))
  have l_isOut := (hts (.fieldLink RX9 44 "TenderHallModel" "isOut" "[Z") (List.mem_of_getElem? (i := 5) rfl))
  have l_deposit := (hts (.fieldLink RX9 28 "TenderHallModel" "deposit" "[I") (List.mem_of_getElem? (i := 6) rfl))
  have hS : va_S A s.heap s.heap [] := va_S.rf
  have hl := lv_entry ([.ref (ad 0), .int b]) (n := 6) (Nat.le_of_ble_eq_true rfl)
  rw [lg_entry_eq]
  generalize (lg_sl ([.ref (ad 0), .int b]) ++ List.replicate (6 - (lg_sl ([.ref (ad 0), .int b])).length) Slot.unset).toArray = ls at hl ⊢
  have hl : lv_has ls 6 [(0, .ref (ad 0)), (1, .int b)] := hl
  have h36 : M 3 0 ≤ 6 := hM 3 0
  have h160 : M 16 0 ≤ 60 := hM 16 0
  have h220 : M 22 0 ≤ 60 := hM 22 0
  have h290 : M 29 0 ≤ 60 := hM 29 0
  have h120 : M 1 0 ≤ 2000 := hM 1 0
  refine lv_aload_n hx hb dX9_held_0 rfl (lv_at hl 0 rfl) ?_
  refine lv_iload_n hx hb dX9_held_1 rfl (lv_at hl 1 rfl) ?_
  refine vp_callSi (W.runS (As := [.int b]) (rest := [.ref (ad 0)]) ⟨hx, hb, hml, hown, hts⟩ (c9_isBidder l  b) (va_cwS 1 hts gX9_held_X9_isBidder rfl rfl rfl kd_X9_isBidder ⟨Nat.le_of_ble_eq_true rfl, Nat.le_of_ble_eq_true rfl⟩) ⟨fun _ _ _ _ q => q, fun U hU hW => ⟨rfl, trivial⟩⟩ rfl rfl hl.1 rfl (lv_room (Nat.le_of_ble_eq_true rfl)) dX9_held_2 ⟨Nat.le_of_ble_eq_true rfl, Nat.le_of_ble_eq_true rfl⟩) (fun r_1 hr_1 => ?_)
  subst hr_1
  refine b_if_eq (tgt := 12) hx hb dX9_held_5 (by decide)  (fun c_2 => ?_) (fun c_2 => ?_)
  · refine lv_iconst (v := nI 1) hx hb dX9_held_12 (by decide) ?_
    refine m_putT hx hb hts hin hown hK hP hD hS l_thrown dX9_held_13 (fun H locs hP hS => ?_)
    refine lv_iconst (v := nI 0) hx hb dX9_held_16 (by decide) ?_
    refine lv_istore_n (lv' := [(2, .int (nI 0)), (0, .ref (ad 0)), (1, .int b)]) hx hb dX9_held_17 rfl hl (by decide) rfl (fun ls hl => ?_)
    refine lv_iconst (v := nI 0) hx hb dX9_held_18 (by decide) ?_
    refine lv_istore_n (lv' := [(3, .int (nI 0)), (2, .int (nI 0)), (0, .ref (ad 0)), (1, .int b)]) hx hb dX9_held_19 rfl hl (by decide) rfl (fun ls hl => ?_)
    refine lv_iload_n hx hb dX9_held_20 rfl (lv_at hl 0 rfl) ?_
    refine lv_iconst (v := nI 3) hx hb dX9_held_21 (by decide) ?_
    refine lv_aload_n hx hb dX9_held_22 rfl (lv_at hl 2 rfl) ?_
    refine m_get (v := .int (nI (M 3 0))) hx hb hts hin hown hK hP 3 (by decide) l_tenders rfl dX9_held_23 ?_
    refine n_imul hx hb dX9_held_26 (z := 3 * (M 3 0)) rfl ?_
    refine n_icmp_ge (tgt := 114) hx hb dX9_held_27 (by decide) (by decide) (by have f1 : M 3 0 ≤ 6 := hM 3 0; omega) (fun c_3 => ?_) (fun c_3 => ?_)
    · refine lv_iload_n hx hb dX9_held_114 rfl (lv_at hl 1 rfl) ?_
      have eT_4 : k_b b = 1 := by simp [k_b, c_2, c_3]
      exact W.iret (v := nI 0) hx hb hr (fun U9 ht hW => ⟨⟨_, (), rfl, (show nI 0 = r_held M b from by simp [r_held, k_b, c_2, c_3]), by show va_P D vwCl _ U9.heap; rw [ht, eT_4]; exact hP⟩, hS.F ht⟩) hS.2.2 dX9_held_115
    · refine lv_aload_n hx hb dX9_held_30 rfl (lv_at hl 2 rfl) ?_
      refine m_get (v := .int (nI 1)) hx hb hts hin hown hK hP 0 (by decide) l_thrown rfl dX9_held_31 ?_
      refine n_if_ne (tgt := 114) hx hb dX9_held_34 (by decide) (by decide) (fun _ => ?_) (fun c9 => absurd c9 (by decide))
      refine lv_iload_n hx hb dX9_held_114 rfl (lv_at hl 1 rfl) ?_
      have eT_5 : k_b b = 1 := by simp [k_b, c_2, c_3]
      exact W.iret (v := nI 0) hx hb hr (fun U9 ht hW => ⟨⟨_, (), rfl, (show nI 0 = r_held M b from by simp [r_held, k_b, c_2, c_3]), by show va_P D vwCl _ U9.heap; rw [ht, eT_5]; exact hP⟩, hS.F ht⟩) hS.2.2 dX9_held_115
  · obtain ⟨b1, hb1, rfl⟩ := isIx_of (by decide) c_2
    have kb19 : (nI b1).toNatClampNeg = b1 := nI_clamp (by omega)
    refine lv_iconst (v := nI 0) hx hb dX9_held_8 (by decide) ?_
    refine lv_goto (tgt := 13) hx hb dX9_held_9 (by decide) ?_
    refine m_putT hx hb hts hin hown hK hP hD hS l_thrown dX9_held_13 (fun H locs hP hS => ?_)
    refine lv_iconst (v := nI 0) hx hb dX9_held_16 (by decide) ?_
    refine lv_istore_n (lv' := [(2, .int (nI 0)), (0, .ref (ad 0)), (1, .int (nI b1))]) hx hb dX9_held_17 rfl hl (by decide) rfl (fun ls hl => ?_)
    refine lv_iconst (v := nI 0) hx hb dX9_held_18 (by decide) ?_
    refine lv_istore_n (lv' := [(3, .int (nI 0)), (2, .int (nI 0)), (0, .ref (ad 0)), (1, .int (nI b1))]) hx hb dX9_held_19 rfl hl (by decide) rfl (fun ls hl => ?_)
    refine w_loop (e := 3 * M 3 0) (nL := 6) (fun k => [(0, .ref (ad 0)), (1, .int (nI b1)), (3, .int (nI k)), (2, .int (nI (m_hdf M b1 k)))]) (fun k hb_7 ih_6 ls hl => ?_) 0 (by omega) ls (lv_sub hl [2, 3, 0, 1] rfl)
    refine lv_iload_n hx hb dX9_held_20 rfl (lv_at hl 2 rfl) ?_
    refine lv_iconst (v := nI 3) hx hb dX9_held_21 (by decide) ?_
    refine lv_aload_n hx hb dX9_held_22 rfl (lv_at hl 0 rfl) ?_
    refine m_get (v := .int (nI (M 3 0))) hx hb hts hin hown hK hP 3 (by decide) l_tenders rfl dX9_held_23 ?_
    refine n_imul hx hb dX9_held_26 (z := 3 * (M 3 0)) rfl ?_
    refine n_icmp_ge (tgt := 114) hx hb dX9_held_27 (by decide) (by omega) (by have f1 : M 3 0 ≤ 6 := hM 3 0; omega) (fun c_8 => ?_) (fun c_8 => ?_)
    · obtain rfl : 3 * M 3 0 = k := by omega
      refine lv_iload_n hx hb dX9_held_114 rfl (lv_at hl 3 rfl) ?_
      have eT_9 : k_b (nI b1) = 0 := by simp [k_b, c_2, kb19, c_8]
      exact W.iret (v := nI (m_hdf M b1 (3 * M 3 0))) hx hb hr (fun U9 ht hW => ⟨⟨_, (), rfl, (show nI (m_hdf M b1 (3 * M 3 0)) = r_held M (nI b1) from by simp [r_held, k_b, c_2, kb19, c_8]), by show va_P D vwCl _ U9.heap; rw [ht, eT_9]; exact hP⟩, hS.F ht⟩) hS.2.2 dX9_held_115
    · refine lv_aload_n hx hb dX9_held_30 rfl (lv_at hl 0 rfl) ?_
      refine m_get (v := .int (nI 0)) hx hb hts hin hown hK hP 0 (by decide) l_thrown rfl dX9_held_31 ?_
      refine n_if_ne (tgt := 114) hx hb dX9_held_34 (by decide) (by decide) (fun c9 => absurd c9 (by decide)) (fun _ => ?_)
      refine lv_bipush (v := nI 8) hx hb dX9_held_37 (by decide) ?_
      refine lv_iload_n hx hb dX9_held_39 rfl (lv_at hl 2 rfl) ?_
      refine n_imul hx hb dX9_held_40 (z := 8 * k) rfl ?_
      refine lv_iload_n hx hb dX9_held_41 rfl (lv_at hl 1 rfl) ?_
      refine n_iadd hx hb dX9_held_42 (z := (8 * k) + b1) rfl ?_
      refine lv_istore (lv' := [(4, .int (nI ((8 * k) + b1))), (0, .ref (ad 0)), (1, .int (nI b1)), (3, .int (nI k)), (2, .int (nI (m_hdf M b1 k)))]) hx hb dX9_held_43 hl (by decide) rfl (fun ls hl => ?_)
      refine lv_aload_n hx hb dX9_held_45 rfl (lv_at hl 1 rfl) ?_
      refine m_get hx hb hts hin hown hK hP 10 (by decide) l_price rfl dX9_held_46 ?_
      refine lv_iload hx hb dX9_held_49 (lv_at hl 0 rfl) ?_
      refine m_iald (f := 10) hx hb hK hP 8 rfl (by omega) (by decide) dX9_held_51 ?_
      refine n_if_le (tgt := 87) hx hb dX9_held_52 (by decide) (by have f1 : M 10 ((8 * k) + b1) ≤ 100000 := hM 10 ((8 * k) + b1); omega) (fun c_10 => ?_) (fun c_10 => ?_)
      · refine lv_iconst (v := nI 0) hx hb dX9_held_87 (by decide) ?_
        refine lv_istore (lv' := [(5, .int (nI 0)), (4, .int (nI ((8 * k) + b1))), (0, .ref (ad 0)), (1, .int (nI b1)), (3, .int (nI k)), (2, .int (nI (m_hdf M b1 k)))]) hx hb dX9_held_88 hl (by decide) rfl (fun ls hl => ?_)
        refine lv_iload_n hx hb dX9_held_90 rfl (lv_at hl 5 rfl) ?_
        refine lv_iload hx hb dX9_held_91 (lv_at hl 0 rfl) ?_
        refine n_if_eq (tgt := 105) hx hb dX9_held_93 (by decide) (by decide) (fun _ => ?_) (fun c9 => absurd c9 (by decide))
        refine lv_iconst (v := nI 0) hx hb dX9_held_105 (by decide) ?_
        refine n_iadd hx hb dX9_held_106 (z := (m_hdf M b1 k) + 0) rfl ?_
        refine lv_istore_n (lv' := [(2, .int (nI ((m_hdf M b1 k) + 0))), (5, .int (nI 0)), (4, .int (nI ((8 * k) + b1))), (0, .ref (ad 0)), (1, .int (nI b1)), (3, .int (nI k))]) hx hb dX9_held_107 rfl hl (by decide) rfl (fun ls hl => ?_)
        refine n_iinc (k := 5) (lv' := [(3, .int (nI (k + 1))), (2, .int (nI ((m_hdf M b1 k) + 0))), (5, .int (nI 0)), (4, .int (nI ((8 * k) + b1))), (0, .ref (ad 0)), (1, .int (nI b1))]) hx hb dX9_held_108 hl rfl (by decide) rfl (fun ls hl => ?_)
        refine lv_goto (tgt := 20) hx hb dX9_held_111 (by decide) ?_
        have e_11 : m_hdf M b1 (k + 1) = (m_hdf M b1 k) + 0 := by first | (simp [m_hdf, c_2, kb19, c_8, c_10]; done) | (rw [m_hdf, if_neg (by omega)])
        refine ih_6 (by omega) ls ?_
        show lv_has ls 6 [(0, .ref (ad 0)), (1, .int (nI b1)), (3, .int (nI (k + 1))), (2, .int (nI (m_hdf M b1 (k + 1))))]
        rw [e_11]
        exact lv_sub hl [4, 5, 0, 1] rfl
      · refine lv_aload_n hx hb dX9_held_55 rfl (lv_at hl 1 rfl) ?_
        refine m_get hx hb hts hin hown hK hP 13 (by decide) l_lacks rfl dX9_held_56 ?_
        refine lv_iload hx hb dX9_held_59 (lv_at hl 0 rfl) ?_
        refine m_zald (f := 13) hx hb hK hP 11 rfl (by omega) (by decide) dX9_held_61 ?_
        refine n_if_ne (tgt := 87) hx hb dX9_held_62 (by decide) (by have f1 : M 13 ((8 * k) + b1) ≤ 1 := hM 13 ((8 * k) + b1); omega) (fun c_12 => ?_) (fun c_12 => ?_)
        · refine lv_iconst (v := nI 0) hx hb dX9_held_87 (by decide) ?_
          refine lv_istore (lv' := [(5, .int (nI 0)), (4, .int (nI ((8 * k) + b1))), (0, .ref (ad 0)), (1, .int (nI b1)), (3, .int (nI k)), (2, .int (nI (m_hdf M b1 k)))]) hx hb dX9_held_88 hl (by decide) rfl (fun ls hl => ?_)
          refine lv_iload_n hx hb dX9_held_90 rfl (lv_at hl 5 rfl) ?_
          refine lv_iload hx hb dX9_held_91 (lv_at hl 0 rfl) ?_
          refine n_if_eq (tgt := 105) hx hb dX9_held_93 (by decide) (by decide) (fun _ => ?_) (fun c9 => absurd c9 (by decide))
          refine lv_iconst (v := nI 0) hx hb dX9_held_105 (by decide) ?_
          refine n_iadd hx hb dX9_held_106 (z := (m_hdf M b1 k) + 0) rfl ?_
          refine lv_istore_n (lv' := [(2, .int (nI ((m_hdf M b1 k) + 0))), (5, .int (nI 0)), (4, .int (nI ((8 * k) + b1))), (0, .ref (ad 0)), (1, .int (nI b1)), (3, .int (nI k))]) hx hb dX9_held_107 rfl hl (by decide) rfl (fun ls hl => ?_)
          refine n_iinc (k := 5) (lv' := [(3, .int (nI (k + 1))), (2, .int (nI ((m_hdf M b1 k) + 0))), (5, .int (nI 0)), (4, .int (nI ((8 * k) + b1))), (0, .ref (ad 0)), (1, .int (nI b1))]) hx hb dX9_held_108 hl rfl (by decide) rfl (fun ls hl => ?_)
          refine lv_goto (tgt := 20) hx hb dX9_held_111 (by decide) ?_
          have e_13 : m_hdf M b1 (k + 1) = (m_hdf M b1 k) + 0 := by first | (simp [m_hdf, c_2, kb19, c_8, c_10, c_12]; done) | (rw [m_hdf, if_neg (by omega)])
          refine ih_6 (by omega) ls ?_
          show lv_has ls 6 [(0, .ref (ad 0)), (1, .int (nI b1)), (3, .int (nI (k + 1))), (2, .int (nI (m_hdf M b1 (k + 1))))]
          rw [e_13]
          exact lv_sub hl [4, 5, 0, 1] rfl
        · refine lv_aload_n hx hb dX9_held_65 rfl (lv_at hl 1 rfl) ?_
          refine m_get hx hb hts hin hown hK hP 14 (by decide) l_isOut rfl dX9_held_66 ?_
          refine lv_iload hx hb dX9_held_69 (lv_at hl 0 rfl) ?_
          refine m_zald (f := 14) hx hb hK hP 12 rfl (by omega) (by decide) dX9_held_71 ?_
          refine n_if_ne (tgt := 87) hx hb dX9_held_72 (by decide) (by have f1 : M 14 ((8 * k) + b1) ≤ 1 := hM 14 ((8 * k) + b1); omega) (fun c_14 => ?_) (fun c_14 => ?_)
          · refine lv_iconst (v := nI 0) hx hb dX9_held_87 (by decide) ?_
            refine lv_istore (lv' := [(5, .int (nI 0)), (4, .int (nI ((8 * k) + b1))), (0, .ref (ad 0)), (1, .int (nI b1)), (3, .int (nI k)), (2, .int (nI (m_hdf M b1 k)))]) hx hb dX9_held_88 hl (by decide) rfl (fun ls hl => ?_)
            refine lv_iload_n hx hb dX9_held_90 rfl (lv_at hl 5 rfl) ?_
            refine lv_iload hx hb dX9_held_91 (lv_at hl 0 rfl) ?_
            refine n_if_eq (tgt := 105) hx hb dX9_held_93 (by decide) (by decide) (fun _ => ?_) (fun c9 => absurd c9 (by decide))
            refine lv_iconst (v := nI 0) hx hb dX9_held_105 (by decide) ?_
            refine n_iadd hx hb dX9_held_106 (z := (m_hdf M b1 k) + 0) rfl ?_
            refine lv_istore_n (lv' := [(2, .int (nI ((m_hdf M b1 k) + 0))), (5, .int (nI 0)), (4, .int (nI ((8 * k) + b1))), (0, .ref (ad 0)), (1, .int (nI b1)), (3, .int (nI k))]) hx hb dX9_held_107 rfl hl (by decide) rfl (fun ls hl => ?_)
            refine n_iinc (k := 5) (lv' := [(3, .int (nI (k + 1))), (2, .int (nI ((m_hdf M b1 k) + 0))), (5, .int (nI 0)), (4, .int (nI ((8 * k) + b1))), (0, .ref (ad 0)), (1, .int (nI b1))]) hx hb dX9_held_108 hl rfl (by decide) rfl (fun ls hl => ?_)
            refine lv_goto (tgt := 20) hx hb dX9_held_111 (by decide) ?_
            have e_15 : m_hdf M b1 (k + 1) = (m_hdf M b1 k) + 0 := by first | (simp [m_hdf, c_2, kb19, c_8, c_10, c_12, c_14]; done) | (rw [m_hdf, if_neg (by omega)])
            refine ih_6 (by omega) ls ?_
            show lv_has ls 6 [(0, .ref (ad 0)), (1, .int (nI b1)), (3, .int (nI (k + 1))), (2, .int (nI (m_hdf M b1 (k + 1))))]
            rw [e_15]
            exact lv_sub hl [4, 5, 0, 1] rfl
          · refine lv_aload_n hx hb dX9_held_75 rfl (lv_at hl 1 rfl) ?_
            refine lv_iload_n hx hb dX9_held_76 rfl (lv_at hl 3 rfl) ?_
            refine vp_callSi (W.runV (As := [.int (nI k)]) (rest := []) ⟨hx, hb, hml, hown, hts⟩ (c9_hasContract l D ad cI cZ cC 0 M hM  k (by omega)) (cwV 1 hts gX9_held_X9_hasContract rfl rfl rfl kd_X9_hasContract ⟨Nat.le_of_ble_eq_true rfl, Nat.le_of_ble_eq_true rfl⟩) ⟨mB_blind, m_recv hK hP, m_pre hK hP _⟩ rfl rfl hl.1 rfl (lv_room (Nat.le_of_ble_eq_true rfl)) dX9_held_77 ⟨Nat.le_of_ble_eq_true rfl, Nat.le_of_ble_eq_true rfl⟩) (fun r_16 hr_16 => ?_)
            subst hr_16
            refine b_if_ne (tgt := 87) hx hb dX9_held_80 (by decide)  (fun c_17 => ?_) (fun c_17 => ?_)
            · refine lv_iconst (v := nI 0) hx hb dX9_held_87 (by decide) ?_
              refine lv_istore (lv' := [(5, .int (nI 0)), (4, .int (nI ((8 * k) + b1))), (0, .ref (ad 0)), (1, .int (nI b1)), (3, .int (nI k)), (2, .int (nI (m_hdf M b1 k)))]) hx hb dX9_held_88 hl (by decide) rfl (fun ls hl => ?_)
              refine lv_iload_n hx hb dX9_held_90 rfl (lv_at hl 5 rfl) ?_
              refine lv_iload hx hb dX9_held_91 (lv_at hl 0 rfl) ?_
              refine n_if_eq (tgt := 105) hx hb dX9_held_93 (by decide) (by decide) (fun _ => ?_) (fun c9 => absurd c9 (by decide))
              refine lv_iconst (v := nI 0) hx hb dX9_held_105 (by decide) ?_
              refine n_iadd hx hb dX9_held_106 (z := (m_hdf M b1 k) + 0) rfl ?_
              refine lv_istore_n (lv' := [(2, .int (nI ((m_hdf M b1 k) + 0))), (5, .int (nI 0)), (4, .int (nI ((8 * k) + b1))), (0, .ref (ad 0)), (1, .int (nI b1)), (3, .int (nI k))]) hx hb dX9_held_107 rfl hl (by decide) rfl (fun ls hl => ?_)
              refine n_iinc (k := 5) (lv' := [(3, .int (nI (k + 1))), (2, .int (nI ((m_hdf M b1 k) + 0))), (5, .int (nI 0)), (4, .int (nI ((8 * k) + b1))), (0, .ref (ad 0)), (1, .int (nI b1))]) hx hb dX9_held_108 hl rfl (by decide) rfl (fun ls hl => ?_)
              refine lv_goto (tgt := 20) hx hb dX9_held_111 (by decide) ?_
              have e_18 : m_hdf M b1 (k + 1) = (m_hdf M b1 k) + 0 := by first | (simp [m_hdf, c_2, kb19, c_8, c_10, c_12, c_14, c_17]; done) | (rw [m_hdf, if_neg (by omega)])
              refine ih_6 (by omega) ls ?_
              show lv_has ls 6 [(0, .ref (ad 0)), (1, .int (nI b1)), (3, .int (nI (k + 1))), (2, .int (nI (m_hdf M b1 (k + 1))))]
              rw [e_18]
              exact lv_sub hl [4, 5, 0, 1] rfl
            · refine lv_iconst (v := nI 1) hx hb dX9_held_83 (by decide) ?_
              refine lv_goto (tgt := 88) hx hb dX9_held_84 (by decide) ?_
              refine lv_istore (lv' := [(5, .int (nI 1)), (4, .int (nI ((8 * k) + b1))), (0, .ref (ad 0)), (1, .int (nI b1)), (3, .int (nI k)), (2, .int (nI (m_hdf M b1 k)))]) hx hb dX9_held_88 hl (by decide) rfl (fun ls hl => ?_)
              refine lv_iload_n hx hb dX9_held_90 rfl (lv_at hl 5 rfl) ?_
              refine lv_iload hx hb dX9_held_91 (lv_at hl 0 rfl) ?_
              refine n_if_eq (tgt := 105) hx hb dX9_held_93 (by decide) (by decide) (fun c9 => absurd c9 (by decide)) (fun _ => ?_)
              refine lv_aload_n hx hb dX9_held_96 rfl (lv_at hl 2 rfl) ?_
              refine m_get hx hb hts hin hown hK hP 9 (by decide) l_deposit rfl dX9_held_97 ?_
              refine lv_iload_n hx hb dX9_held_100 rfl (lv_at hl 4 rfl) ?_
              refine m_iald (f := 9) hx hb hK hP 7 rfl (by omega) (by decide) dX9_held_101 ?_
              refine lv_goto (tgt := 106) hx hb dX9_held_102 (by decide) ?_
              refine n_iadd hx hb dX9_held_106 (z := (m_hdf M b1 k) + (M 9 k)) rfl ?_
              refine lv_istore_n (lv' := [(2, .int (nI ((m_hdf M b1 k) + (M 9 k)))), (5, .int (nI 1)), (4, .int (nI ((8 * k) + b1))), (0, .ref (ad 0)), (1, .int (nI b1)), (3, .int (nI k))]) hx hb dX9_held_107 rfl hl (by decide) rfl (fun ls hl => ?_)
              refine n_iinc (k := 5) (lv' := [(3, .int (nI (k + 1))), (2, .int (nI ((m_hdf M b1 k) + (M 9 k)))), (5, .int (nI 1)), (4, .int (nI ((8 * k) + b1))), (0, .ref (ad 0)), (1, .int (nI b1))]) hx hb dX9_held_108 hl rfl (by decide) rfl (fun ls hl => ?_)
              refine lv_goto (tgt := 20) hx hb dX9_held_111 (by decide) ?_
              have e_19 : m_hdf M b1 (k + 1) = (m_hdf M b1 k) + (M 9 k) := by first | (simp [m_hdf, c_2, kb19, c_8, c_10, c_12, c_14, c_17]; done) | (rw [m_hdf, if_neg (by omega)])
              refine ih_6 (by omega) ls ?_
              show lv_has ls 6 [(0, .ref (ad 0)), (1, .int (nI b1)), (3, .int (nI (k + 1))), (2, .int (nI (m_hdf M b1 (k + 1))))]
              rw [e_19]
              exact lv_sub hl [4, 5, 0, 1] rfl
set_option maxHeartbeats 4000000 in
set_option maxRecDepth 100000 in
theorem c9_lost (l : Launch) (D : va_G) (ad : Nat → Nat) (cI cZ cC : ClassId) (th : Nat) (M : MS) (hM : MI M) {A : Nat → Prop} (hD : mDis A ad) (b : Int32) : Met l yX9_lost wsX9_lost ({ frames := 2, cells := 0, slots := 0, locals := 42 }) (va_Pc [.ref (ad 0), .int b] (mB D ad cI cZ cC th M)) (va_Qi (fun (r : Int32) (_ : Unit) => r = r_lost M b) (fun _ U9 => va_P D vwCl (mws ad cI cZ cC (k_b b) M) U9.heap) A) 0 0 A := by
  refine Met.ofW (cc := cX9_lost) (maxL := 2) (ret := (some .int)) (by decide) rfl ?_
  intro p e s m args below meth c s₁ B hml hv
  obtain ⟨rfl, hP, hK⟩ := hv
  have hx := B.exec
  have hb := B.bytes
  have hr := B.returns
  have hts := atoms_spec (ws := wsX9_lost) B.pre
  have hown : s.vm.findClass RX9 = some m.cls := findClass_of_methodNamed B.named
  have hlocks := B.notSynchronized
  have hin : ∀ w ∈ wsX90, w ∈ wsX9_lost := fun w h => List.mem_cons_of_mem _ (List.mem_append_right _ h)
  have l_thrown := (hts (.fieldLink RX9 93 "TenderHallModel" "thrown" "I") (List.mem_of_getElem? (i := 1) rfl))
  have l_lost := (hts (.fieldLink RX9 86 "TenderHallModel" "lost" "[I") (List.mem_of_getElem? (i := 2) rfl))
  have hS : va_S A s.heap s.heap [] := va_S.rf
  have hl := lv_entry ([.ref (ad 0), .int b]) (n := 2) (Nat.le_of_ble_eq_true rfl)
  rw [lg_entry_eq]
  generalize (lg_sl ([.ref (ad 0), .int b]) ++ List.replicate (2 - (lg_sl ([.ref (ad 0), .int b])).length) Slot.unset).toArray = ls at hl ⊢
  have hl : lv_has ls 2 [(0, .ref (ad 0)), (1, .int b)] := hl
  have h36 : M 3 0 ≤ 6 := hM 3 0
  have h160 : M 16 0 ≤ 60 := hM 16 0
  have h220 : M 22 0 ≤ 60 := hM 22 0
  have h290 : M 29 0 ≤ 60 := hM 29 0
  have h120 : M 1 0 ≤ 2000 := hM 1 0
  refine lv_aload_n hx hb dX9_lost_0 rfl (lv_at hl 0 rfl) ?_
  refine lv_iload_n hx hb dX9_lost_1 rfl (lv_at hl 1 rfl) ?_
  refine vp_callSi (W.runS (As := [.int b]) (rest := [.ref (ad 0)]) ⟨hx, hb, hml, hown, hts⟩ (c9_isBidder l  b) (va_cwS 1 hts gX9_lost_X9_isBidder rfl rfl rfl kd_X9_isBidder ⟨Nat.le_of_ble_eq_true rfl, Nat.le_of_ble_eq_true rfl⟩) ⟨fun _ _ _ _ q => q, fun U hU hW => ⟨rfl, trivial⟩⟩ rfl rfl hl.1 rfl (lv_room (Nat.le_of_ble_eq_true rfl)) dX9_lost_2 ⟨Nat.le_of_ble_eq_true rfl, Nat.le_of_ble_eq_true rfl⟩) (fun r_1 hr_1 => ?_)
  subst hr_1
  refine b_if_eq (tgt := 12) hx hb dX9_lost_5 (by decide)  (fun c_2 => ?_) (fun c_2 => ?_)
  · refine lv_iconst (v := nI 1) hx hb dX9_lost_12 (by decide) ?_
    refine m_putT hx hb hts hin hown hK hP hD hS l_thrown dX9_lost_13 (fun H locs hP hS => ?_)
    refine lv_aload_n hx hb dX9_lost_16 rfl (lv_at hl 0 rfl) ?_
    refine m_get (v := .int (nI 1)) hx hb hts hin hown hK hP 0 (by decide) l_thrown rfl dX9_lost_17 ?_
    refine n_if_le (tgt := 27) hx hb dX9_lost_20 (by decide) (by decide) (fun c9 => absurd c9 (by decide)) (fun _ => ?_)
    refine lv_iconst (v := nI 0) hx hb dX9_lost_23 (by decide) ?_
    refine lv_goto (tgt := 33) hx hb dX9_lost_24 (by decide) ?_
    have eT_3 : k_b b = 1 := by simp [k_b, c_2]
    exact W.iret (v := nI 0) hx hb hr (fun U9 ht hW => ⟨⟨_, (), rfl, (show nI 0 = r_lost M b from by simp [r_lost, k_b, c_2]), by show va_P D vwCl _ U9.heap; rw [ht, eT_3]; exact hP⟩, hS.F ht⟩) hS.2.2 dX9_lost_33
  · obtain ⟨b1, hb1, rfl⟩ := isIx_of (by decide) c_2
    have kb19 : (nI b1).toNatClampNeg = b1 := nI_clamp (by omega)
    refine lv_iconst (v := nI 0) hx hb dX9_lost_8 (by decide) ?_
    refine lv_goto (tgt := 13) hx hb dX9_lost_9 (by decide) ?_
    refine m_putT hx hb hts hin hown hK hP hD hS l_thrown dX9_lost_13 (fun H locs hP hS => ?_)
    refine lv_aload_n hx hb dX9_lost_16 rfl (lv_at hl 0 rfl) ?_
    refine m_get (v := .int (nI 0)) hx hb hts hin hown hK hP 0 (by decide) l_thrown rfl dX9_lost_17 ?_
    refine n_if_le (tgt := 27) hx hb dX9_lost_20 (by decide) (by decide) (fun _ => ?_) (fun c9 => absurd c9 (by decide))
    refine lv_aload_n hx hb dX9_lost_27 rfl (lv_at hl 0 rfl) ?_
    refine m_get hx hb hts hin hown hK hP 32 (by decide) l_lost rfl dX9_lost_28 ?_
    refine lv_iload_n hx hb dX9_lost_31 rfl (lv_at hl 1 rfl) ?_
    refine m_iald (f := 32) hx hb hK hP 26 rfl (by omega) (by decide) dX9_lost_32 ?_
    have eT_4 : k_b (nI b1) = 0 := by simp [k_b, c_2, kb19]
    exact W.iret (v := nI (M 32 b1)) hx hb hr (fun U9 ht hW => ⟨⟨_, (), rfl, (show nI (M 32 b1) = r_lost M (nI b1) from by simp [r_lost, k_b, c_2, kb19]), by show va_P D vwCl _ U9.heap; rw [ht, eT_4]; exact hP⟩, hS.F ht⟩) hS.2.2 dX9_lost_33
