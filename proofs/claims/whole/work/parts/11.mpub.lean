set_option maxHeartbeats 4000000 in
set_option maxRecDepth 100000 in
theorem c9_gives (l : Launch) (D : va_G) (ad : Nat → Nat) (cI cZ cC : ClassId) (th : Nat) (M : MS) (hM : MI M) {A : Nat → Prop} (hD : mDis A ad) (k : Nat) (hk : k < 18) (ha : M 16 0 < 60) : Met l yX9_gives wsX9_gives ({ frames := 5, cells := 0, slots := 0, locals := 118 }) (va_Pc [.ref (ad 0), .int (nI k)] (mB D ad cI cZ cC th M)) (va_Qi (fun (r : Int32) (_ : Unit) => r = m_gvr M k) (fun _ U9 => va_P D vwCl (mws ad cI cZ cC th (m_gv M k)) U9.heap) A) 0 0 A := by
  refine Met.ofW (cc := cX9_gives) (maxL := 3) (ret := (some .int)) (by decide) rfl ?_
  intro p e s m args below meth c s₁ B hml hv
  obtain ⟨rfl, hP, hK⟩ := hv
  have hx := B.exec
  have hb := B.bytes
  have hr := B.returns
  have hts := atoms_spec (ws := wsX9_gives) B.pre
  have hown : s.vm.findClass RX9 = some m.cls := findClass_of_methodNamed B.named
  have hlocks := B.notSynchronized
  have hin : ∀ w ∈ wsX90, w ∈ wsX9_gives := fun w h => List.mem_cons_of_mem _ (List.mem_append_right _ h)
  have l_lotOf := (hts (.fieldLink RX9 47 "TenderHallModel" "lotOf" "[I") (List.mem_of_getElem? (i := 1) rfl))
  have l_awards := (hts (.fieldLink RX9 157 "TenderHallModel" "awards" "I") (List.mem_of_getElem? (i := 2) rfl))
  have l_won := (hts (.fieldLink RX9 50 "TenderHallModel" "won" "[I") (List.mem_of_getElem? (i := 3) rfl))
  have l_awardDay := (hts (.fieldLink RX9 53 "TenderHallModel" "awardDay" "[I") (List.mem_of_getElem? (i := 4) rfl))
  have l_today := (hts (.fieldLink RX9 108 "TenderHallModel" "today" "I") (List.mem_of_getElem? (i := 5) rfl))
  have hS : va_S A s.heap s.heap [] := va_S.rf
  have hl := lv_entry ([.ref (ad 0), .int (nI k)]) (n := 3) (Nat.le_of_ble_eq_true rfl)
  rw [lg_entry_eq]
  generalize (lg_sl ([.ref (ad 0), .int (nI k)]) ++ List.replicate (3 - (lg_sl ([.ref (ad 0), .int (nI k)])).length) Slot.unset).toArray = ls at hl ⊢
  have hl : lv_has ls 3 [(0, .ref (ad 0)), (1, .int (nI k))] := hl
  have h36 : M 3 0 ≤ 6 := hM 3 0
  have h160 : M 16 0 ≤ 60 := hM 16 0
  have h220 : M 22 0 ≤ 60 := hM 22 0
  have h290 : M 29 0 ≤ 60 := hM 29 0
  have h120 : M 1 0 ≤ 2000 := hM 1 0
  refine lv_aload_n hx hb dX9_gives_0 rfl (lv_at hl 0 rfl) ?_
  refine lv_iload_n hx hb dX9_gives_1 rfl (lv_at hl 1 rfl) ?_
  refine lv_iconst (v := nI 0) hx hb dX9_gives_2 (by decide) ?_
  refine vp_callSi (W.runV (As := [.int (nI k), .int (nI 0)]) (rest := []) ⟨hx, hb, hml, hown, hts⟩ (c9_rankedAt l D ad cI cZ cC th M hM  k 0 (by omega) (by omega)) (cwV 2 hts gX9_gives_X9_rankedAt rfl rfl rfl kd_X9_rankedAt ⟨Nat.le_of_ble_eq_true rfl, Nat.le_of_ble_eq_true rfl⟩) ⟨mB_blind, m_recv hK hP, m_pre hK hP _⟩ rfl rfl hl.1 rfl (lv_room (Nat.le_of_ble_eq_true rfl)) dX9_gives_3 ⟨Nat.le_of_ble_eq_true rfl, Nat.le_of_ble_eq_true rfl⟩) (fun r_1 hr_1 => ?_)
  subst hr_1
  rcases ho_2 : m_rk M k 0 with _ | o_2
  · have hn1 : optI (none : Option Nat) = (-1) := rfl
    rw [hn1]
    refine lv_istore_n (lv' := [(2, .int (-1)), (0, .ref (ad 0)), (1, .int (nI k))]) hx hb dX9_gives_6 rfl hl (by decide) rfl (fun ls hl => ?_)
    refine lv_iload_n hx hb dX9_gives_7 rfl (lv_at hl 0 rfl) ?_
    refine lv_iconst (v := (-1)) hx hb dX9_gives_8 (by decide) ?_
    refine lv_icmp_ne (tgt := 14) hx hb dX9_gives_9 (by decide)  (fun c9 => absurd c9 (by decide)) (fun _ => ?_)
    refine lv_iconst (v := (-1)) hx hb dX9_gives_12 (by decide) ?_
    have eM_3 : m_gv M k = M := by simp [m_gv, ho_2]
    exact W.iret (v := (-1)) hx hb hr (fun U9 ht hW => ⟨⟨_, (), rfl, (show (-1) = m_gvr M k from by simp [m_gvr, ho_2]), by show va_P D vwCl _ U9.heap; rw [ht, eM_3]; exact hP⟩, hS.F ht⟩) hS.2.2 dX9_gives_13
  · have hn1 : optI (some o_2) = nI o_2 := rfl
    rw [hn1]
    refine lv_istore_n (lv' := [(2, .int (nI o_2)), (0, .ref (ad 0)), (1, .int (nI k))]) hx hb dX9_gives_6 rfl hl (by decide) rfl (fun ls hl => ?_)
    refine lv_iload_n hx hb dX9_gives_7 rfl (lv_at hl 0 rfl) ?_
    refine lv_iconst (v := (-1)) hx hb dX9_gives_8 (by decide) ?_
    refine lv_icmp_ne (tgt := 14) hx hb dX9_gives_9 (by decide) (fun _ => ?_) (fun c9 => absurd c9 (nI_nem1 (by have f1 := (m_rkf_lt M k 0 8 o_2 ho_2).1; omega)))
    refine lv_aload_n hx hb dX9_gives_14 rfl (lv_at hl 1 rfl) ?_
    refine m_get hx hb hts hin hown hK hP 17 (by decide) l_lotOf rfl dX9_gives_15 ?_
    refine lv_aload_n hx hb dX9_gives_18 rfl (lv_at hl 1 rfl) ?_
    refine m_get (v := .int (nI (M 16 0))) hx hb hts hin hown hK hP 16 (by decide) l_awards rfl dX9_gives_19 ?_
    refine lv_iload_n hx hb dX9_gives_22 rfl (lv_at hl 2 rfl) ?_
    refine m_iast (f := 17) (v := k) hx hb hK hP hD hS 13 rfl (by have f1 : M 16 0 ≤ 60 := hM 16 0; omega) (by decide) (mset_17 _ _ _ _ _ _ _ _) dX9_gives_23 (fun H locs hP hS => ?_)
    refine lv_aload_n hx hb dX9_gives_24 rfl (lv_at hl 1 rfl) ?_
    refine m_get hx hb hts hin hown hK hP 18 (by decide) l_won rfl dX9_gives_25 ?_
    refine lv_aload_n hx hb dX9_gives_28 rfl (lv_at hl 1 rfl) ?_
    refine m_get (v := .int (nI (M 16 0))) hx hb hts hin hown hK hP 16 (by decide) l_awards rfl dX9_gives_29 ?_
    refine lv_iload_n hx hb dX9_gives_32 rfl (lv_at hl 0 rfl) ?_
    refine m_iast (f := 18) (v := o_2) hx hb hK hP hD hS 14 rfl (by have f1 : M 16 0 ≤ 60 := hM 16 0; omega) (by decide) (mset_18 _ _ _ _ _ _ _ _) dX9_gives_33 (fun H locs hP hS => ?_)
    refine lv_aload_n hx hb dX9_gives_34 rfl (lv_at hl 1 rfl) ?_
    refine m_get hx hb hts hin hown hK hP 19 (by decide) l_awardDay rfl dX9_gives_35 ?_
    refine lv_aload_n hx hb dX9_gives_38 rfl (lv_at hl 1 rfl) ?_
    refine m_get (v := .int (nI (M 16 0))) hx hb hts hin hown hK hP 16 (by decide) l_awards rfl dX9_gives_39 ?_
    refine lv_aload_n hx hb dX9_gives_42 rfl (lv_at hl 1 rfl) ?_
    refine m_get (v := .int (nI (M 1 0))) hx hb hts hin hown hK hP 1 (by decide) l_today rfl dX9_gives_43 ?_
    refine m_iast (f := 19) (v := M 1 0) hx hb hK hP hD hS 15 rfl (by have f1 : M 16 0 ≤ 60 := hM 16 0; omega) (by decide) (mset_19 _ _ _ _ _ _ _ _) dX9_gives_46 (fun H locs hP hS => ?_)
    refine lv_aload_n hx hb dX9_gives_47 rfl (lv_at hl 1 rfl) ?_
    refine lv_dup hx hb dX9_gives_48 rfl ?_
    refine m_get (v := .int (nI (M 16 0))) hx hb hts hin hown hK hP 16 (by decide) l_awards rfl dX9_gives_49 ?_
    refine lv_iconst (v := nI 1) hx hb dX9_gives_52 (by decide) ?_
    refine n_iadd hx hb dX9_gives_53 (z := (M 16 0) + 1) rfl ?_
    refine m_put hx hb hts hin hown hK hP hD hS 16 (by decide) l_awards rfl rfl (mset_16 _ _ _ _ _ _ _) dX9_gives_54 (fun H locs hP hS => ?_)
    refine lv_aload_n hx hb dX9_gives_57 rfl (lv_at hl 1 rfl) ?_
    refine m_get (v := .int (nI ((M 16 0) + 1))) hx hb hts hin hown hK hP 16 (by decide) l_awards rfl dX9_gives_58 ?_
    refine lv_iconst (v := nI 1) hx hb dX9_gives_61 (by decide) ?_
    refine n_isub hx hb dX9_gives_62 (z := ((M 16 0) + 1) - 1) (by have f1 : M 16 0 ≤ 60 := hM 16 0; omega) rfl ?_
    have eM_4 : m_gv M k = mu (mu (mu (mu M 17 (M 16 0) k) 18 (M 16 0) o_2) 19 (M 16 0) (M 1 0)) 16 0 ((M 16 0) + 1) := by simp [m_gv, ho_2]
    exact W.iret (v := nI (((M 16 0) + 1) - 1)) hx hb hr (fun U9 ht hW => ⟨⟨_, (), rfl, (show nI (((M 16 0) + 1) - 1) = m_gvr M k from by simp [m_gvr, ho_2]), by show va_P D vwCl _ U9.heap; rw [ht, eM_4]; exact hP⟩, hS.F ht⟩) hS.2.2 dX9_gives_63
set_option maxHeartbeats 4000000 in
set_option maxRecDepth 100000 in
theorem c9_lapses (l : Launch) (D : va_G) (ad : Nat → Nat) (cI cZ cC : ClassId) (th : Nat) (M : MS) (hM : MI M) {A : Nat → Prop} (hD : mDis A ad) (hz : m_lost M 1199400000) : Met l yX9_lapses wsX9_lapses ({ frames := 6, cells := 0, slots := 0, locals := 140 }) (va_Pc [.ref (ad 0)] (mB D ad cI cZ cC th M)) (va_Qi (fun (r : Int32) (_ : Unit) => r = nI (m_lpn M (M 16 0))) (fun _ U9 => va_P D vwCl (mws ad cI cZ cC th (m_lp M)) U9.heap) A) 0 0 A := by
  refine Met.ofW (cc := cX9_lapses) (maxL := 4) (ret := (some .int)) (by decide) rfl ?_
  intro p e s m args below meth c s₁ B hml hv
  obtain ⟨rfl, hP, hK⟩ := hv
  have hx := B.exec
  have hb := B.bytes
  have hr := B.returns
  have hts := atoms_spec (ws := wsX9_lapses) B.pre
  have hown : s.vm.findClass RX9 = some m.cls := findClass_of_methodNamed B.named
  have hlocks := B.notSynchronized
  have hin : ∀ w ∈ wsX90, w ∈ wsX9_lapses := fun w h => List.mem_cons_of_mem _ (List.mem_append_right _ h)
  have l_awards := (hts (.fieldLink RX9 157 "TenderHallModel" "awards" "I") (List.mem_of_getElem? (i := 1) rfl))
  have l_signed := (hts (.fieldLink RX9 59 "TenderHallModel" "signed" "[I") (List.mem_of_getElem? (i := 2) rfl))
  have l_today := (hts (.fieldLink RX9 108 "TenderHallModel" "today" "I") (List.mem_of_getElem? (i := 3) rfl))
  have l_isVoid := (hts (.fieldLink RX9 56 "TenderHallModel" "isVoid" "[Z") (List.mem_of_getElem? (i := 4) rfl))
  have l_lost := (hts (.fieldLink RX9 86 "TenderHallModel" "lost" "[I") (List.mem_of_getElem? (i := 5) rfl))
  have l_won := (hts (.fieldLink RX9 50 "TenderHallModel" "won" "[I") (List.mem_of_getElem? (i := 6) rfl))
  have l_deposit := (hts (.fieldLink RX9 28 "TenderHallModel" "deposit" "[I") (List.mem_of_getElem? (i := 7) rfl))
  have l_lotOf := (hts (.fieldLink RX9 47 "TenderHallModel" "lotOf" "[I") (List.mem_of_getElem? (i := 8) rfl))
  have l_isOut := (hts (.fieldLink RX9 44 "TenderHallModel" "isOut" "[Z") (List.mem_of_getElem? (i := 9) rfl))
  have hS : va_S A s.heap s.heap [] := va_S.rf
  have hl := lv_entry ([.ref (ad 0)]) (n := 4) (Nat.le_of_ble_eq_true rfl)
  rw [lg_entry_eq]
  generalize (lg_sl ([.ref (ad 0)]) ++ List.replicate (4 - (lg_sl ([.ref (ad 0)])).length) Slot.unset).toArray = ls at hl ⊢
  have hl : lv_has ls 4 [(0, .ref (ad 0))] := hl
  have h36 : M 3 0 ≤ 6 := hM 3 0
  have h160 : M 16 0 ≤ 60 := hM 16 0
  have h220 : M 22 0 ≤ 60 := hM 22 0
  have h290 : M 29 0 ≤ 60 := hM 29 0
  have h120 : M 1 0 ≤ 2000 := hM 1 0
  refine lv_aload_n hx hb dX9_lapses_0 rfl (lv_at hl 0 rfl) ?_
  refine m_get (v := .int (nI (M 16 0))) hx hb hts hin hown hK hP 16 (by decide) l_awards rfl dX9_lapses_1 ?_
  refine lv_istore_n (lv' := [(1, .int (nI (M 16 0))), (0, .ref (ad 0))]) hx hb dX9_lapses_4 rfl hl (by decide) rfl (fun ls hl => ?_)
  refine lv_iconst (v := nI 0) hx hb dX9_lapses_5 (by decide) ?_
  refine lv_istore_n (lv' := [(2, .int (nI 0)), (1, .int (nI (M 16 0))), (0, .ref (ad 0))]) hx hb dX9_lapses_6 rfl hl (by decide) rfl (fun ls hl => ?_)
  refine lv_iconst (v := nI 0) hx hb dX9_lapses_7 (by decide) ?_
  refine lv_istore_n (lv' := [(3, .int (nI 0)), (2, .int (nI 0)), (1, .int (nI (M 16 0))), (0, .ref (ad 0))]) hx hb dX9_lapses_8 rfl hl (by decide) rfl (fun ls hl => ?_)
  refine m_loop (D := D) (ad := ad) (cI := cI) (cZ := cZ) (cC := cC) (th := th) (A := A) (e := M 16 0) (nL := 4) (fun a => [(0, .ref (ad 0)), (1, .int (nI (M 16 0))), (3, .int (nI a)), (2, .int (nI (m_lpn M a)))]) (fun a => m_lpf M a) (fun a hb_2 ih_1 H locs ls hP hS hl => ?_) 0 (by omega) _ _ ls hP hS (lv_sub hl [3, 2, 0, 1] rfl)
  have hl9 : ∀ b, m_lpf M a 32 b ≤ 1199400000 + 10000 * a := (m_lpf_inv hM hz a (by omega)).2
  refine lv_iload_n hx hb dX9_lapses_9 rfl (lv_at hl 2 rfl) ?_
  refine lv_iload_n hx hb dX9_lapses_10 rfl (lv_at hl 1 rfl) ?_
  refine n_icmp_ge (tgt := 129) hx hb dX9_lapses_11 (by decide) (by omega) (by omega) (fun c_3 => ?_) (fun c_3 => ?_)
  · obtain rfl : M 16 0 = a := by omega
    refine lv_iload_n hx hb dX9_lapses_129 rfl (lv_at hl 3 rfl) ?_
    have eM_4 : m_lp M = m_lpf M (M 16 0) := by rfl
    exact W.iret (v := nI (m_lpn M (M 16 0))) hx hb hr (fun U9 ht hW => ⟨⟨_, (), rfl, rfl, by show va_P D vwCl _ U9.heap; rw [ht, eM_4]; exact hP⟩, hS.F ht⟩) hS.2.2 dX9_lapses_130
  · refine lv_aload_n hx hb dX9_lapses_14 rfl (lv_at hl 0 rfl) ?_
    refine m_get (v := .int (nI ((m_lpf M a) 16 0))) hx hb hts hin hown hK hP 16 (by decide) l_awards rfl dX9_lapses_15 ?_
    refine lv_bipush (v := nI 60) hx hb dX9_lapses_18 (by decide) ?_
    refine n_icmp_ge (tgt := 123) hx hb dX9_lapses_20 (by decide) (by have f1 : (m_lpf M a) 16 0 ≤ 60 := (m_lpf_inv hM hz a (by omega)).1 16 0; omega) (by decide) (fun c_5 => ?_) (fun c_5 => ?_)
    · refine n_iinc (k := 2) (lv' := [(3, .int (nI (a + 1))), (0, .ref (ad 0)), (1, .int (nI (M 16 0))), (2, .int (nI (m_lpn M a)))]) hx hb dX9_lapses_123 hl rfl (by decide) rfl (fun ls hl => ?_)
      refine lv_goto (tgt := 9) hx hb dX9_lapses_126 (by decide) ?_
      have e_6 : m_lpn M (a + 1) = m_lpn M a := by simp [m_lpn, m_lpc_f1, m_lpc_f2, m_lpc_f3, m_lpc_f4, m_lpc_t, c_3, c_5]
      have eM_7 : m_lpf M (a + 1) = m_lpf M a := by first | (simp [m_lpf, m_lpc_f1, m_lpc_f2, m_lpc_f3, m_lpc_f4, c_3, c_5]; done) | (rw [m_lpf, if_pos (m_lpc_t c_5 rfl rfl rfl)]; rfl)
      refine ih_1 (by omega) _ _ ls (by rw [eM_7]; exact hP) hS ?_
      show lv_has ls 4 [(0, .ref (ad 0)), (1, .int (nI (M 16 0))), (3, .int (nI (a + 1))), (2, .int (nI (m_lpn M (a + 1))))]
      rw [e_6]
      exact lv_sub hl [1, 2, 0, 3] rfl
    · refine lv_aload_n hx hb dX9_lapses_23 rfl (lv_at hl 0 rfl) ?_
      refine m_get hx hb hts hin hown hK hP 21 (by decide) l_signed rfl dX9_lapses_24 ?_
      refine lv_iload_n hx hb dX9_lapses_27 rfl (lv_at hl 2 rfl) ?_
      refine m_iald (f := 21) hx hb hK hP 17 rfl (by omega) (by decide) dX9_lapses_28 ?_
      refine n_if_ne (tgt := 123) hx hb dX9_lapses_29 (by decide) (by have f1 : (m_lpf M a) 21 a ≤ 60 := (m_lpf_inv hM hz a (by omega)).1 21 a; omega) (fun c_8 => ?_) (fun c_8 => ?_)
      · refine n_iinc (k := 2) (lv' := [(3, .int (nI (a + 1))), (0, .ref (ad 0)), (1, .int (nI (M 16 0))), (2, .int (nI (m_lpn M a)))]) hx hb dX9_lapses_123 hl rfl (by decide) rfl (fun ls hl => ?_)
        refine lv_goto (tgt := 9) hx hb dX9_lapses_126 (by decide) ?_
        have e_9 : m_lpn M (a + 1) = m_lpn M a := by simp [m_lpn, m_lpc_f1, m_lpc_f2, m_lpc_f3, m_lpc_f4, m_lpc_t, c_3, c_5, c_8]
        have eM_10 : m_lpf M (a + 1) = m_lpf M a := by first | (simp [m_lpf, m_lpc_f1, m_lpc_f2, m_lpc_f3, m_lpc_f4, c_3, c_5, c_8]; done) | (rw [m_lpf, if_pos (m_lpc_t c_5 c_8 rfl rfl)]; rfl)
        refine ih_1 (by omega) _ _ ls (by rw [eM_10]; exact hP) hS ?_
        show lv_has ls 4 [(0, .ref (ad 0)), (1, .int (nI (M 16 0))), (3, .int (nI (a + 1))), (2, .int (nI (m_lpn M (a + 1))))]
        rw [e_9]
        exact lv_sub hl [1, 2, 0, 3] rfl
      · refine lv_aload_n hx hb dX9_lapses_32 rfl (lv_at hl 0 rfl) ?_
        refine lv_iload_n hx hb dX9_lapses_33 rfl (lv_at hl 2 rfl) ?_
        refine vp_callSi (W.runV (As := [.int (nI a)]) (rest := []) ⟨hx, hb, hml, hown, hts⟩ (c9_isFinalNow l D ad cI cZ cC th (m_lpf M a) (m_lpf_inv hM hz a (by omega)).1  a (by omega)) (cwV 1 hts gX9_lapses_X9_isFinalNow rfl rfl rfl kd_X9_isFinalNow ⟨Nat.le_of_ble_eq_true rfl, Nat.le_of_ble_eq_true rfl⟩) ⟨mB_blind, m_recv hK hP, m_pre hK hP _⟩ rfl rfl hl.1 rfl (lv_room (Nat.le_of_ble_eq_true rfl)) dX9_lapses_34 ⟨Nat.le_of_ble_eq_true rfl, Nat.le_of_ble_eq_true rfl⟩) (fun r_11 hr_11 => ?_)
        subst hr_11
        refine b_if_eq (tgt := 123) hx hb dX9_lapses_37 (by decide)  (fun c_12 => ?_) (fun c_12 => ?_)
        · refine n_iinc (k := 2) (lv' := [(3, .int (nI (a + 1))), (0, .ref (ad 0)), (1, .int (nI (M 16 0))), (2, .int (nI (m_lpn M a)))]) hx hb dX9_lapses_123 hl rfl (by decide) rfl (fun ls hl => ?_)
          refine lv_goto (tgt := 9) hx hb dX9_lapses_126 (by decide) ?_
          have e_13 : m_lpn M (a + 1) = m_lpn M a := by simp [m_lpn, m_lpc_f1, m_lpc_f2, m_lpc_f3, m_lpc_f4, m_lpc_t, c_3, c_5, c_8, c_12]
          have eM_14 : m_lpf M (a + 1) = m_lpf M a := by first | (simp [m_lpf, m_lpc_f1, m_lpc_f2, m_lpc_f3, m_lpc_f4, c_3, c_5, c_8, c_12]; done) | (rw [m_lpf, if_pos (m_lpc_t c_5 c_8 c_12 rfl)]; rfl)
          refine ih_1 (by omega) _ _ ls (by rw [eM_14]; exact hP) hS ?_
          show lv_has ls 4 [(0, .ref (ad 0)), (1, .int (nI (M 16 0))), (3, .int (nI (a + 1))), (2, .int (nI (m_lpn M (a + 1))))]
          rw [e_13]
          exact lv_sub hl [1, 2, 0, 3] rfl
        · refine lv_aload_n hx hb dX9_lapses_40 rfl (lv_at hl 0 rfl) ?_
          refine m_get (v := .int (nI ((m_lpf M a) 1 0))) hx hb hts hin hown hK hP 1 (by decide) l_today rfl dX9_lapses_41 ?_
          refine lv_aload_n hx hb dX9_lapses_44 rfl (lv_at hl 0 rfl) ?_
          refine lv_iload_n hx hb dX9_lapses_45 rfl (lv_at hl 2 rfl) ?_
          refine vp_callSi (W.runV (As := [.int (nI a)]) (rest := [.int (nI ((m_lpf M a) 1 0))]) ⟨hx, hb, hml, hown, hts⟩ (c9_standsUntil l D ad cI cZ cC th (m_lpf M a) (m_lpf_inv hM hz a (by omega)).1  a (by omega)) (cwV 1 hts gX9_lapses_X9_standsUntil rfl rfl rfl kd_X9_standsUntil ⟨Nat.le_of_ble_eq_true rfl, Nat.le_of_ble_eq_true rfl⟩) ⟨mB_blind, m_recv hK hP, m_pre hK hP _⟩ rfl rfl hl.1 rfl (lv_room (Nat.le_of_ble_eq_true rfl)) dX9_lapses_46 ⟨Nat.le_of_ble_eq_true rfl, Nat.le_of_ble_eq_true rfl⟩) (fun r_15 hr_15 => ?_)
          subst hr_15
          refine lv_bipush (v := nI 30) hx hb dX9_lapses_49 (by decide) ?_
          refine n_iadd hx hb dX9_lapses_51 (z := (m_su (m_lpf M a) a) + 30) rfl ?_
          refine n_icmp_lt (tgt := 123) hx hb dX9_lapses_52 (by decide) (by have f1 : (m_lpf M a) 1 0 ≤ 2000 := (m_lpf_inv hM hz a (by omega)).1 1 0; omega) (by have f1 := (m_su_le (m_lpf_inv hM hz a (by omega)).1 a); omega) (fun c_16 => ?_) (fun c_16 => ?_)
          · refine n_iinc (k := 2) (lv' := [(3, .int (nI (a + 1))), (0, .ref (ad 0)), (1, .int (nI (M 16 0))), (2, .int (nI (m_lpn M a)))]) hx hb dX9_lapses_123 hl rfl (by decide) rfl (fun ls hl => ?_)
            refine lv_goto (tgt := 9) hx hb dX9_lapses_126 (by decide) ?_
            have e_17 : m_lpn M (a + 1) = m_lpn M a := by simp [m_lpn, m_lpc_f1, m_lpc_f2, m_lpc_f3, m_lpc_f4, m_lpc_t, c_3, c_5, c_8, c_12, c_16]
            have eM_18 : m_lpf M (a + 1) = m_lpf M a := by first | (simp [m_lpf, m_lpc_f1, m_lpc_f2, m_lpc_f3, m_lpc_f4, c_3, c_5, c_8, c_12, c_16]; done) | (rw [m_lpf, if_pos (m_lpc_t c_5 c_8 c_12 c_16)]; rfl)
            refine ih_1 (by omega) _ _ ls (by rw [eM_18]; exact hP) hS ?_
            show lv_has ls 4 [(0, .ref (ad 0)), (1, .int (nI (M 16 0))), (3, .int (nI (a + 1))), (2, .int (nI (m_lpn M (a + 1))))]
            rw [e_17]
            exact lv_sub hl [1, 2, 0, 3] rfl
          · refine lv_aload_n hx hb dX9_lapses_55 rfl (lv_at hl 0 rfl) ?_
            refine m_get hx hb hts hin hown hK hP 20 (by decide) l_isVoid rfl dX9_lapses_56 ?_
            refine lv_iload_n hx hb dX9_lapses_59 rfl (lv_at hl 2 rfl) ?_
            refine lv_iconst (v := nI 1) hx hb dX9_lapses_60 (by decide) ?_
            refine m_zast (f := 20) (v := 1) hx hb hK hP hD hS 16 rfl (by omega) (by decide) (by decide) (mset_20 _ _ _ _ _ _ _ _) dX9_lapses_61 (fun H locs hP hS => ?_)
            refine lv_aload_n hx hb dX9_lapses_62 rfl (lv_at hl 0 rfl) ?_
            refine m_get hx hb hts hin hown hK hP 32 (by decide) l_lost rfl dX9_lapses_63 ?_
            refine lv_aload_n hx hb dX9_lapses_66 rfl (lv_at hl 0 rfl) ?_
            refine m_get hx hb hts hin hown hK hP 18 (by decide) l_won rfl dX9_lapses_67 ?_
            refine lv_iload_n hx hb dX9_lapses_70 rfl (lv_at hl 2 rfl) ?_
            refine m_iald (f := 18) hx hb hK hP 14 rfl (by omega) (by decide) dX9_lapses_71 ?_
            rw [show (mu (m_lpf M a) 20 a 1) 18 a = (m_lpf M a) 18 a from rfl]
            refine lv_dup2_11 hx hb dX9_lapses_72 rfl rfl ?_
            refine m_iald (f := 32) hx hb hK hP 26 rfl (by have f1 : (m_lpf M a) 18 a ≤ 7 := (m_lpf_inv hM hz a (by omega)).1 18 a; omega) (by decide) dX9_lapses_73 ?_
            rw [show (mu (m_lpf M a) 20 a 1) 32 ((m_lpf M a) 18 a) = (m_lpf M a) 32 ((m_lpf M a) 18 a) from rfl]
            refine lv_aload_n hx hb dX9_lapses_74 rfl (lv_at hl 0 rfl) ?_
            refine m_get hx hb hts hin hown hK hP 9 (by decide) l_deposit rfl dX9_lapses_75 ?_
            refine lv_aload_n hx hb dX9_lapses_78 rfl (lv_at hl 0 rfl) ?_
            refine m_get hx hb hts hin hown hK hP 17 (by decide) l_lotOf rfl dX9_lapses_79 ?_
            refine lv_iload_n hx hb dX9_lapses_82 rfl (lv_at hl 2 rfl) ?_
            refine m_iald (f := 17) hx hb hK hP 13 rfl (by omega) (by decide) dX9_lapses_83 ?_
            rw [show (mu (m_lpf M a) 20 a 1) 17 a = (m_lpf M a) 17 a from rfl]
            refine m_iald (f := 9) hx hb hK hP 7 rfl (by have f1 : (m_lpf M a) 17 a ≤ 17 := (m_lpf_inv hM hz a (by omega)).1 17 a; omega) (by decide) dX9_lapses_84 ?_
            rw [show (mu (m_lpf M a) 20 a 1) 9 ((m_lpf M a) 17 a) = (m_lpf M a) 9 ((m_lpf M a) 17 a) from rfl]
            refine n_iadd hx hb dX9_lapses_85 (z := ((m_lpf M a) 32 ((m_lpf M a) 18 a)) + ((m_lpf M a) 9 ((m_lpf M a) 17 a))) rfl ?_
            refine m_iast (f := 32) (v := ((m_lpf M a) 32 ((m_lpf M a) 18 a)) + ((m_lpf M a) 9 ((m_lpf M a) 17 a))) hx hb hK hP hD hS 26 rfl (by have f1 : (m_lpf M a) 18 a ≤ 7 := (m_lpf_inv hM hz a (by omega)).1 18 a; omega) (by decide) (mset_32 _ _ _ _ _ _ _ _) dX9_lapses_86 (fun H locs hP hS => ?_)
            refine lv_aload_n hx hb dX9_lapses_87 rfl (lv_at hl 0 rfl) ?_
            refine m_get hx hb hts hin hown hK hP 14 (by decide) l_isOut rfl dX9_lapses_88 ?_
            refine lv_bipush (v := nI 8) hx hb dX9_lapses_91 (by decide) ?_
            refine lv_aload_n hx hb dX9_lapses_93 rfl (lv_at hl 0 rfl) ?_
            refine m_get hx hb hts hin hown hK hP 17 (by decide) l_lotOf rfl dX9_lapses_94 ?_
            refine lv_iload_n hx hb dX9_lapses_97 rfl (lv_at hl 2 rfl) ?_
            refine m_iald (f := 17) hx hb hK hP 13 rfl (by omega) (by decide) dX9_lapses_98 ?_
            rw [show (mu (mu (m_lpf M a) 20 a 1) 32 ((m_lpf M a) 18 a) (((m_lpf M a) 32 ((m_lpf M a) 18 a)) + ((m_lpf M a) 9 ((m_lpf M a) 17 a)))) 17 a = (m_lpf M a) 17 a from rfl]
            refine n_imul hx hb dX9_lapses_99 (z := 8 * ((m_lpf M a) 17 a)) rfl ?_
            refine lv_aload_n hx hb dX9_lapses_100 rfl (lv_at hl 0 rfl) ?_
            refine m_get hx hb hts hin hown hK hP 18 (by decide) l_won rfl dX9_lapses_101 ?_
            refine lv_iload_n hx hb dX9_lapses_104 rfl (lv_at hl 2 rfl) ?_
            refine m_iald (f := 18) hx hb hK hP 14 rfl (by omega) (by decide) dX9_lapses_105 ?_
            rw [show (mu (mu (m_lpf M a) 20 a 1) 32 ((m_lpf M a) 18 a) (((m_lpf M a) 32 ((m_lpf M a) 18 a)) + ((m_lpf M a) 9 ((m_lpf M a) 17 a)))) 18 a = (m_lpf M a) 18 a from rfl]
            refine n_iadd hx hb dX9_lapses_106 (z := (8 * ((m_lpf M a) 17 a)) + ((m_lpf M a) 18 a)) rfl ?_
            refine lv_iconst (v := nI 1) hx hb dX9_lapses_107 (by decide) ?_
            refine m_zast (f := 14) (v := 1) hx hb hK hP hD hS 12 rfl (by have f1 : (m_lpf M a) 17 a ≤ 17 := (m_lpf_inv hM hz a (by omega)).1 17 a; have f2 : (m_lpf M a) 18 a ≤ 7 := (m_lpf_inv hM hz a (by omega)).1 18 a; omega) (by decide) (by decide) (mset_14 _ _ _ _ _ _ _ _) dX9_lapses_108 (fun H locs hP hS => ?_)
            refine lv_aload_n hx hb dX9_lapses_109 rfl (lv_at hl 0 rfl) ?_
            refine lv_aload_n hx hb dX9_lapses_110 rfl (lv_at hl 0 rfl) ?_
            refine m_get hx hb hts hin hown hK hP 17 (by decide) l_lotOf rfl dX9_lapses_111 ?_
            refine lv_iload_n hx hb dX9_lapses_114 rfl (lv_at hl 2 rfl) ?_
            refine m_iald (f := 17) hx hb hK hP 13 rfl (by omega) (by decide) dX9_lapses_115 ?_
            rw [show (mu (mu (mu (m_lpf M a) 20 a 1) 32 ((m_lpf M a) 18 a) (((m_lpf M a) 32 ((m_lpf M a) 18 a)) + ((m_lpf M a) 9 ((m_lpf M a) 17 a)))) 14 ((8 * ((m_lpf M a) 17 a)) + ((m_lpf M a) 18 a)) 1) 17 a = (m_lpf M a) 17 a from rfl]
            refine va_calli (va_runV (As := [.int (nI ((m_lpf M a) 17 a))]) (rest := []) ⟨hx, hb, hml, hown, hts⟩ (c9_gives l D ad cI cZ cC th (mu (mu (mu (m_lpf M a) 20 a 1) 32 ((m_lpf M a) 18 a) (((m_lpf M a) 32 ((m_lpf M a) 18 a)) + ((m_lpf M a) 9 ((m_lpf M a) 17 a)))) 14 ((8 * ((m_lpf M a) 17 a)) + ((m_lpf M a) 18 a)) 1) (MI_mu (MI_mu (MI_mu (m_lpf_inv hM hz a (by omega)).1 (by show 1 ≤ 1; omega)) (by show ((m_lpf M a) 32 ((m_lpf M a) 18 a)) + ((m_lpf M a) 9 ((m_lpf M a) 17 a)) ≤ 1200000000; have f1 : (m_lpf M a) 18 a ≤ 7 := (m_lpf_inv hM hz a (by omega)).1 18 a; have f2 := (hl9 ((m_lpf M a) 18 a)); have f3 : (m_lpf M a) 32 ((m_lpf M a) 18 a) ≤ 1200000000 := (m_lpf_inv hM hz a (by omega)).1 32 ((m_lpf M a) 18 a); have f4 : (m_lpf M a) 17 a ≤ 17 := (m_lpf_inv hM hz a (by omega)).1 17 a; have f5 : (m_lpf M a) 9 ((m_lpf M a) 17 a) ≤ 10000 := (m_lpf_inv hM hz a (by omega)).1 9 ((m_lpf M a) 17 a); omega)) (by show 1 ≤ 1; omega)) hD  ((m_lpf M a) 17 a) (by have f1 : (m_lpf M a) 17 a ≤ 17 := (m_lpf_inv hM hz a (by omega)).1 17 a; omega) (by show m_lpf M a 16 0 < 60; omega)) (cwV 1 hts gX9_lapses_X9_gives rfl rfl rfl kd_X9_gives ⟨Nat.le_of_ble_eq_true rfl, Nat.le_of_ble_eq_true rfl⟩) ⟨mB_blind, m_recv hK hP, m_pre hK hP _⟩ rfl rfl hl.1 rfl (lv_room (Nat.le_of_ble_eq_true rfl)) dX9_lapses_116 ⟨Nat.le_of_ble_eq_true rfl, Nat.le_of_ble_eq_true rfl⟩) hS (fun _ _ h => h) (fun _ h => h) (fun r_19 u U8 H1 locs1 ht hvm hr_19 hP1 hz1 hk1 hS1 => ?_)
            rw [ht] at hP1
            clear hS
            have hS := hS1
            have hP : va_P D vwCl (mws ad cI cZ cC th (m_gv (mu (mu (mu (m_lpf M a) 20 a 1) 32 ((m_lpf M a) 18 a) (((m_lpf M a) 32 ((m_lpf M a) 18 a)) + ((m_lpf M a) 9 ((m_lpf M a) 17 a)))) 14 ((8 * ((m_lpf M a) 17 a)) + ((m_lpf M a) 18 a)) 1) ((m_lpf M a) 17 a))) H1 := hP1
            generalize H1 = H at hP hS ⊢
            have hM_20 : MI (m_gv (mu (mu (mu (m_lpf M a) 20 a 1) 32 ((m_lpf M a) 18 a) (((m_lpf M a) 32 ((m_lpf M a) 18 a)) + ((m_lpf M a) 9 ((m_lpf M a) 17 a)))) 14 ((8 * ((m_lpf M a) 17 a)) + ((m_lpf M a) 18 a)) 1) ((m_lpf M a) 17 a)) := (MI_gv (MI_mu (MI_mu (MI_mu (m_lpf_inv hM hz a (by omega)).1 (by show 1 ≤ 1; omega)) (by show ((m_lpf M a) 32 ((m_lpf M a) 18 a)) + ((m_lpf M a) 9 ((m_lpf M a) 17 a)) ≤ 1200000000; have f1 : (m_lpf M a) 18 a ≤ 7 := (m_lpf_inv hM hz a (by omega)).1 18 a; have f2 := (hl9 ((m_lpf M a) 18 a)); have f3 : (m_lpf M a) 32 ((m_lpf M a) 18 a) ≤ 1200000000 := (m_lpf_inv hM hz a (by omega)).1 32 ((m_lpf M a) 18 a); have f4 : (m_lpf M a) 17 a ≤ 17 := (m_lpf_inv hM hz a (by omega)).1 17 a; have f5 : (m_lpf M a) 9 ((m_lpf M a) 17 a) ≤ 10000 := (m_lpf_inv hM hz a (by omega)).1 9 ((m_lpf M a) 17 a); omega)) (by show 1 ≤ 1; omega)) (by have f1 : (m_lpf M a) 17 a ≤ 17 := (m_lpf_inv hM hz a (by omega)).1 17 a; omega) (by show m_lpf M a 16 0 < 60; omega))
            subst hr_19
            refine lv_pop hx hb dX9_lapses_119 rfl ?_
            refine n_iinc (k := 3) (lv' := [(2, .int (nI (m_lpn M a + 1))), (0, .ref (ad 0)), (1, .int (nI (M 16 0))), (3, .int (nI a))]) hx hb dX9_lapses_120 hl rfl (by decide) rfl (fun ls hl => ?_)
            refine n_iinc (k := 3) (lv' := [(3, .int (nI (a + 1))), (2, .int (nI (m_lpn M a + 1))), (0, .ref (ad 0)), (1, .int (nI (M 16 0)))]) hx hb dX9_lapses_123 hl rfl (by decide) rfl (fun ls hl => ?_)
            refine lv_goto (tgt := 9) hx hb dX9_lapses_126 (by decide) ?_
            have e_21 : m_lpn M (a + 1) = m_lpn M a + 1 := by simp [m_lpn, m_lpc_f1, m_lpc_f2, m_lpc_f3, m_lpc_f4, m_lpc_t, c_3, c_5, c_8, c_12, c_16]
            have eM_22 : m_lpf M (a + 1) = m_gv (mu (mu (mu (m_lpf M a) 20 a 1) 32 ((m_lpf M a) 18 a) (((m_lpf M a) 32 ((m_lpf M a) 18 a)) + ((m_lpf M a) 9 ((m_lpf M a) 17 a)))) 14 ((8 * ((m_lpf M a) 17 a)) + ((m_lpf M a) 18 a)) 1) ((m_lpf M a) 17 a) := by first | (simp [m_lpf, m_lpc_f1, m_lpc_f2, m_lpc_f3, m_lpc_f4, c_3, c_5, c_8, c_12, c_16]; done) | (rw [m_lpf, if_pos (m_lpc_t c_5 c_8 c_12 c_16)]; rfl)
            refine ih_1 (by omega) _ _ ls (by rw [eM_22]; exact hP) hS ?_
            show lv_has ls 4 [(0, .ref (ad 0)), (1, .int (nI (M 16 0))), (3, .int (nI (a + 1))), (2, .int (nI (m_lpn M (a + 1))))]
            rw [e_21]
            exact lv_sub hl [2, 3, 0, 1] rfl
set_option maxHeartbeats 4000000 in
set_option maxRecDepth 100000 in
theorem c9_pass (l : Launch) (D : va_G) (ad : Nat → Nat) (cI cZ cC : ClassId) (th : Nat) (M : MS) (hM : MI M) {A : Nat → Prop} (hD : mDis A ad) (q : Int32) (hLB : m_LB M) : Met l yX9_pass wsX9_pass ({ frames := 7, cells := 0, slots := 0, locals := 163 }) (va_Pc [.ref (ad 0), .int q] (mB D ad cI cZ cC th M)) (va_Qi (fun (r : Int32) (_ : Unit) => r = r_pass M q) (fun _ U9 => va_P D vwCl (mws ad cI cZ cC (k_pass M q) (g_pass M q)) U9.heap) A) 0 0 A := by
  refine Met.ofW (cc := cX9_pass) (maxL := 5) (ret := (some .int)) (by decide) rfl ?_
  intro p e s m args below meth c s₁ B hml hv
  obtain ⟨rfl, hP, hK⟩ := hv
  have hx := B.exec
  have hb := B.bytes
  have hr := B.returns
  have hts := atoms_spec (ws := wsX9_pass) B.pre
  have hown : s.vm.findClass RX9 = some m.cls := findClass_of_methodNamed B.named
  have hlocks := B.notSynchronized
  have hin : ∀ w ∈ wsX90, w ∈ wsX9_pass := fun w h => List.mem_cons_of_mem _ (List.mem_append_right _ h)
  have l_today := (hts (.fieldLink RX9 108 "TenderHallModel" "today" "I") (List.mem_of_getElem? (i := 1) rfl))
  have l_thrown := (hts (.fieldLink RX9 93 "TenderHallModel" "thrown" "I") (List.mem_of_getElem? (i := 2) rfl))
  have l_tenders := (hts (.fieldLink RX9 101 "TenderHallModel" "tenders" "I") (List.mem_of_getElem? (i := 3) rfl))
  have l_closing := (hts (.fieldLink RX9 13 "TenderHallModel" "closing" "[I") (List.mem_of_getElem? (i := 4) rfl))
  have hS : va_S A s.heap s.heap [] := va_S.rf
  have hl := lv_entry ([.ref (ad 0), .int q]) (n := 5) (Nat.le_of_ble_eq_true rfl)
  rw [lg_entry_eq]
  generalize (lg_sl ([.ref (ad 0), .int q]) ++ List.replicate (5 - (lg_sl ([.ref (ad 0), .int q])).length) Slot.unset).toArray = ls at hl ⊢
  have hl : lv_has ls 5 [(0, .ref (ad 0)), (1, .int q)] := hl
  have h36 : M 3 0 ≤ 6 := hM 3 0
  have h160 : M 16 0 ≤ 60 := hM 16 0
  have h220 : M 22 0 ≤ 60 := hM 22 0
  have h290 : M 29 0 ≤ 60 := hM 29 0
  have h120 : M 1 0 ≤ 2000 := hM 1 0
  refine lv_aload_n hx hb dX9_pass_0 rfl (lv_at hl 0 rfl) ?_
  refine lv_iload_n hx hb dX9_pass_1 rfl (lv_at hl 1 rfl) ?_
  refine lv_iconst (v := nI 1) hx hb dX9_pass_2 (by decide) ?_
  refine lv_bipush (v := nI 100) hx hb dX9_pass_3 (by decide) ?_
  refine vp_callSi (W.runS (As := [.int q, .int (nI 1), .int (nI 100)]) (rest := [.ref (ad 0)]) ⟨hx, hb, hml, hown, hts⟩ (c9_in l  q (nI 1) (nI 100)) (va_cwS 3 hts gX9_pass_X9_in rfl rfl rfl kd_X9_in ⟨Nat.le_of_ble_eq_true rfl, Nat.le_of_ble_eq_true rfl⟩) ⟨fun _ _ _ _ q => q, fun U hU hW => ⟨rfl, trivial⟩⟩ rfl rfl hl.1 rfl (lv_room (Nat.le_of_ble_eq_true rfl)) dX9_pass_5 ⟨Nat.le_of_ble_eq_true rfl, Nat.le_of_ble_eq_true rfl⟩) (fun r_1 hr_1 => ?_)
  subst hr_1
  refine b_if_ne (tgt := 15) hx hb dX9_pass_8 (by decide)  (fun c_2 => ?_) (fun c_2 => ?_)
  · obtain ⟨q1, hq1, hq19, rfl⟩ := i_in_of (a := 1) (b := 100) (by omega) c_2
    have kq19 : (nI q1).toNatClampNeg = q1 := nI_clamp (by omega)
    refine lv_aload_n hx hb dX9_pass_15 rfl (lv_at hl 0 rfl) ?_
    refine m_get (v := .int (nI (M 1 0))) hx hb hts hin hown hK hP 1 (by decide) l_today rfl dX9_pass_16 ?_
    refine lv_iload_n hx hb dX9_pass_19 rfl (lv_at hl 1 rfl) ?_
    refine n_iadd hx hb dX9_pass_20 (z := (M 1 0) + q1) rfl ?_
    refine lv_sipush (v := nI 2000) hx hb dX9_pass_21 (by decide) ?_
    refine n_icmp_le (tgt := 31) hx hb dX9_pass_24 (by decide) (by have f1 : M 1 0 ≤ 2000 := hM 1 0; omega) (by decide) (fun c_3 => ?_) (fun c_3 => ?_)
    · refine lv_iconst (v := nI 0) hx hb dX9_pass_31 (by decide) ?_
      refine m_putT hx hb hts hin hown hK hP hD hS l_thrown dX9_pass_32 (fun H locs hP hS => ?_)
      refine lv_iconst (v := nI 0) hx hb dX9_pass_35 (by decide) ?_
      refine lv_istore_n (lv' := [(2, .int (nI 0)), (0, .ref (ad 0)), (1, .int (nI q1))]) hx hb dX9_pass_36 rfl hl (by decide) rfl (fun ls hl => ?_)
      refine lv_iconst (v := nI 0) hx hb dX9_pass_37 (by decide) ?_
      refine lv_istore_n (lv' := [(3, .int (nI 0)), (2, .int (nI 0)), (0, .ref (ad 0)), (1, .int (nI q1))]) hx hb dX9_pass_38 rfl hl (by decide) rfl (fun ls hl => ?_)
      refine m_loop (D := D) (ad := ad) (cI := cI) (cZ := cZ) (cC := cC) (th := 0) (A := A) (e := q1) (nL := 5) (fun k => [(0, .ref (ad 0)), (1, .int (nI q1)), (3, .int (nI k)), (2, .int (nI (m_dyn M k)))]) (fun k => m_dyf M k) (fun k hb_5 ih_4 H locs ls hP hS hl => ?_) 0 (by omega) _ _ ls hP hS (lv_sub hl [2, 3, 0, 1] rfl)
      have e1 : m_dyf M k 1 0 = M 1 0 + k := (m_dyf_inv hM hLB k (by omega)).2.2
      refine lv_iload_n hx hb dX9_pass_39 rfl (lv_at hl 2 rfl) ?_
      refine lv_iload_n hx hb dX9_pass_40 rfl (lv_at hl 1 rfl) ?_
      refine n_icmp_ge (tgt := 112) hx hb dX9_pass_41 (by decide) (by omega) (by omega) (fun c_6 => ?_) (fun c_6 => ?_)
      · obtain rfl : q1 = k := by omega
        refine lv_iload_n hx hb dX9_pass_112 rfl (lv_at hl 3 rfl) ?_
        have eM_7 : g_pass M (nI q1) = m_dyf M q1 := by simp [g_pass, k_pass, c_2, kq19, c_3, c_6]
        have eT_8 : k_pass M (nI q1) = 0 := by first | (simp [k_pass, c_2, kq19, c_3, c_6]; done) | (simp [k_pass, c_2, kq19, c_3, c_6]; omega)
        exact W.iret (v := nI (m_dyn M q1)) hx hb hr (fun U9 ht hW => ⟨⟨_, (), rfl, (show nI (m_dyn M q1) = r_pass M (nI q1) from by simp [r_pass, k_pass, c_2, kq19, c_3, c_6]), by show va_P D vwCl _ U9.heap; rw [ht, eM_7, eT_8]; exact hP⟩, hS.F ht⟩) hS.2.2 dX9_pass_113
      · refine lv_aload_n hx hb dX9_pass_44 rfl (lv_at hl 0 rfl) ?_
        refine m_get (v := .int (nI 0)) hx hb hts hin hown hK hP 0 (by decide) l_thrown rfl dX9_pass_45 ?_
        refine n_if_ne (tgt := 112) hx hb dX9_pass_48 (by decide) (by decide) (fun c9 => absurd c9 (by decide)) (fun _ => ?_)
        refine lv_aload_n hx hb dX9_pass_51 rfl (lv_at hl 0 rfl) ?_
        refine lv_dup hx hb dX9_pass_52 rfl ?_
        refine m_get (v := .int (nI ((m_dyf M k) 1 0))) hx hb hts hin hown hK hP 1 (by decide) l_today rfl dX9_pass_53 ?_
        refine lv_iconst (v := nI 1) hx hb dX9_pass_56 (by decide) ?_
        refine n_iadd hx hb dX9_pass_57 (z := ((m_dyf M k) 1 0) + 1) rfl ?_
        refine m_put hx hb hts hin hown hK hP hD hS 1 (by decide) l_today rfl rfl (mset_1 _ _ _ _ _ _ _) dX9_pass_58 (fun H locs hP hS => ?_)
        refine lv_iconst (v := nI 0) hx hb dX9_pass_61 (by decide) ?_
        refine lv_istore (lv' := [(4, .int (nI 0)), (0, .ref (ad 0)), (1, .int (nI q1)), (3, .int (nI k)), (2, .int (nI (m_dyn M k)))]) hx hb dX9_pass_62 hl (by decide) rfl (fun ls hl => ?_)
        refine m_loop (D := D) (ad := ad) (cI := cI) (cZ := cZ) (cC := cC) (th := 0) (A := A) (e := m_dyf M k 3 0) (nL := 5) (fun t => [(0, .ref (ad 0)), (1, .int (nI q1)), (3, .int (nI k)), (2, .int (nI (m_dyn M k))), (4, .int (nI t))]) (fun t => m_opt (mu (m_dyf M k) 1 0 (m_dyf M k 1 0 + 1)) t) (fun t hb_10 ih_9 H locs ls hP hS hl => ?_) 0 (by omega) _ _ ls hP hS (lv_sub hl [1, 2, 3, 4, 0] rfl)
        have e3 : m_opt (mu (m_dyf M k) 1 0 (m_dyf M k 1 0 + 1)) t 3 0 = m_dyf M k 3 0 := by rw [m_opt_nf _ (by decide), mu_nf _ (by decide)]
        have e6 : m_dyf M k 3 0 ≤ 6 := (m_dyf_inv hM hLB k (by omega)).1 3 0
        refine lv_iload hx hb dX9_pass_64 (lv_at hl 4 rfl) ?_
        refine lv_aload_n hx hb dX9_pass_66 rfl (lv_at hl 0 rfl) ?_
        refine m_get (v := .int (nI ((m_opt (mu (m_dyf M k) 1 0 (m_dyf M k 1 0 + 1)) t) 3 0))) hx hb hts hin hown hK hP 3 (by decide) l_tenders rfl dX9_pass_67 ?_
        refine n_icmp_ge (tgt := 99) hx hb dX9_pass_70 (by decide) (by omega) (by have f1 : (m_opt (mu (m_dyf M k) 1 0 (m_dyf M k 1 0 + 1)) t) 3 0 ≤ 6 := (MI_opt (MI_mu (m_dyf_inv hM hLB k (by omega)).1 (by show m_dyf M k 1 0 + 1 ≤ 2000; omega)) t) 3 0; omega) (fun c_11 => ?_) (fun c_11 => ?_)
        · obtain rfl : m_dyf M k 3 0 = t := by omega
          refine lv_iload_n hx hb dX9_pass_99 rfl (lv_at hl 3 rfl) ?_
          refine lv_aload_n hx hb dX9_pass_100 rfl (lv_at hl 0 rfl) ?_
          refine va_calli (va_runV (As := []) (rest := [.int (nI (m_dyn M k))]) ⟨hx, hb, hml, hown, hts⟩ (c9_lapses l D ad cI cZ cC 0 (m_opt (mu (m_dyf M k) 1 0 (m_dyf M k 1 0 + 1)) (m_dyf M k 3 0)) (MI_opt (MI_mu (m_dyf_inv hM hLB k (by omega)).1 (by show m_dyf M k 1 0 + 1 ≤ 2000; omega)) (m_dyf M k 3 0)) hD  (by intro b; have h9 := (m_dyf_inv hM hLB k (by omega)).2.1 b; rw [m_opt_nf _ (by decide), mu_nf _ (by decide)]; rw [e1] at h9; omega)) (cwV 0 hts gX9_pass_X9_lapses rfl rfl rfl kd_X9_lapses ⟨Nat.le_of_ble_eq_true rfl, Nat.le_of_ble_eq_true rfl⟩) ⟨mB_blind, m_recv hK hP, m_pre hK hP _⟩ rfl rfl hl.1 rfl (lv_room (Nat.le_of_ble_eq_true rfl)) dX9_pass_101 ⟨Nat.le_of_ble_eq_true rfl, Nat.le_of_ble_eq_true rfl⟩) hS (fun _ _ h => h) (fun _ h => h) (fun r_12 u U8 H1 locs1 ht hvm hr_12 hP1 hz1 hk1 hS1 => ?_)
          rw [ht] at hP1
          clear hS
          have hS := hS1
          have hP : va_P D vwCl (mws ad cI cZ cC 0 (m_lp (m_opt (mu (m_dyf M k) 1 0 (m_dyf M k 1 0 + 1)) (m_dyf M k 3 0)))) H1 := hP1
          generalize H1 = H at hP hS ⊢
          have hM_13 : MI (m_lp (m_opt (mu (m_dyf M k) 1 0 (m_dyf M k 1 0 + 1)) (m_dyf M k 3 0))) := ((m_lpf_inv (MI_opt (MI_mu (m_dyf_inv hM hLB k (by omega)).1 (by show m_dyf M k 1 0 + 1 ≤ 2000; omega)) (m_dyf M k 3 0)) (by intro b; have h9 := (m_dyf_inv hM hLB k (by omega)).2.1 b; rw [m_opt_nf _ (by decide), mu_nf _ (by decide)]; rw [e1] at h9; omega) ((m_opt (mu (m_dyf M k) 1 0 (m_dyf M k 1 0 + 1)) (m_dyf M k 3 0)) 16 0) (by have f1 : (m_opt (mu (m_dyf M k) 1 0 (m_dyf M k 1 0 + 1)) (m_dyf M k 3 0)) 16 0 ≤ 60 := (MI_opt (MI_mu (m_dyf_inv hM hLB k (by omega)).1 (by show m_dyf M k 1 0 + 1 ≤ 2000; omega)) (m_dyf M k 3 0)) 16 0; omega)).1)
          subst hr_12
          refine n_iadd hx hb dX9_pass_104 (z := (m_dyn M k) + (m_lpn (m_opt (mu (m_dyf M k) 1 0 (m_dyf M k 1 0 + 1)) (m_dyf M k 3 0)) ((m_opt (mu (m_dyf M k) 1 0 (m_dyf M k 1 0 + 1)) (m_dyf M k 3 0)) 16 0))) rfl ?_
          refine lv_istore_n (lv' := [(2, .int (nI ((m_dyn M k) + (m_lpn (m_opt (mu (m_dyf M k) 1 0 (m_dyf M k 1 0 + 1)) (m_dyf M k 3 0)) ((m_opt (mu (m_dyf M k) 1 0 (m_dyf M k 1 0 + 1)) (m_dyf M k 3 0)) 16 0))))), (0, .ref (ad 0)), (1, .int (nI q1)), (3, .int (nI k)), (4, .int (nI (m_dyf M k 3 0)))]) hx hb dX9_pass_105 rfl hl (by decide) rfl (fun ls hl => ?_)
          refine n_iinc (k := 3) (lv' := [(3, .int (nI (k + 1))), (2, .int (nI ((m_dyn M k) + (m_lpn (m_opt (mu (m_dyf M k) 1 0 (m_dyf M k 1 0 + 1)) (m_dyf M k 3 0)) ((m_opt (mu (m_dyf M k) 1 0 (m_dyf M k 1 0 + 1)) (m_dyf M k 3 0)) 16 0))))), (0, .ref (ad 0)), (1, .int (nI q1)), (4, .int (nI (m_dyf M k 3 0)))]) hx hb dX9_pass_106 hl rfl (by decide) rfl (fun ls hl => ?_)
          refine lv_goto (tgt := 39) hx hb dX9_pass_109 (by decide) ?_
          have e_14 : m_dyn M (k + 1) = (m_dyn M k) + (m_lpn (m_opt (mu (m_dyf M k) 1 0 (m_dyf M k 1 0 + 1)) (m_dyf M k 3 0)) ((m_opt (mu (m_dyf M k) 1 0 (m_dyf M k 1 0 + 1)) (m_dyf M k 3 0)) 16 0)) := by rfl
          have eM_15 : m_dyf M (k + 1) = m_lp (m_opt (mu (m_dyf M k) 1 0 (m_dyf M k 1 0 + 1)) (m_dyf M k 3 0)) := by rfl
          refine ih_4 (by omega) _ _ ls (by rw [eM_15]; exact hP) hS ?_
          show lv_has ls 5 [(0, .ref (ad 0)), (1, .int (nI q1)), (3, .int (nI (k + 1))), (2, .int (nI (m_dyn M (k + 1))))]
          rw [e_14]
          exact lv_sub hl [2, 3, 0, 1] rfl
        · refine lv_aload_n hx hb dX9_pass_73 rfl (lv_at hl 0 rfl) ?_
          refine m_get hx hb hts hin hown hK hP 4 (by decide) l_closing rfl dX9_pass_74 ?_
          refine lv_iload hx hb dX9_pass_77 (lv_at hl 4 rfl) ?_
          refine m_iald (f := 4) hx hb hK hP 2 rfl (by omega) (by decide) dX9_pass_79 ?_
          refine lv_aload_n hx hb dX9_pass_80 rfl (lv_at hl 0 rfl) ?_
          refine m_get (v := .int (nI ((m_opt (mu (m_dyf M k) 1 0 (m_dyf M k 1 0 + 1)) t) 1 0))) hx hb hts hin hown hK hP 1 (by decide) l_today rfl dX9_pass_81 ?_
          refine n_icmp_ne (tgt := 93) hx hb dX9_pass_84 (by decide) (by have f1 : (m_opt (mu (m_dyf M k) 1 0 (m_dyf M k 1 0 + 1)) t) 4 t ≤ 1000 := (MI_opt (MI_mu (m_dyf_inv hM hLB k (by omega)).1 (by show m_dyf M k 1 0 + 1 ≤ 2000; omega)) t) 4 t; omega) (by have f1 : (m_opt (mu (m_dyf M k) 1 0 (m_dyf M k 1 0 + 1)) t) 1 0 ≤ 2000 := (MI_opt (MI_mu (m_dyf_inv hM hLB k (by omega)).1 (by show m_dyf M k 1 0 + 1 ≤ 2000; omega)) t) 1 0; omega) (fun c_16 => ?_) (fun c_16 => ?_)
          · refine n_iinc (k := 4) (lv' := [(4, .int (nI (t + 1))), (0, .ref (ad 0)), (1, .int (nI q1)), (3, .int (nI k)), (2, .int (nI (m_dyn M k)))]) hx hb dX9_pass_93 hl rfl (by decide) rfl (fun ls hl => ?_)
            refine lv_goto (tgt := 64) hx hb dX9_pass_96 (by decide) ?_
            have eM_17 : m_opt (mu (m_dyf M k) 1 0 (m_dyf M k 1 0 + 1)) (t + 1) = m_opt (mu (m_dyf M k) 1 0 (m_dyf M k 1 0 + 1)) t := by first | (rw [m_opt, if_pos (by assumption)]) | (rw [m_opt, if_neg (by assumption)]) | (rw [m_opt, if_neg (by omega)])
            refine ih_9 (by omega) _ _ ls (by rw [eM_17]; exact hP) hS ?_
            show lv_has ls 5 [(0, .ref (ad 0)), (1, .int (nI q1)), (3, .int (nI k)), (2, .int (nI (m_dyn M k))), (4, .int (nI (t + 1)))]
            exact lv_sub hl [1, 2, 3, 4, 0] rfl
          · refine lv_aload_n hx hb dX9_pass_87 rfl (lv_at hl 0 rfl) ?_
            refine lv_iload hx hb dX9_pass_88 (lv_at hl 4 rfl) ?_
            refine va_callv (va_runV (As := [.int (nI t)]) (rest := []) ⟨hx, hb, hml, hown, hts⟩ (c9_opens l D ad cI cZ cC 0 (m_opt (mu (m_dyf M k) 1 0 (m_dyf M k 1 0 + 1)) t) (MI_opt (MI_mu (m_dyf_inv hM hLB k (by omega)).1 (by show m_dyf M k 1 0 + 1 ≤ 2000; omega)) t) hD  t (by omega)) (cwV 1 hts gX9_pass_X9_opens rfl rfl rfl kd_X9_opens ⟨Nat.le_of_ble_eq_true rfl, Nat.le_of_ble_eq_true rfl⟩) ⟨mB_blind, m_recv hK hP, m_pre hK hP _⟩ rfl rfl hl.1 rfl (lv_room (Nat.le_of_ble_eq_true rfl)) dX9_pass_90 ⟨Nat.le_of_ble_eq_true rfl, Nat.le_of_ble_eq_true rfl⟩) hS (fun _ _ h => h) (fun _ h => h) (fun u U8 H1 locs1 ht hvm hr_18 hP1 hz1 hk1 hS1 => ?_)
            rw [ht] at hP1
            clear hS
            have hS := hS1
            have hP : va_P D vwCl (mws ad cI cZ cC 0 (m_opl (m_opt (mu (m_dyf M k) 1 0 (m_dyf M k 1 0 + 1)) t) t ((m_opt (mu (m_dyf M k) 1 0 (m_dyf M k 1 0 + 1)) t) 8 t))) H1 := hP1
            generalize H1 = H at hP hS ⊢
            have hM_19 : MI (m_opl (m_opt (mu (m_dyf M k) 1 0 (m_dyf M k 1 0 + 1)) t) t ((m_opt (mu (m_dyf M k) 1 0 (m_dyf M k 1 0 + 1)) t) 8 t)) := (MI_opl (MI_opt (MI_mu (m_dyf_inv hM hLB k (by omega)).1 (by show m_dyf M k 1 0 + 1 ≤ 2000; omega)) t) t ((m_opt (mu (m_dyf M k) 1 0 (m_dyf M k 1 0 + 1)) t) 8 t))
            refine n_iinc (k := 4) (lv' := [(4, .int (nI (t + 1))), (0, .ref (ad 0)), (1, .int (nI q1)), (3, .int (nI k)), (2, .int (nI (m_dyn M k)))]) hx hb dX9_pass_93 hl rfl (by decide) rfl (fun ls hl => ?_)
            refine lv_goto (tgt := 64) hx hb dX9_pass_96 (by decide) ?_
            have eM_20 : m_opt (mu (m_dyf M k) 1 0 (m_dyf M k 1 0 + 1)) (t + 1) = m_opl (m_opt (mu (m_dyf M k) 1 0 (m_dyf M k 1 0 + 1)) t) t ((m_opt (mu (m_dyf M k) 1 0 (m_dyf M k 1 0 + 1)) t) 8 t) := by first | (rw [m_opt, if_pos (by assumption)]) | (rw [m_opt, if_neg (by assumption)]) | (rw [m_opt, if_neg (by omega)])
            refine ih_9 (by omega) _ _ ls (by rw [eM_20]; exact hP) hS ?_
            show lv_has ls 5 [(0, .ref (ad 0)), (1, .int (nI q1)), (3, .int (nI k)), (2, .int (nI (m_dyn M k))), (4, .int (nI (t + 1)))]
            exact lv_sub hl [1, 2, 3, 4, 0] rfl
    · refine lv_iconst (v := nI 2) hx hb dX9_pass_27 (by decide) ?_
      refine lv_goto (tgt := 32) hx hb dX9_pass_28 (by decide) ?_
      refine m_putT hx hb hts hin hown hK hP hD hS l_thrown dX9_pass_32 (fun H locs hP hS => ?_)
      refine lv_iconst (v := nI 0) hx hb dX9_pass_35 (by decide) ?_
      refine lv_istore_n (lv' := [(2, .int (nI 0)), (0, .ref (ad 0)), (1, .int (nI q1))]) hx hb dX9_pass_36 rfl hl (by decide) rfl (fun ls hl => ?_)
      refine lv_iconst (v := nI 0) hx hb dX9_pass_37 (by decide) ?_
      refine lv_istore_n (lv' := [(3, .int (nI 0)), (2, .int (nI 0)), (0, .ref (ad 0)), (1, .int (nI q1))]) hx hb dX9_pass_38 rfl hl (by decide) rfl (fun ls hl => ?_)
      refine lv_iload_n hx hb dX9_pass_39 rfl (lv_at hl 0 rfl) ?_
      refine lv_iload_n hx hb dX9_pass_40 rfl (lv_at hl 3 rfl) ?_
      refine n_icmp_ge (tgt := 112) hx hb dX9_pass_41 (by decide) (by decide) (by omega) (fun c_21 => ?_) (fun c_21 => ?_)
      · refine lv_iload_n hx hb dX9_pass_112 rfl (lv_at hl 1 rfl) ?_
        have eM_22 : g_pass M (nI q1) = M := by simp [g_pass, k_pass, c_2, kq19, c_3, c_21]
        have eT_23 : k_pass M (nI q1) = 2 := by first | (simp [k_pass, c_2, kq19, c_3, c_21]; done) | (simp [k_pass, c_2, kq19, c_3, c_21]; omega)
        exact W.iret (v := nI 0) hx hb hr (fun U9 ht hW => ⟨⟨_, (), rfl, (show nI 0 = r_pass M (nI q1) from by simp [r_pass, k_pass, c_2, kq19, c_3, c_21]), by show va_P D vwCl _ U9.heap; rw [ht, eM_22, eT_23]; exact hP⟩, hS.F ht⟩) hS.2.2 dX9_pass_113
      · refine lv_aload_n hx hb dX9_pass_44 rfl (lv_at hl 2 rfl) ?_
        refine m_get (v := .int (nI 2)) hx hb hts hin hown hK hP 0 (by decide) l_thrown rfl dX9_pass_45 ?_
        refine n_if_ne (tgt := 112) hx hb dX9_pass_48 (by decide) (by decide) (fun _ => ?_) (fun c9 => absurd c9 (by decide))
        refine lv_iload_n hx hb dX9_pass_112 rfl (lv_at hl 1 rfl) ?_
        have eM_24 : g_pass M (nI q1) = M := by simp [g_pass, k_pass, c_2, kq19, c_3, c_21]
        have eT_25 : k_pass M (nI q1) = 2 := by first | (simp [k_pass, c_2, kq19, c_3, c_21]; done) | (simp [k_pass, c_2, kq19, c_3, c_21]; omega)
        exact W.iret (v := nI 0) hx hb hr (fun U9 ht hW => ⟨⟨_, (), rfl, (show nI 0 = r_pass M (nI q1) from by simp [r_pass, k_pass, c_2, kq19, c_3, c_21]), by show va_P D vwCl _ U9.heap; rw [ht, eM_24, eT_25]; exact hP⟩, hS.F ht⟩) hS.2.2 dX9_pass_113
  · refine lv_iconst (v := nI 1) hx hb dX9_pass_11 (by decide) ?_
    refine lv_goto (tgt := 32) hx hb dX9_pass_12 (by decide) ?_
    refine m_putT hx hb hts hin hown hK hP hD hS l_thrown dX9_pass_32 (fun H locs hP hS => ?_)
    refine lv_iconst (v := nI 0) hx hb dX9_pass_35 (by decide) ?_
    refine lv_istore_n (lv' := [(2, .int (nI 0)), (0, .ref (ad 0)), (1, .int q)]) hx hb dX9_pass_36 rfl hl (by decide) rfl (fun ls hl => ?_)
    refine lv_iconst (v := nI 0) hx hb dX9_pass_37 (by decide) ?_
    refine lv_istore_n (lv' := [(3, .int (nI 0)), (2, .int (nI 0)), (0, .ref (ad 0)), (1, .int q)]) hx hb dX9_pass_38 rfl hl (by decide) rfl (fun ls hl => ?_)
    refine lv_iload_n hx hb dX9_pass_39 rfl (lv_at hl 0 rfl) ?_
    refine lv_iload_n hx hb dX9_pass_40 rfl (lv_at hl 3 rfl) ?_
    refine lv_icmp_ge (tgt := 112) hx hb dX9_pass_41 (by decide)  (fun c_26 => ?_) (fun c_26 => ?_)
    · refine lv_iload_n hx hb dX9_pass_112 rfl (lv_at hl 1 rfl) ?_
      have eM_27 : g_pass M q = M := by simp [g_pass, k_pass, c_2, c_26]
      have eT_28 : k_pass M q = 1 := by first | (simp [k_pass, c_2, c_26]; done) | (simp [k_pass, c_2, c_26]; omega)
      exact W.iret (v := nI 0) hx hb hr (fun U9 ht hW => ⟨⟨_, (), rfl, (show nI 0 = r_pass M q from by simp [r_pass, k_pass, c_2, c_26]), by show va_P D vwCl _ U9.heap; rw [ht, eM_27, eT_28]; exact hP⟩, hS.F ht⟩) hS.2.2 dX9_pass_113
    · refine lv_aload_n hx hb dX9_pass_44 rfl (lv_at hl 2 rfl) ?_
      refine m_get (v := .int (nI 1)) hx hb hts hin hown hK hP 0 (by decide) l_thrown rfl dX9_pass_45 ?_
      refine n_if_ne (tgt := 112) hx hb dX9_pass_48 (by decide) (by decide) (fun _ => ?_) (fun c9 => absurd c9 (by decide))
      refine lv_iload_n hx hb dX9_pass_112 rfl (lv_at hl 1 rfl) ?_
      have eM_29 : g_pass M q = M := by simp [g_pass, k_pass, c_2, c_26]
      have eT_30 : k_pass M q = 1 := by first | (simp [k_pass, c_2, c_26]; done) | (simp [k_pass, c_2, c_26]; omega)
      exact W.iret (v := nI 0) hx hb hr (fun U9 ht hW => ⟨⟨_, (), rfl, (show nI 0 = r_pass M q from by simp [r_pass, k_pass, c_2, c_26]), by show va_P D vwCl _ U9.heap; rw [ht, eM_29, eT_30]; exact hP⟩, hS.F ht⟩) hS.2.2 dX9_pass_113
set_option maxHeartbeats 4000000 in
set_option maxRecDepth 100000 in
theorem c9_thrown (l : Launch) (D : va_G) (ad : Nat → Nat) (cI cZ cC : ClassId) (th : Nat) (M : MS) (hM : MI M)  : Met l yX9_thrown wsX9_thrown ({ frames := 0, cells := 0, slots := 0, locals := 0 }) (va_Pc [.ref (ad 0)] (mB D ad cI cZ cC th M)) (vp_Si (fun r => r = nI th)) 0 0 (fun _ => False) := by
  refine Met.ofW (cc := cX9_thrown) (maxL := 1) (ret := (some .int)) (by decide) rfl ?_
  intro p e s m args below meth c s₁ B hml hv
  obtain ⟨rfl, hP, hK⟩ := hv
  have hx := B.exec
  have hb := B.bytes
  have hr := B.returns
  have hts := atoms_spec (ws := wsX9_thrown) B.pre
  have hown : s.vm.findClass RX9 = some m.cls := findClass_of_methodNamed B.named
  have hlocks := B.notSynchronized
  have hin : ∀ w ∈ wsX90, w ∈ wsX9_thrown := fun w h => List.mem_cons_of_mem _ (List.mem_append_right _ h)
  have l_thrown := (hts (.fieldLink RX9 93 "TenderHallModel" "thrown" "I") (List.mem_of_getElem? (i := 1) rfl))
  have hl := lv_entry ([.ref (ad 0)]) (n := 1) (Nat.le_of_ble_eq_true rfl)
  rw [lg_entry_eq]
  generalize (lg_sl ([.ref (ad 0)]) ++ List.replicate (1 - (lg_sl ([.ref (ad 0)])).length) Slot.unset).toArray = ls at hl ⊢
  have hl : lv_has ls 1 [(0, .ref (ad 0))] := hl
  have h36 : M 3 0 ≤ 6 := hM 3 0
  have h160 : M 16 0 ≤ 60 := hM 16 0
  have h220 : M 22 0 ≤ 60 := hM 22 0
  have h290 : M 29 0 ≤ 60 := hM 29 0
  have h120 : M 1 0 ≤ 2000 := hM 1 0
  refine lv_aload_n hx hb dX9_thrown_0 rfl (lv_at hl 0 rfl) ?_
  refine m_get (v := .int (nI th)) hx hb hts hin hown hK hP 0 (by decide) l_thrown rfl dX9_thrown_1 ?_
  exact W.iret (v := nI th) hx hb hr (fun U9 ht hW => ⟨_, rfl, rfl, ht⟩) (fun _ h => by cases h) dX9_thrown_4
set_option maxHeartbeats 4000000 in
set_option maxRecDepth 100000 in
theorem c9_today (l : Launch) (D : va_G) (ad : Nat → Nat) (cI cZ cC : ClassId) (th : Nat) (M : MS) (hM : MI M) {A : Nat → Prop} (hD : mDis A ad)  : Met l yX9_today wsX9_today ({ frames := 0, cells := 0, slots := 0, locals := 0 }) (va_Pc [.ref (ad 0)] (mB D ad cI cZ cC th M)) (va_Qi (fun (r : Int32) (_ : Unit) => r = nI (M 1 0)) (fun _ U9 => va_P D vwCl (mws ad cI cZ cC 0 M) U9.heap) A) 0 0 A := by
  refine Met.ofW (cc := cX9_today) (maxL := 1) (ret := (some .int)) (by decide) rfl ?_
  intro p e s m args below meth c s₁ B hml hv
  obtain ⟨rfl, hP, hK⟩ := hv
  have hx := B.exec
  have hb := B.bytes
  have hr := B.returns
  have hts := atoms_spec (ws := wsX9_today) B.pre
  have hown : s.vm.findClass RX9 = some m.cls := findClass_of_methodNamed B.named
  have hlocks := B.notSynchronized
  have hin : ∀ w ∈ wsX90, w ∈ wsX9_today := fun w h => List.mem_cons_of_mem _ (List.mem_append_right _ h)
  have l_thrown := (hts (.fieldLink RX9 93 "TenderHallModel" "thrown" "I") (List.mem_of_getElem? (i := 1) rfl))
  have l_today := (hts (.fieldLink RX9 108 "TenderHallModel" "today" "I") (List.mem_of_getElem? (i := 2) rfl))
  have hS : va_S A s.heap s.heap [] := va_S.rf
  have hl := lv_entry ([.ref (ad 0)]) (n := 1) (Nat.le_of_ble_eq_true rfl)
  rw [lg_entry_eq]
  generalize (lg_sl ([.ref (ad 0)]) ++ List.replicate (1 - (lg_sl ([.ref (ad 0)])).length) Slot.unset).toArray = ls at hl ⊢
  have hl : lv_has ls 1 [(0, .ref (ad 0))] := hl
  have h36 : M 3 0 ≤ 6 := hM 3 0
  have h160 : M 16 0 ≤ 60 := hM 16 0
  have h220 : M 22 0 ≤ 60 := hM 22 0
  have h290 : M 29 0 ≤ 60 := hM 29 0
  have h120 : M 1 0 ≤ 2000 := hM 1 0
  refine lv_aload_n hx hb dX9_today_0 rfl (lv_at hl 0 rfl) ?_
  refine lv_iconst (v := nI 0) hx hb dX9_today_1 (by decide) ?_
  refine m_putT hx hb hts hin hown hK hP hD hS l_thrown dX9_today_2 (fun H locs hP hS => ?_)
  refine lv_aload_n hx hb dX9_today_5 rfl (lv_at hl 0 rfl) ?_
  refine m_get (v := .int (nI (M 1 0))) hx hb hts hin hown hK hP 1 (by decide) l_today rfl dX9_today_6 ?_
  exact W.iret (v := nI (M 1 0)) hx hb hr (fun U9 ht hW => ⟨⟨_, (), rfl, rfl, by show va_P D vwCl _ U9.heap; rw [ht]; exact hP⟩, hS.F ht⟩) hS.2.2 dX9_today_9
set_option maxHeartbeats 4000000 in
set_option maxRecDepth 100000 in
theorem c9_addTender (l : Launch) (D : va_G) (ad : Nat → Nat) (cI cZ cC : ClassId) (th : Nat) (M : MS) (hM : MI M) {A : Nat → Prop} (hD : mDis A ad) (c0 : Int32) (q : Int32) (w : Int32) (z0 : Int32) : Met l yX9_addTender wsX9_addTender ({ frames := 1, cells := 0, slots := 0, locals := 22 }) (va_Pc [.ref (ad 0), .int c0, .int q, .int w, .int z0] (mB D ad cI cZ cC th M)) (va_Qi (fun (r : Int32) (_ : Unit) => r = if k_addTender M c0 q w z0 = 0 then nI (M 3 0) else nI 0) (fun _ U9 => va_P D vwCl (mws ad cI cZ cC (k_addTender M c0 q w z0) (g_addTender M c0 q w z0)) U9.heap) A) 0 0 A := by
  refine Met.ofW (cc := cX9_addTender) (maxL := 6) (ret := (some .int)) (by decide) rfl ?_
  intro p e s m args below meth c s₁ B hml hv
  obtain ⟨rfl, hP, hK⟩ := hv
  have hx := B.exec
  have hb := B.bytes
  have hr := B.returns
  have hts := atoms_spec (ws := wsX9_addTender) B.pre
  have hown : s.vm.findClass RX9 = some m.cls := findClass_of_methodNamed B.named
  have hlocks := B.notSynchronized
  have hin : ∀ w ∈ wsX90, w ∈ wsX9_addTender := fun w h => List.mem_cons_of_mem _ (List.mem_append_right _ h)
  have l_today := (hts (.fieldLink RX9 108 "TenderHallModel" "today" "I") (List.mem_of_getElem? (i := 1) rfl))
  have l_thrown := (hts (.fieldLink RX9 93 "TenderHallModel" "thrown" "I") (List.mem_of_getElem? (i := 3) rfl))
  have l_tenders := (hts (.fieldLink RX9 101 "TenderHallModel" "tenders" "I") (List.mem_of_getElem? (i := 2) rfl))
  have l_closing := (hts (.fieldLink RX9 13 "TenderHallModel" "closing" "[I") (List.mem_of_getElem? (i := 4) rfl))
  have l_papers := (hts (.fieldLink RX9 16 "TenderHallModel" "papers" "[I") (List.mem_of_getElem? (i := 5) rfl))
  have l_weight := (hts (.fieldLink RX9 19 "TenderHallModel" "weight" "[I") (List.mem_of_getElem? (i := 6) rfl))
  have l_standing := (hts (.fieldLink RX9 22 "TenderHallModel" "standing" "[I") (List.mem_of_getElem? (i := 7) rfl))
  have hS : va_S A s.heap s.heap [] := va_S.rf
  have hl := lv_entry ([.ref (ad 0), .int c0, .int q, .int w, .int z0]) (n := 6) (Nat.le_of_ble_eq_true rfl)
  rw [lg_entry_eq]
  generalize (lg_sl ([.ref (ad 0), .int c0, .int q, .int w, .int z0]) ++ List.replicate (6 - (lg_sl ([.ref (ad 0), .int c0, .int q, .int w, .int z0])).length) Slot.unset).toArray = ls at hl ⊢
  have hl : lv_has ls 6 [(0, .ref (ad 0)), (1, .int c0), (2, .int q), (3, .int w), (4, .int z0)] := hl
  have h36 : M 3 0 ≤ 6 := hM 3 0
  have h160 : M 16 0 ≤ 60 := hM 16 0
  have h220 : M 22 0 ≤ 60 := hM 22 0
  have h290 : M 29 0 ≤ 60 := hM 29 0
  have h120 : M 1 0 ≤ 2000 := hM 1 0
  refine lv_iload_n hx hb dX9_addTender_0 rfl (lv_at hl 1 rfl) ?_
  refine lv_aload_n hx hb dX9_addTender_1 rfl (lv_at hl 0 rfl) ?_
  refine m_get (v := .int (nI (M 1 0))) hx hb hts hin hown hK hP 1 (by decide) l_today rfl dX9_addTender_2 ?_
  refine lv_iconst (v := nI 1) hx hb dX9_addTender_5 (by decide) ?_
  refine n_iadd hx hb dX9_addTender_6 (z := (M 1 0) + 1) rfl ?_
  refine lv_sipush (v := nI 1000) hx hb dX9_addTender_7 (by decide) ?_
  refine vp_callSi (W.runS (As := [.int c0, .int (nI ((M 1 0) + 1)), .int (nI 1000)]) (rest := []) ⟨hx, hb, hml, hown, hts⟩ (c9_in l  c0 (nI ((M 1 0) + 1)) (nI 1000)) (va_cwS 3 hts gX9_addTender_X9_in rfl rfl rfl kd_X9_in ⟨Nat.le_of_ble_eq_true rfl, Nat.le_of_ble_eq_true rfl⟩) ⟨fun _ _ _ _ q => q, fun U hU hW => ⟨rfl, trivial⟩⟩ rfl rfl hl.1 rfl (lv_room (Nat.le_of_ble_eq_true rfl)) dX9_addTender_10 ⟨Nat.le_of_ble_eq_true rfl, Nat.le_of_ble_eq_true rfl⟩) (fun r_1 hr_1 => ?_)
  subst hr_1
  refine b_if_eq (tgt := 51) hx hb dX9_addTender_13 (by decide)  (fun c_2 => ?_) (fun c_2 => ?_)
  · refine lv_iconst (v := nI 0) hx hb dX9_addTender_51 (by decide) ?_
    refine lv_istore (lv' := [(5, .int (nI 0)), (0, .ref (ad 0)), (1, .int c0), (2, .int q), (3, .int w), (4, .int z0)]) hx hb dX9_addTender_52 hl (by decide) rfl (fun ls hl => ?_)
    refine lv_aload_n hx hb dX9_addTender_54 rfl (lv_at hl 1 rfl) ?_
    refine lv_iload hx hb dX9_addTender_55 (lv_at hl 0 rfl) ?_
    refine n_if_ne (tgt := 64) hx hb dX9_addTender_57 (by decide) (by decide) (fun c9 => absurd c9 (by decide)) (fun _ => ?_)
    refine lv_iconst (v := nI 1) hx hb dX9_addTender_60 (by decide) ?_
    refine lv_goto (tgt := 78) hx hb dX9_addTender_61 (by decide) ?_
    refine m_putT hx hb hts hin hown hK hP hD hS l_thrown dX9_addTender_78 (fun H locs hP hS => ?_)
    refine lv_aload_n hx hb dX9_addTender_81 rfl (lv_at hl 1 rfl) ?_
    refine m_get (v := .int (nI 1)) hx hb hts hin hown hK hP 0 (by decide) l_thrown rfl dX9_addTender_82 ?_
    refine n_if_le (tgt := 90) hx hb dX9_addTender_85 (by decide) (by decide) (fun c9 => absurd c9 (by decide)) (fun _ => ?_)
    refine lv_iconst (v := nI 0) hx hb dX9_addTender_88 (by decide) ?_
    have eM_3 : g_addTender M c0 q w z0 = M := by simp [g_addTender, k_addTender, c_2]
    have eT_4 : k_addTender M c0 q w z0 = 1 := by simp [k_addTender, c_2]
    exact W.iret (v := nI 0) hx hb hr (fun U9 ht hW => ⟨⟨_, (), rfl, (show nI 0 = if k_addTender M c0 q w z0 = 0 then nI (M 3 0) else nI 0 from by simp [k_addTender, c_2]), by show va_P D vwCl _ U9.heap; rw [ht, eM_3, eT_4]; exact hP⟩, hS.F ht⟩) hS.2.2 dX9_addTender_89
  · obtain ⟨c1, hc1, hc19, rfl⟩ := i_in_of (a := M 1 0 + 1) (b := 1000) (by omega) c_2
    have kc19 : (nI c1).toNatClampNeg = c1 := nI_clamp (by omega)
    refine lv_iload_n hx hb dX9_addTender_16 rfl (lv_at hl 2 rfl) ?_
    refine lv_iconst (v := nI 0) hx hb dX9_addTender_17 (by decide) ?_
    refine lv_bipush (v := nI 63) hx hb dX9_addTender_18 (by decide) ?_
    refine vp_callSi (W.runS (As := [.int q, .int (nI 0), .int (nI 63)]) (rest := []) ⟨hx, hb, hml, hown, hts⟩ (c9_in l  q (nI 0) (nI 63)) (va_cwS 3 hts gX9_addTender_X9_in rfl rfl rfl kd_X9_in ⟨Nat.le_of_ble_eq_true rfl, Nat.le_of_ble_eq_true rfl⟩) ⟨fun _ _ _ _ q => q, fun U hU hW => ⟨rfl, trivial⟩⟩ rfl rfl hl.1 rfl (lv_room (Nat.le_of_ble_eq_true rfl)) dX9_addTender_20 ⟨Nat.le_of_ble_eq_true rfl, Nat.le_of_ble_eq_true rfl⟩) (fun r_5 hr_5 => ?_)
    subst hr_5
    refine b_if_eq (tgt := 51) hx hb dX9_addTender_23 (by decide)  (fun c_6 => ?_) (fun c_6 => ?_)
    · refine lv_iconst (v := nI 0) hx hb dX9_addTender_51 (by decide) ?_
      refine lv_istore (lv' := [(5, .int (nI 0)), (0, .ref (ad 0)), (1, .int (nI c1)), (2, .int q), (3, .int w), (4, .int z0)]) hx hb dX9_addTender_52 hl (by decide) rfl (fun ls hl => ?_)
      refine lv_aload_n hx hb dX9_addTender_54 rfl (lv_at hl 1 rfl) ?_
      refine lv_iload hx hb dX9_addTender_55 (lv_at hl 0 rfl) ?_
      refine n_if_ne (tgt := 64) hx hb dX9_addTender_57 (by decide) (by decide) (fun c9 => absurd c9 (by decide)) (fun _ => ?_)
      refine lv_iconst (v := nI 1) hx hb dX9_addTender_60 (by decide) ?_
      refine lv_goto (tgt := 78) hx hb dX9_addTender_61 (by decide) ?_
      refine m_putT hx hb hts hin hown hK hP hD hS l_thrown dX9_addTender_78 (fun H locs hP hS => ?_)
      refine lv_aload_n hx hb dX9_addTender_81 rfl (lv_at hl 1 rfl) ?_
      refine m_get (v := .int (nI 1)) hx hb hts hin hown hK hP 0 (by decide) l_thrown rfl dX9_addTender_82 ?_
      refine n_if_le (tgt := 90) hx hb dX9_addTender_85 (by decide) (by decide) (fun c9 => absurd c9 (by decide)) (fun _ => ?_)
      refine lv_iconst (v := nI 0) hx hb dX9_addTender_88 (by decide) ?_
      have eM_7 : g_addTender M (nI c1) q w z0 = M := by simp [g_addTender, k_addTender, c_2, kc19, c_6]
      have eT_8 : k_addTender M (nI c1) q w z0 = 1 := by simp [k_addTender, c_2, kc19, c_6]
      exact W.iret (v := nI 0) hx hb hr (fun U9 ht hW => ⟨⟨_, (), rfl, (show nI 0 = if k_addTender M (nI c1) q w z0 = 0 then nI (M 3 0) else nI 0 from by simp [k_addTender, c_2, kc19, c_6]), by show va_P D vwCl _ U9.heap; rw [ht, eM_7, eT_8]; exact hP⟩, hS.F ht⟩) hS.2.2 dX9_addTender_89
    · obtain ⟨q1, hq1, hq19, rfl⟩ := i_in_of (a := 0) (b := 63) (by omega) c_6
      have kq19 : (nI q1).toNatClampNeg = q1 := nI_clamp (by omega)
      refine lv_iload_n hx hb dX9_addTender_26 rfl (lv_at hl 3 rfl) ?_
      refine lv_iconst (v := nI 0) hx hb dX9_addTender_27 (by decide) ?_
      refine lv_bipush (v := nI 100) hx hb dX9_addTender_28 (by decide) ?_
      refine vp_callSi (W.runS (As := [.int w, .int (nI 0), .int (nI 100)]) (rest := []) ⟨hx, hb, hml, hown, hts⟩ (c9_in l  w (nI 0) (nI 100)) (va_cwS 3 hts gX9_addTender_X9_in rfl rfl rfl kd_X9_in ⟨Nat.le_of_ble_eq_true rfl, Nat.le_of_ble_eq_true rfl⟩) ⟨fun _ _ _ _ q => q, fun U hU hW => ⟨rfl, trivial⟩⟩ rfl rfl hl.1 rfl (lv_room (Nat.le_of_ble_eq_true rfl)) dX9_addTender_30 ⟨Nat.le_of_ble_eq_true rfl, Nat.le_of_ble_eq_true rfl⟩) (fun r_9 hr_9 => ?_)
      subst hr_9
      refine b_if_eq (tgt := 51) hx hb dX9_addTender_33 (by decide)  (fun c_10 => ?_) (fun c_10 => ?_)
      · refine lv_iconst (v := nI 0) hx hb dX9_addTender_51 (by decide) ?_
        refine lv_istore (lv' := [(5, .int (nI 0)), (0, .ref (ad 0)), (1, .int (nI c1)), (2, .int (nI q1)), (3, .int w), (4, .int z0)]) hx hb dX9_addTender_52 hl (by decide) rfl (fun ls hl => ?_)
        refine lv_aload_n hx hb dX9_addTender_54 rfl (lv_at hl 1 rfl) ?_
        refine lv_iload hx hb dX9_addTender_55 (lv_at hl 0 rfl) ?_
        refine n_if_ne (tgt := 64) hx hb dX9_addTender_57 (by decide) (by decide) (fun c9 => absurd c9 (by decide)) (fun _ => ?_)
        refine lv_iconst (v := nI 1) hx hb dX9_addTender_60 (by decide) ?_
        refine lv_goto (tgt := 78) hx hb dX9_addTender_61 (by decide) ?_
        refine m_putT hx hb hts hin hown hK hP hD hS l_thrown dX9_addTender_78 (fun H locs hP hS => ?_)
        refine lv_aload_n hx hb dX9_addTender_81 rfl (lv_at hl 1 rfl) ?_
        refine m_get (v := .int (nI 1)) hx hb hts hin hown hK hP 0 (by decide) l_thrown rfl dX9_addTender_82 ?_
        refine n_if_le (tgt := 90) hx hb dX9_addTender_85 (by decide) (by decide) (fun c9 => absurd c9 (by decide)) (fun _ => ?_)
        refine lv_iconst (v := nI 0) hx hb dX9_addTender_88 (by decide) ?_
        have eM_11 : g_addTender M (nI c1) (nI q1) w z0 = M := by simp [g_addTender, k_addTender, c_2, kc19, c_6, kq19, c_10]
        have eT_12 : k_addTender M (nI c1) (nI q1) w z0 = 1 := by simp [k_addTender, c_2, kc19, c_6, kq19, c_10]
        exact W.iret (v := nI 0) hx hb hr (fun U9 ht hW => ⟨⟨_, (), rfl, (show nI 0 = if k_addTender M (nI c1) (nI q1) w z0 = 0 then nI (M 3 0) else nI 0 from by simp [k_addTender, c_2, kc19, c_6, kq19, c_10]), by show va_P D vwCl _ U9.heap; rw [ht, eM_11, eT_12]; exact hP⟩, hS.F ht⟩) hS.2.2 dX9_addTender_89
      · obtain ⟨w1, hw1, hw19, rfl⟩ := i_in_of (a := 0) (b := 100) (by omega) c_10
        have kw19 : (nI w1).toNatClampNeg = w1 := nI_clamp (by omega)
        refine lv_iload hx hb dX9_addTender_36 (lv_at hl 4 rfl) ?_
        refine lv_iconst (v := nI 0) hx hb dX9_addTender_38 (by decide) ?_
        refine lv_bipush (v := nI 30) hx hb dX9_addTender_39 (by decide) ?_
        refine vp_callSi (W.runS (As := [.int z0, .int (nI 0), .int (nI 30)]) (rest := []) ⟨hx, hb, hml, hown, hts⟩ (c9_in l  z0 (nI 0) (nI 30)) (va_cwS 3 hts gX9_addTender_X9_in rfl rfl rfl kd_X9_in ⟨Nat.le_of_ble_eq_true rfl, Nat.le_of_ble_eq_true rfl⟩) ⟨fun _ _ _ _ q => q, fun U hU hW => ⟨rfl, trivial⟩⟩ rfl rfl hl.1 rfl (lv_room (Nat.le_of_ble_eq_true rfl)) dX9_addTender_41 ⟨Nat.le_of_ble_eq_true rfl, Nat.le_of_ble_eq_true rfl⟩) (fun r_13 hr_13 => ?_)
        subst hr_13
        refine b_if_eq (tgt := 51) hx hb dX9_addTender_44 (by decide)  (fun c_14 => ?_) (fun c_14 => ?_)
        · refine lv_iconst (v := nI 0) hx hb dX9_addTender_51 (by decide) ?_
          refine lv_istore (lv' := [(5, .int (nI 0)), (0, .ref (ad 0)), (1, .int (nI c1)), (2, .int (nI q1)), (3, .int (nI w1)), (4, .int z0)]) hx hb dX9_addTender_52 hl (by decide) rfl (fun ls hl => ?_)
          refine lv_aload_n hx hb dX9_addTender_54 rfl (lv_at hl 1 rfl) ?_
          refine lv_iload hx hb dX9_addTender_55 (lv_at hl 0 rfl) ?_
          refine n_if_ne (tgt := 64) hx hb dX9_addTender_57 (by decide) (by decide) (fun c9 => absurd c9 (by decide)) (fun _ => ?_)
          refine lv_iconst (v := nI 1) hx hb dX9_addTender_60 (by decide) ?_
          refine lv_goto (tgt := 78) hx hb dX9_addTender_61 (by decide) ?_
          refine m_putT hx hb hts hin hown hK hP hD hS l_thrown dX9_addTender_78 (fun H locs hP hS => ?_)
          refine lv_aload_n hx hb dX9_addTender_81 rfl (lv_at hl 1 rfl) ?_
          refine m_get (v := .int (nI 1)) hx hb hts hin hown hK hP 0 (by decide) l_thrown rfl dX9_addTender_82 ?_
          refine n_if_le (tgt := 90) hx hb dX9_addTender_85 (by decide) (by decide) (fun c9 => absurd c9 (by decide)) (fun _ => ?_)
          refine lv_iconst (v := nI 0) hx hb dX9_addTender_88 (by decide) ?_
          have eM_15 : g_addTender M (nI c1) (nI q1) (nI w1) z0 = M := by simp [g_addTender, k_addTender, c_2, kc19, c_6, kq19, c_10, kw19, c_14]
          have eT_16 : k_addTender M (nI c1) (nI q1) (nI w1) z0 = 1 := by simp [k_addTender, c_2, kc19, c_6, kq19, c_10, kw19, c_14]
          exact W.iret (v := nI 0) hx hb hr (fun U9 ht hW => ⟨⟨_, (), rfl, (show nI 0 = if k_addTender M (nI c1) (nI q1) (nI w1) z0 = 0 then nI (M 3 0) else nI 0 from by simp [k_addTender, c_2, kc19, c_6, kq19, c_10, kw19, c_14]), by show va_P D vwCl _ U9.heap; rw [ht, eM_15, eT_16]; exact hP⟩, hS.F ht⟩) hS.2.2 dX9_addTender_89
        · obtain ⟨z1, hz1, hz19, rfl⟩ := i_in_of (a := 0) (b := 30) (by omega) c_14
          have kz19 : (nI z1).toNatClampNeg = z1 := nI_clamp (by omega)
          refine lv_iconst (v := nI 1) hx hb dX9_addTender_47 (by decide) ?_
          refine lv_goto (tgt := 52) hx hb dX9_addTender_48 (by decide) ?_
          refine lv_istore (lv' := [(5, .int (nI 1)), (0, .ref (ad 0)), (1, .int (nI c1)), (2, .int (nI q1)), (3, .int (nI w1)), (4, .int (nI z1))]) hx hb dX9_addTender_52 hl (by decide) rfl (fun ls hl => ?_)
          refine lv_aload_n hx hb dX9_addTender_54 rfl (lv_at hl 1 rfl) ?_
          refine lv_iload hx hb dX9_addTender_55 (lv_at hl 0 rfl) ?_
          refine n_if_ne (tgt := 64) hx hb dX9_addTender_57 (by decide) (by decide) (fun _ => ?_) (fun c9 => absurd c9 (by decide))
          refine lv_aload_n hx hb dX9_addTender_64 rfl (lv_at hl 1 rfl) ?_
          refine m_get (v := .int (nI (M 3 0))) hx hb hts hin hown hK hP 3 (by decide) l_tenders rfl dX9_addTender_65 ?_
          refine lv_bipush (v := nI 6) hx hb dX9_addTender_68 (by decide) ?_
          refine n_icmp_ne (tgt := 77) hx hb dX9_addTender_70 (by decide) (by have f1 : M 3 0 ≤ 6 := hM 3 0; omega) (by decide) (fun c_17 => ?_) (fun c_17 => ?_)
          · refine lv_iconst (v := nI 0) hx hb dX9_addTender_77 (by decide) ?_
            refine m_putT hx hb hts hin hown hK hP hD hS l_thrown dX9_addTender_78 (fun H locs hP hS => ?_)
            refine lv_aload_n hx hb dX9_addTender_81 rfl (lv_at hl 1 rfl) ?_
            refine m_get (v := .int (nI 0)) hx hb hts hin hown hK hP 0 (by decide) l_thrown rfl dX9_addTender_82 ?_
            refine n_if_le (tgt := 90) hx hb dX9_addTender_85 (by decide) (by decide) (fun _ => ?_) (fun c9 => absurd c9 (by decide))
            refine lv_aload_n hx hb dX9_addTender_90 rfl (lv_at hl 1 rfl) ?_
            refine m_get hx hb hts hin hown hK hP 4 (by decide) l_closing rfl dX9_addTender_91 ?_
            refine lv_aload_n hx hb dX9_addTender_94 rfl (lv_at hl 1 rfl) ?_
            refine m_get (v := .int (nI (M 3 0))) hx hb hts hin hown hK hP 3 (by decide) l_tenders rfl dX9_addTender_95 ?_
            refine lv_iload_n hx hb dX9_addTender_98 rfl (lv_at hl 2 rfl) ?_
            refine m_iast (f := 4) (v := c1) hx hb hK hP hD hS 2 rfl (by have f1 : M 3 0 ≤ 6 := hM 3 0; omega) (by decide) (mset_4 _ _ _ _ _ _ _ _) dX9_addTender_99 (fun H locs hP hS => ?_)
            refine lv_aload_n hx hb dX9_addTender_100 rfl (lv_at hl 1 rfl) ?_
            refine m_get hx hb hts hin hown hK hP 5 (by decide) l_papers rfl dX9_addTender_101 ?_
            refine lv_aload_n hx hb dX9_addTender_104 rfl (lv_at hl 1 rfl) ?_
            refine m_get (v := .int (nI (M 3 0))) hx hb hts hin hown hK hP 3 (by decide) l_tenders rfl dX9_addTender_105 ?_
            refine lv_iload_n hx hb dX9_addTender_108 rfl (lv_at hl 3 rfl) ?_
            refine m_iast (f := 5) (v := q1) hx hb hK hP hD hS 3 rfl (by have f1 : M 3 0 ≤ 6 := hM 3 0; omega) (by decide) (mset_5 _ _ _ _ _ _ _ _) dX9_addTender_109 (fun H locs hP hS => ?_)
            refine lv_aload_n hx hb dX9_addTender_110 rfl (lv_at hl 1 rfl) ?_
            refine m_get hx hb hts hin hown hK hP 6 (by decide) l_weight rfl dX9_addTender_111 ?_
            refine lv_aload_n hx hb dX9_addTender_114 rfl (lv_at hl 1 rfl) ?_
            refine m_get (v := .int (nI (M 3 0))) hx hb hts hin hown hK hP 3 (by decide) l_tenders rfl dX9_addTender_115 ?_
            refine lv_iload_n hx hb dX9_addTender_118 rfl (lv_at hl 4 rfl) ?_
            refine m_iast (f := 6) (v := w1) hx hb hK hP hD hS 4 rfl (by have f1 : M 3 0 ≤ 6 := hM 3 0; omega) (by decide) (mset_6 _ _ _ _ _ _ _ _) dX9_addTender_119 (fun H locs hP hS => ?_)
            refine lv_aload_n hx hb dX9_addTender_120 rfl (lv_at hl 1 rfl) ?_
            refine m_get hx hb hts hin hown hK hP 7 (by decide) l_standing rfl dX9_addTender_121 ?_
            refine lv_aload_n hx hb dX9_addTender_124 rfl (lv_at hl 1 rfl) ?_
            refine m_get (v := .int (nI (M 3 0))) hx hb hts hin hown hK hP 3 (by decide) l_tenders rfl dX9_addTender_125 ?_
            refine lv_iload hx hb dX9_addTender_128 (lv_at hl 5 rfl) ?_
            refine m_iast (f := 7) (v := z1) hx hb hK hP hD hS 5 rfl (by have f1 : M 3 0 ≤ 6 := hM 3 0; omega) (by decide) (mset_7 _ _ _ _ _ _ _ _) dX9_addTender_130 (fun H locs hP hS => ?_)
            refine lv_aload_n hx hb dX9_addTender_131 rfl (lv_at hl 1 rfl) ?_
            refine lv_dup hx hb dX9_addTender_132 rfl ?_
            refine m_get (v := .int (nI (M 3 0))) hx hb hts hin hown hK hP 3 (by decide) l_tenders rfl dX9_addTender_133 ?_
            refine lv_iconst (v := nI 1) hx hb dX9_addTender_136 (by decide) ?_
            refine n_iadd hx hb dX9_addTender_137 (z := (M 3 0) + 1) rfl ?_
            refine m_put hx hb hts hin hown hK hP hD hS 3 (by decide) l_tenders rfl rfl (mset_3 _ _ _ _ _ _ _) dX9_addTender_138 (fun H locs hP hS => ?_)
            refine lv_aload_n hx hb dX9_addTender_141 rfl (lv_at hl 1 rfl) ?_
            refine m_get (v := .int (nI ((M 3 0) + 1))) hx hb hts hin hown hK hP 3 (by decide) l_tenders rfl dX9_addTender_142 ?_
            refine lv_iconst (v := nI 1) hx hb dX9_addTender_145 (by decide) ?_
            refine n_isub hx hb dX9_addTender_146 (z := ((M 3 0) + 1) - 1) (by have f1 : M 3 0 ≤ 6 := hM 3 0; omega) rfl ?_
            have eM_18 : g_addTender M (nI c1) (nI q1) (nI w1) (nI z1) = mu (mu (mu (mu (mu M 4 (M 3 0) c1) 5 (M 3 0) q1) 6 (M 3 0) w1) 7 (M 3 0) z1) 3 0 ((M 3 0) + 1) := by simp [g_addTender, k_addTender, c_2, kc19, c_6, kq19, c_10, kw19, c_14, kz19, c_17]
            have eT_19 : k_addTender M (nI c1) (nI q1) (nI w1) (nI z1) = 0 := by simp [k_addTender, c_2, kc19, c_6, kq19, c_10, kw19, c_14, kz19, c_17]
            exact W.iret (v := nI (((M 3 0) + 1) - 1)) hx hb hr (fun U9 ht hW => ⟨⟨_, (), rfl, (show nI (((M 3 0) + 1) - 1) = if k_addTender M (nI c1) (nI q1) (nI w1) (nI z1) = 0 then nI (M 3 0) else nI 0 from by simp [k_addTender, c_2, kc19, c_6, kq19, c_10, kw19, c_14, kz19, c_17]), by show va_P D vwCl _ U9.heap; rw [ht, eM_18, eT_19]; exact hP⟩, hS.F ht⟩) hS.2.2 dX9_addTender_147
          · refine lv_iconst (v := nI 2) hx hb dX9_addTender_73 (by decide) ?_
            refine lv_goto (tgt := 78) hx hb dX9_addTender_74 (by decide) ?_
            refine m_putT hx hb hts hin hown hK hP hD hS l_thrown dX9_addTender_78 (fun H locs hP hS => ?_)
            refine lv_aload_n hx hb dX9_addTender_81 rfl (lv_at hl 1 rfl) ?_
            refine m_get (v := .int (nI 2)) hx hb hts hin hown hK hP 0 (by decide) l_thrown rfl dX9_addTender_82 ?_
            refine n_if_le (tgt := 90) hx hb dX9_addTender_85 (by decide) (by decide) (fun c9 => absurd c9 (by decide)) (fun _ => ?_)
            refine lv_iconst (v := nI 0) hx hb dX9_addTender_88 (by decide) ?_
            have eM_20 : g_addTender M (nI c1) (nI q1) (nI w1) (nI z1) = M := by simp [g_addTender, k_addTender, c_2, kc19, c_6, kq19, c_10, kw19, c_14, kz19, c_17]
            have eT_21 : k_addTender M (nI c1) (nI q1) (nI w1) (nI z1) = 2 := by simp [k_addTender, c_2, kc19, c_6, kq19, c_10, kw19, c_14, kz19, c_17]
            exact W.iret (v := nI 0) hx hb hr (fun U9 ht hW => ⟨⟨_, (), rfl, (show nI 0 = if k_addTender M (nI c1) (nI q1) (nI w1) (nI z1) = 0 then nI (M 3 0) else nI 0 from by simp [k_addTender, c_2, kc19, c_6, kq19, c_10, kw19, c_14, kz19, c_17]), by show va_P D vwCl _ U9.heap; rw [ht, eM_20, eT_21]; exact hP⟩, hS.F ht⟩) hS.2.2 dX9_addTender_89
set_option maxHeartbeats 4000000 in
set_option maxRecDepth 100000 in
theorem c9_addLot (l : Launch) (D : va_G) (ad : Nat → Nat) (cI cZ cC : ClassId) (th : Nat) (M : MS) (hM : MI M) {A : Nat → Prop} (hD : mDis A ad) (t : Int32) (d : Int32) : Met l yX9_addLot wsX9_addLot ({ frames := 2, cells := 0, slots := 0, locals := 43 }) (va_Pc [.ref (ad 0), .int t, .int d] (mB D ad cI cZ cC th M)) (va_Qi (fun (r : Int32) (_ : Unit) => r = if k_addLot M t d = 0 then nI (M 8 (t).toNatClampNeg) else nI 0) (fun _ U9 => va_P D vwCl (mws ad cI cZ cC (k_addLot M t d) (g_addLot M t d)) U9.heap) A) 0 0 A := by
  refine Met.ofW (cc := cX9_addLot) (maxL := 3) (ret := (some .int)) (by decide) rfl ?_
  intro p e s m args below meth c s₁ B hml hv
  obtain ⟨rfl, hP, hK⟩ := hv
  have hx := B.exec
  have hb := B.bytes
  have hr := B.returns
  have hts := atoms_spec (ws := wsX9_addLot) B.pre
  have hown : s.vm.findClass RX9 = some m.cls := findClass_of_methodNamed B.named
  have hlocks := B.notSynchronized
  have hin : ∀ w ∈ wsX90, w ∈ wsX9_addLot := fun w h => List.mem_cons_of_mem _ (List.mem_append_right _ h)
  have l_lots := (hts (.fieldLink RX9 25 "TenderHallModel" "lots" "[I") (List.mem_of_getElem? (i := 1) rfl))
  have l_thrown := (hts (.fieldLink RX9 93 "TenderHallModel" "thrown" "I") (List.mem_of_getElem? (i := 2) rfl))
  have l_deposit := (hts (.fieldLink RX9 28 "TenderHallModel" "deposit" "[I") (List.mem_of_getElem? (i := 3) rfl))
  have hS : va_S A s.heap s.heap [] := va_S.rf
  have hl := lv_entry ([.ref (ad 0), .int t, .int d]) (n := 3) (Nat.le_of_ble_eq_true rfl)
  rw [lg_entry_eq]
  generalize (lg_sl ([.ref (ad 0), .int t, .int d]) ++ List.replicate (3 - (lg_sl ([.ref (ad 0), .int t, .int d])).length) Slot.unset).toArray = ls at hl ⊢
  have hl : lv_has ls 3 [(0, .ref (ad 0)), (1, .int t), (2, .int d)] := hl
  have h36 : M 3 0 ≤ 6 := hM 3 0
  have h160 : M 16 0 ≤ 60 := hM 16 0
  have h220 : M 22 0 ≤ 60 := hM 22 0
  have h290 : M 29 0 ≤ 60 := hM 29 0
  have h120 : M 1 0 ≤ 2000 := hM 1 0
  refine lv_aload_n hx hb dX9_addLot_0 rfl (lv_at hl 0 rfl) ?_
  refine lv_aload_n hx hb dX9_addLot_1 rfl (lv_at hl 0 rfl) ?_
  refine lv_iload_n hx hb dX9_addLot_2 rfl (lv_at hl 1 rfl) ?_
  refine vp_callSi (W.runV (As := [.int t]) (rest := [.ref (ad 0)]) ⟨hx, hb, hml, hown, hts⟩ (c9_isTender l D ad cI cZ cC th M hM  t) (cwV 1 hts gX9_addLot_X9_isTender rfl rfl rfl kd_X9_isTender ⟨Nat.le_of_ble_eq_true rfl, Nat.le_of_ble_eq_true rfl⟩) ⟨mB_blind, m_recv hK hP, m_pre hK hP _⟩ rfl rfl hl.1 rfl (lv_room (Nat.le_of_ble_eq_true rfl)) dX9_addLot_3 ⟨Nat.le_of_ble_eq_true rfl, Nat.le_of_ble_eq_true rfl⟩) (fun r_1 hr_1 => ?_)
  subst hr_1
  refine b_if_ne (tgt := 13) hx hb dX9_addLot_6 (by decide)  (fun c_2 => ?_) (fun c_2 => ?_)
  · obtain ⟨t1, ht1, rfl⟩ := isIx_of (by omega) c_2
    have kt19 : (nI t1).toNatClampNeg = t1 := nI_clamp (by omega)
    refine lv_iload_n hx hb dX9_addLot_13 rfl (lv_at hl 2 rfl) ?_
    refine lv_iconst (v := nI 0) hx hb dX9_addLot_14 (by decide) ?_
    refine lv_sipush (v := nI 10000) hx hb dX9_addLot_15 (by decide) ?_
    refine vp_callSi (W.runS (As := [.int d, .int (nI 0), .int (nI 10000)]) (rest := [.ref (ad 0)]) ⟨hx, hb, hml, hown, hts⟩ (c9_in l  d (nI 0) (nI 10000)) (va_cwS 3 hts gX9_addLot_X9_in rfl rfl rfl kd_X9_in ⟨Nat.le_of_ble_eq_true rfl, Nat.le_of_ble_eq_true rfl⟩) ⟨fun _ _ _ _ q => q, fun U hU hW => ⟨rfl, trivial⟩⟩ rfl rfl hl.1 rfl (lv_room (Nat.le_of_ble_eq_true rfl)) dX9_addLot_18 ⟨Nat.le_of_ble_eq_true rfl, Nat.le_of_ble_eq_true rfl⟩) (fun r_3 hr_3 => ?_)
    subst hr_3
    refine b_if_ne (tgt := 28) hx hb dX9_addLot_21 (by decide)  (fun c_4 => ?_) (fun c_4 => ?_)
    · obtain ⟨d1, hd1, hd19, rfl⟩ := i_in_of (a := 0) (b := 10000) (by omega) c_4
      have kd19 : (nI d1).toNatClampNeg = d1 := nI_clamp (by omega)
      refine lv_aload_n hx hb dX9_addLot_28 rfl (lv_at hl 0 rfl) ?_
      refine m_get hx hb hts hin hown hK hP 8 (by decide) l_lots rfl dX9_addLot_29 ?_
      refine lv_iload_n hx hb dX9_addLot_32 rfl (lv_at hl 1 rfl) ?_
      refine m_iald (f := 8) hx hb hK hP 6 rfl (by omega) (by decide) dX9_addLot_33 ?_
      refine lv_iconst (v := nI 3) hx hb dX9_addLot_34 (by decide) ?_
      refine n_icmp_eq (tgt := 46) hx hb dX9_addLot_35 (by decide) (by have f1 : M 8 t1 ≤ 3 := hM 8 t1; omega) (by decide) (fun c_5 => ?_) (fun c_5 => ?_)
      · refine lv_iconst (v := nI 3) hx hb dX9_addLot_46 (by decide) ?_
        refine lv_goto (tgt := 51) hx hb dX9_addLot_47 (by decide) ?_
        refine m_putT hx hb hts hin hown hK hP hD hS l_thrown dX9_addLot_51 (fun H locs hP hS => ?_)
        refine lv_aload_n hx hb dX9_addLot_54 rfl (lv_at hl 0 rfl) ?_
        refine m_get (v := .int (nI 3)) hx hb hts hin hown hK hP 0 (by decide) l_thrown rfl dX9_addLot_55 ?_
        refine n_if_le (tgt := 63) hx hb dX9_addLot_58 (by decide) (by decide) (fun c9 => absurd c9 (by decide)) (fun _ => ?_)
        refine lv_iconst (v := nI 0) hx hb dX9_addLot_61 (by decide) ?_
        have eM_6 : g_addLot M (nI t1) (nI d1) = M := by simp [g_addLot, k_addLot, c_2, kt19, c_4, kd19, c_5]
        have eT_7 : k_addLot M (nI t1) (nI d1) = 3 := by simp [k_addLot, c_2, kt19, c_4, kd19, c_5]
        exact W.iret (v := nI 0) hx hb hr (fun U9 ht hW => ⟨⟨_, (), rfl, (show nI 0 = if k_addLot M (nI t1) (nI d1) = 0 then nI (M 8 ((nI t1)).toNatClampNeg) else nI 0 from by simp [k_addLot, c_2, kt19, c_4, kd19, c_5]), by show va_P D vwCl _ U9.heap; rw [ht, eM_6, eT_7]; exact hP⟩, hS.F ht⟩) hS.2.2 dX9_addLot_62
      · refine lv_aload_n hx hb dX9_addLot_38 rfl (lv_at hl 0 rfl) ?_
        refine lv_iload_n hx hb dX9_addLot_39 rfl (lv_at hl 1 rfl) ?_
        refine vp_callSi (W.runV (As := [.int (nI t1)]) (rest := [.ref (ad 0)]) ⟨hx, hb, hml, hown, hts⟩ (c9_isOpened l D ad cI cZ cC th M hM  t1 (by omega)) (cwV 1 hts gX9_addLot_X9_isOpened rfl rfl rfl kd_X9_isOpened ⟨Nat.le_of_ble_eq_true rfl, Nat.le_of_ble_eq_true rfl⟩) ⟨mB_blind, m_recv hK hP, m_pre hK hP _⟩ rfl rfl hl.1 rfl (lv_room (Nat.le_of_ble_eq_true rfl)) dX9_addLot_40 ⟨Nat.le_of_ble_eq_true rfl, Nat.le_of_ble_eq_true rfl⟩) (fun r_8 hr_8 => ?_)
        subst hr_8
        refine b_if_eq (tgt := 50) hx hb dX9_addLot_43 (by decide)  (fun c_9 => ?_) (fun c_9 => ?_)
        · refine lv_iconst (v := nI 0) hx hb dX9_addLot_50 (by decide) ?_
          refine m_putT hx hb hts hin hown hK hP hD hS l_thrown dX9_addLot_51 (fun H locs hP hS => ?_)
          refine lv_aload_n hx hb dX9_addLot_54 rfl (lv_at hl 0 rfl) ?_
          refine m_get (v := .int (nI 0)) hx hb hts hin hown hK hP 0 (by decide) l_thrown rfl dX9_addLot_55 ?_
          refine n_if_le (tgt := 63) hx hb dX9_addLot_58 (by decide) (by decide) (fun _ => ?_) (fun c9 => absurd c9 (by decide))
          refine lv_aload_n hx hb dX9_addLot_63 rfl (lv_at hl 0 rfl) ?_
          refine m_get hx hb hts hin hown hK hP 9 (by decide) l_deposit rfl dX9_addLot_64 ?_
          refine lv_iconst (v := nI 3) hx hb dX9_addLot_67 (by decide) ?_
          refine lv_iload_n hx hb dX9_addLot_68 rfl (lv_at hl 1 rfl) ?_
          refine n_imul hx hb dX9_addLot_69 (z := 3 * t1) rfl ?_
          refine lv_aload_n hx hb dX9_addLot_70 rfl (lv_at hl 0 rfl) ?_
          refine m_get hx hb hts hin hown hK hP 8 (by decide) l_lots rfl dX9_addLot_71 ?_
          refine lv_iload_n hx hb dX9_addLot_74 rfl (lv_at hl 1 rfl) ?_
          refine m_iald (f := 8) hx hb hK hP 6 rfl (by omega) (by decide) dX9_addLot_75 ?_
          refine n_iadd hx hb dX9_addLot_76 (z := (3 * t1) + (M 8 t1)) rfl ?_
          refine lv_iload_n hx hb dX9_addLot_77 rfl (lv_at hl 2 rfl) ?_
          refine m_iast (f := 9) (v := d1) hx hb hK hP hD hS 7 rfl (by have f1 : M 8 t1 ≤ 3 := hM 8 t1; omega) (by decide) (mset_9 _ _ _ _ _ _ _ _) dX9_addLot_78 (fun H locs hP hS => ?_)
          refine lv_aload_n hx hb dX9_addLot_79 rfl (lv_at hl 0 rfl) ?_
          refine m_get hx hb hts hin hown hK hP 8 (by decide) l_lots rfl dX9_addLot_80 ?_
          refine lv_iload_n hx hb dX9_addLot_83 rfl (lv_at hl 1 rfl) ?_
          refine lv_dup2_11 hx hb dX9_addLot_84 rfl rfl ?_
          refine m_iald (f := 8) hx hb hK hP 6 rfl (by omega) (by decide) dX9_addLot_85 ?_
          rw [show (mu M 9 ((3 * t1) + (M 8 t1)) d1) 8 t1 = M 8 t1 from rfl]
          refine lv_iconst (v := nI 1) hx hb dX9_addLot_86 (by decide) ?_
          refine n_iadd hx hb dX9_addLot_87 (z := (M 8 t1) + 1) rfl ?_
          refine m_iast (f := 8) (v := (M 8 t1) + 1) hx hb hK hP hD hS 6 rfl (by omega) (by decide) (mset_8 _ _ _ _ _ _ _ _) dX9_addLot_88 (fun H locs hP hS => ?_)
          refine lv_aload_n hx hb dX9_addLot_89 rfl (lv_at hl 0 rfl) ?_
          refine m_get hx hb hts hin hown hK hP 8 (by decide) l_lots rfl dX9_addLot_90 ?_
          refine lv_iload_n hx hb dX9_addLot_93 rfl (lv_at hl 1 rfl) ?_
          refine m_iald (f := 8) hx hb hK hP 6 rfl (by omega) (by decide) dX9_addLot_94 ?_
          rw [show (mu (mu M 9 ((3 * t1) + (M 8 t1)) d1) 8 t1 ((M 8 t1) + 1)) 8 t1 = (M 8 t1) + 1 from by simp [mu]]
          refine lv_iconst (v := nI 1) hx hb dX9_addLot_95 (by decide) ?_
          refine n_isub hx hb dX9_addLot_96 (z := ((M 8 t1) + 1) - 1) (by have f1 : M 8 t1 ≤ 3 := hM 8 t1; omega) rfl ?_
          have eM_10 : g_addLot M (nI t1) (nI d1) = mu (mu M 9 ((3 * t1) + (M 8 t1)) d1) 8 t1 ((M 8 t1) + 1) := by simp [g_addLot, k_addLot, c_2, kt19, c_4, kd19, c_5, c_9]
          have eT_11 : k_addLot M (nI t1) (nI d1) = 0 := by simp [k_addLot, c_2, kt19, c_4, kd19, c_5, c_9]
          exact W.iret (v := nI (((M 8 t1) + 1) - 1)) hx hb hr (fun U9 ht hW => ⟨⟨_, (), rfl, (show nI (((M 8 t1) + 1) - 1) = if k_addLot M (nI t1) (nI d1) = 0 then nI (M 8 ((nI t1)).toNatClampNeg) else nI 0 from by simp [k_addLot, c_2, kt19, c_4, kd19, c_5, c_9]), by show va_P D vwCl _ U9.heap; rw [ht, eM_10, eT_11]; exact hP⟩, hS.F ht⟩) hS.2.2 dX9_addLot_97
        · refine lv_iconst (v := nI 3) hx hb dX9_addLot_46 (by decide) ?_
          refine lv_goto (tgt := 51) hx hb dX9_addLot_47 (by decide) ?_
          refine m_putT hx hb hts hin hown hK hP hD hS l_thrown dX9_addLot_51 (fun H locs hP hS => ?_)
          refine lv_aload_n hx hb dX9_addLot_54 rfl (lv_at hl 0 rfl) ?_
          refine m_get (v := .int (nI 3)) hx hb hts hin hown hK hP 0 (by decide) l_thrown rfl dX9_addLot_55 ?_
          refine n_if_le (tgt := 63) hx hb dX9_addLot_58 (by decide) (by decide) (fun c9 => absurd c9 (by decide)) (fun _ => ?_)
          refine lv_iconst (v := nI 0) hx hb dX9_addLot_61 (by decide) ?_
          have eM_12 : g_addLot M (nI t1) (nI d1) = M := by simp [g_addLot, k_addLot, c_2, kt19, c_4, kd19, c_5, c_9]
          have eT_13 : k_addLot M (nI t1) (nI d1) = 3 := by simp [k_addLot, c_2, kt19, c_4, kd19, c_5, c_9]
          exact W.iret (v := nI 0) hx hb hr (fun U9 ht hW => ⟨⟨_, (), rfl, (show nI 0 = if k_addLot M (nI t1) (nI d1) = 0 then nI (M 8 ((nI t1)).toNatClampNeg) else nI 0 from by simp [k_addLot, c_2, kt19, c_4, kd19, c_5, c_9]), by show va_P D vwCl _ U9.heap; rw [ht, eM_12, eT_13]; exact hP⟩, hS.F ht⟩) hS.2.2 dX9_addLot_62
    · refine lv_iconst (v := nI 2) hx hb dX9_addLot_24 (by decide) ?_
      refine lv_goto (tgt := 51) hx hb dX9_addLot_25 (by decide) ?_
      refine m_putT hx hb hts hin hown hK hP hD hS l_thrown dX9_addLot_51 (fun H locs hP hS => ?_)
      refine lv_aload_n hx hb dX9_addLot_54 rfl (lv_at hl 0 rfl) ?_
      refine m_get (v := .int (nI 2)) hx hb hts hin hown hK hP 0 (by decide) l_thrown rfl dX9_addLot_55 ?_
      refine n_if_le (tgt := 63) hx hb dX9_addLot_58 (by decide) (by decide) (fun c9 => absurd c9 (by decide)) (fun _ => ?_)
      refine lv_iconst (v := nI 0) hx hb dX9_addLot_61 (by decide) ?_
      have eM_14 : g_addLot M (nI t1) d = M := by simp [g_addLot, k_addLot, c_2, kt19, c_4]
      have eT_15 : k_addLot M (nI t1) d = 2 := by simp [k_addLot, c_2, kt19, c_4]
      exact W.iret (v := nI 0) hx hb hr (fun U9 ht hW => ⟨⟨_, (), rfl, (show nI 0 = if k_addLot M (nI t1) d = 0 then nI (M 8 ((nI t1)).toNatClampNeg) else nI 0 from by simp [k_addLot, c_2, kt19, c_4]), by show va_P D vwCl _ U9.heap; rw [ht, eM_14, eT_15]; exact hP⟩, hS.F ht⟩) hS.2.2 dX9_addLot_62
  · refine lv_iconst (v := nI 1) hx hb dX9_addLot_9 (by decide) ?_
    refine lv_goto (tgt := 51) hx hb dX9_addLot_10 (by decide) ?_
    refine m_putT hx hb hts hin hown hK hP hD hS l_thrown dX9_addLot_51 (fun H locs hP hS => ?_)
    refine lv_aload_n hx hb dX9_addLot_54 rfl (lv_at hl 0 rfl) ?_
    refine m_get (v := .int (nI 1)) hx hb hts hin hown hK hP 0 (by decide) l_thrown rfl dX9_addLot_55 ?_
    refine n_if_le (tgt := 63) hx hb dX9_addLot_58 (by decide) (by decide) (fun c9 => absurd c9 (by decide)) (fun _ => ?_)
    refine lv_iconst (v := nI 0) hx hb dX9_addLot_61 (by decide) ?_
    have eM_16 : g_addLot M t d = M := by simp [g_addLot, k_addLot, c_2]
    have eT_17 : k_addLot M t d = 1 := by simp [k_addLot, c_2]
    exact W.iret (v := nI 0) hx hb hr (fun U9 ht hW => ⟨⟨_, (), rfl, (show nI 0 = if k_addLot M t d = 0 then nI (M 8 (t).toNatClampNeg) else nI 0 from by simp [k_addLot, c_2]), by show va_P D vwCl _ U9.heap; rw [ht, eM_16, eT_17]; exact hP⟩, hS.F ht⟩) hS.2.2 dX9_addLot_62
set_option maxHeartbeats 4000000 in
set_option maxRecDepth 100000 in
theorem c9_paper (l : Launch) (D : va_G) (ad : Nat → Nat) (cI cZ cC : ClassId) (th : Nat) (M : MS) (hM : MI M) {A : Nat → Prop} (hD : mDis A ad) (b : Int32) (k : Int32) (u : Int32) : Met l yX9_paper wsX9_paper ({ frames := 2, cells := 0, slots := 0, locals := 42 }) (va_Pc [.ref (ad 0), .int b, .int k, .int u] (mB D ad cI cZ cC th M)) (va_Qi (fun (r : Int32) (_ : Unit) => r = r_paper M b k u) (fun _ U9 => va_P D vwCl (mws ad cI cZ cC (k_paper b k u) (g_paper M b k u)) U9.heap) A) 0 0 A := by
  refine Met.ofW (cc := cX9_paper) (maxL := 5) (ret := (some .int)) (by decide) rfl ?_
  intro p e s m args below meth c s₁ B hml hv
  obtain ⟨rfl, hP, hK⟩ := hv
  have hx := B.exec
  have hb := B.bytes
  have hr := B.returns
  have hts := atoms_spec (ws := wsX9_paper) B.pre
  have hown : s.vm.findClass RX9 = some m.cls := findClass_of_methodNamed B.named
  have hlocks := B.notSynchronized
  have hin : ∀ w ∈ wsX90, w ∈ wsX9_paper := fun w h => List.mem_cons_of_mem _ (List.mem_append_right _ h)
  have l_thrown := (hts (.fieldLink RX9 93 "TenderHallModel" "thrown" "I") (List.mem_of_getElem? (i := 1) rfl))
  have l_until := (hts (.fieldLink RX9 7 "TenderHallModel" "until" "[I") (List.mem_of_getElem? (i := 2) rfl))
  have hS : va_S A s.heap s.heap [] := va_S.rf
  have hl := lv_entry ([.ref (ad 0), .int b, .int k, .int u]) (n := 5) (Nat.le_of_ble_eq_true rfl)
  rw [lg_entry_eq]
  generalize (lg_sl ([.ref (ad 0), .int b, .int k, .int u]) ++ List.replicate (5 - (lg_sl ([.ref (ad 0), .int b, .int k, .int u])).length) Slot.unset).toArray = ls at hl ⊢
  have hl : lv_has ls 5 [(0, .ref (ad 0)), (1, .int b), (2, .int k), (3, .int u)] := hl
  have h36 : M 3 0 ≤ 6 := hM 3 0
  have h160 : M 16 0 ≤ 60 := hM 16 0
  have h220 : M 22 0 ≤ 60 := hM 22 0
  have h290 : M 29 0 ≤ 60 := hM 29 0
  have h120 : M 1 0 ≤ 2000 := hM 1 0
  refine lv_aload_n hx hb dX9_paper_0 rfl (lv_at hl 0 rfl) ?_
  refine lv_iload_n hx hb dX9_paper_1 rfl (lv_at hl 1 rfl) ?_
  refine vp_callSi (W.runS (As := [.int b]) (rest := [.ref (ad 0)]) ⟨hx, hb, hml, hown, hts⟩ (c9_isBidder l  b) (va_cwS 1 hts gX9_paper_X9_isBidder rfl rfl rfl kd_X9_isBidder ⟨Nat.le_of_ble_eq_true rfl, Nat.le_of_ble_eq_true rfl⟩) ⟨fun _ _ _ _ q => q, fun U hU hW => ⟨rfl, trivial⟩⟩ rfl rfl hl.1 rfl (lv_room (Nat.le_of_ble_eq_true rfl)) dX9_paper_2 ⟨Nat.le_of_ble_eq_true rfl, Nat.le_of_ble_eq_true rfl⟩) (fun r_1 hr_1 => ?_)
  subst hr_1
  refine b_if_eq (tgt := 17) hx hb dX9_paper_5 (by decide)  (fun c_2 => ?_) (fun c_2 => ?_)
  · refine lv_iconst (v := nI 1) hx hb dX9_paper_17 (by decide) ?_
    refine lv_goto (tgt := 37) hx hb dX9_paper_18 (by decide) ?_
    refine m_putT hx hb hts hin hown hK hP hD hS l_thrown dX9_paper_37 (fun H locs hP hS => ?_)
    refine lv_aload_n hx hb dX9_paper_40 rfl (lv_at hl 0 rfl) ?_
    refine m_get (v := .int (nI 1)) hx hb hts hin hown hK hP 0 (by decide) l_thrown rfl dX9_paper_41 ?_
    refine n_if_le (tgt := 49) hx hb dX9_paper_44 (by decide) (by decide) (fun c9 => absurd c9 (by decide)) (fun _ => ?_)
    refine lv_iconst (v := nI 0) hx hb dX9_paper_47 (by decide) ?_
    have eM_3 : g_paper M b k u = M := by simp [g_paper, k_paper, c_2]
    have eT_4 : k_paper b k u = 1 := by simp [k_paper, c_2]
    exact W.iret (v := nI 0) hx hb hr (fun U9 ht hW => ⟨⟨_, (), rfl, (show nI 0 = r_paper M b k u from by simp [r_paper, k_paper, c_2]), by show va_P D vwCl _ U9.heap; rw [ht, eM_3, eT_4]; exact hP⟩, hS.F ht⟩) hS.2.2 dX9_paper_48
  · obtain ⟨b1, hb1, rfl⟩ := isIx_of (by decide) c_2
    have kb19 : (nI b1).toNatClampNeg = b1 := nI_clamp (by omega)
    refine lv_iload_n hx hb dX9_paper_8 rfl (lv_at hl 2 rfl) ?_
    refine lv_iconst (v := nI 0) hx hb dX9_paper_9 (by decide) ?_
    refine lv_iconst (v := nI 5) hx hb dX9_paper_10 (by decide) ?_
    refine vp_callSi (W.runS (As := [.int k, .int (nI 0), .int (nI 5)]) (rest := [.ref (ad 0)]) ⟨hx, hb, hml, hown, hts⟩ (c9_in l  k (nI 0) (nI 5)) (va_cwS 3 hts gX9_paper_X9_in rfl rfl rfl kd_X9_in ⟨Nat.le_of_ble_eq_true rfl, Nat.le_of_ble_eq_true rfl⟩) ⟨fun _ _ _ _ q => q, fun U hU hW => ⟨rfl, trivial⟩⟩ rfl rfl hl.1 rfl (lv_room (Nat.le_of_ble_eq_true rfl)) dX9_paper_11 ⟨Nat.le_of_ble_eq_true rfl, Nat.le_of_ble_eq_true rfl⟩) (fun r_5 hr_5 => ?_)
    subst hr_5
    refine b_if_ne (tgt := 21) hx hb dX9_paper_14 (by decide)  (fun c_6 => ?_) (fun c_6 => ?_)
    · obtain ⟨k1, hk1, hk19, rfl⟩ := i_in_of (a := 0) (b := 5) (by omega) c_6
      have kk19 : (nI k1).toNatClampNeg = k1 := nI_clamp (by omega)
      refine lv_iload_n hx hb dX9_paper_21 rfl (lv_at hl 3 rfl) ?_
      refine lv_iconst (v := (-1)) hx hb dX9_paper_22 (by decide) ?_
      refine lv_sipush (v := nI 2000) hx hb dX9_paper_23 (by decide) ?_
      refine vp_callSi (W.runS (As := [.int u, .int (-1), .int (nI 2000)]) (rest := [.ref (ad 0)]) ⟨hx, hb, hml, hown, hts⟩ (c9_in l  u (-1) (nI 2000)) (va_cwS 3 hts gX9_paper_X9_in rfl rfl rfl kd_X9_in ⟨Nat.le_of_ble_eq_true rfl, Nat.le_of_ble_eq_true rfl⟩) ⟨fun _ _ _ _ q => q, fun U hU hW => ⟨rfl, trivial⟩⟩ rfl rfl hl.1 rfl (lv_room (Nat.le_of_ble_eq_true rfl)) dX9_paper_26 ⟨Nat.le_of_ble_eq_true rfl, Nat.le_of_ble_eq_true rfl⟩) (fun r_7 hr_7 => ?_)
      subst hr_7
      refine b_if_eq (tgt := 36) hx hb dX9_paper_29 (by decide)  (fun c_8 => ?_) (fun c_8 => ?_)
      · refine lv_iconst (v := nI 2) hx hb dX9_paper_36 (by decide) ?_
        refine m_putT hx hb hts hin hown hK hP hD hS l_thrown dX9_paper_37 (fun H locs hP hS => ?_)
        refine lv_aload_n hx hb dX9_paper_40 rfl (lv_at hl 0 rfl) ?_
        refine m_get (v := .int (nI 2)) hx hb hts hin hown hK hP 0 (by decide) l_thrown rfl dX9_paper_41 ?_
        refine n_if_le (tgt := 49) hx hb dX9_paper_44 (by decide) (by decide) (fun c9 => absurd c9 (by decide)) (fun _ => ?_)
        refine lv_iconst (v := nI 0) hx hb dX9_paper_47 (by decide) ?_
        have eM_9 : g_paper M (nI b1) (nI k1) u = M := by simp [g_paper, k_paper, c_2, kb19, c_6, kk19, c_8]
        have eT_10 : k_paper (nI b1) (nI k1) u = 2 := by simp [k_paper, c_2, kb19, c_6, kk19, c_8]
        exact W.iret (v := nI 0) hx hb hr (fun U9 ht hW => ⟨⟨_, (), rfl, (show nI 0 = r_paper M (nI b1) (nI k1) u from by simp [r_paper, k_paper, c_2, kb19, c_6, kk19, c_8]), by show va_P D vwCl _ U9.heap; rw [ht, eM_9, eT_10]; exact hP⟩, hS.F ht⟩) hS.2.2 dX9_paper_48
      · obtain ⟨u1, hu1, rfl⟩ := i_in_m1 (by decide) c_8
        have ku9 : (nI u1 - nI 1 + 1).toNatClampNeg = u1 := by rw [show (1 : Int32) = nI 1 from rfl, n_sub_add1]; exact nI_clamp (by omega)
        refine lv_iconst (v := nI 0) hx hb dX9_paper_32 (by decide) ?_
        refine lv_goto (tgt := 37) hx hb dX9_paper_33 (by decide) ?_
        refine m_putT hx hb hts hin hown hK hP hD hS l_thrown dX9_paper_37 (fun H locs hP hS => ?_)
        refine lv_aload_n hx hb dX9_paper_40 rfl (lv_at hl 0 rfl) ?_
        refine m_get (v := .int (nI 0)) hx hb hts hin hown hK hP 0 (by decide) l_thrown rfl dX9_paper_41 ?_
        refine n_if_le (tgt := 49) hx hb dX9_paper_44 (by decide) (by decide) (fun _ => ?_) (fun c9 => absurd c9 (by decide))
        refine lv_aload_n hx hb dX9_paper_49 rfl (lv_at hl 0 rfl) ?_
        refine m_get hx hb hts hin hown hK hP 2 (by decide) l_until rfl dX9_paper_50 ?_
        refine lv_bipush (v := nI 6) hx hb dX9_paper_53 (by decide) ?_
        refine lv_iload_n hx hb dX9_paper_55 rfl (lv_at hl 1 rfl) ?_
        refine n_imul hx hb dX9_paper_56 (z := 6 * b1) rfl ?_
        refine lv_iload_n hx hb dX9_paper_57 rfl (lv_at hl 2 rfl) ?_
        refine n_iadd hx hb dX9_paper_58 (z := (6 * b1) + k1) rfl ?_
        refine m_iald (f := 2) hx hb hK hP 1 rfl (by omega) (by decide) dX9_paper_59 ?_
        refine lv_iconst (v := nI 1) hx hb dX9_paper_60 (by decide) ?_
        refine lv_isub hx hb dX9_paper_61 ?_
        refine lv_istore (lv' := [(4, .int ((nI (M 2 ((6 * b1) + k1))) - (nI 1))), (0, .ref (ad 0)), (1, .int (nI b1)), (2, .int (nI k1)), (3, .int (nI u1 - nI 1))]) hx hb dX9_paper_62 hl (by decide) rfl (fun ls hl => ?_)
        refine lv_aload_n hx hb dX9_paper_64 rfl (lv_at hl 1 rfl) ?_
        refine m_get hx hb hts hin hown hK hP 2 (by decide) l_until rfl dX9_paper_65 ?_
        refine lv_bipush (v := nI 6) hx hb dX9_paper_68 (by decide) ?_
        refine lv_iload_n hx hb dX9_paper_70 rfl (lv_at hl 2 rfl) ?_
        refine n_imul hx hb dX9_paper_71 (z := 6 * b1) rfl ?_
        refine lv_iload_n hx hb dX9_paper_72 rfl (lv_at hl 3 rfl) ?_
        refine n_iadd hx hb dX9_paper_73 (z := (6 * b1) + k1) rfl ?_
        refine lv_iload_n hx hb dX9_paper_74 rfl (lv_at hl 4 rfl) ?_
        refine lv_iconst (v := nI 1) hx hb dX9_paper_75 (by decide) ?_
        refine lv_iadd hx hb dX9_paper_76 ?_
        rw [n_sub_add1]
        refine m_iast (f := 2) (v := u1) hx hb hK hP hD hS 1 rfl (by omega) (by decide) (mset_2 _ _ _ _ _ _ _ _) dX9_paper_77 (fun H locs hP hS => ?_)
        refine lv_iload hx hb dX9_paper_78 (lv_at hl 0 rfl) ?_
        have eM_11 : g_paper M (nI b1) (nI k1) ((nI u1 - nI 1)) = mu M 2 ((6 * b1) + k1) u1 := by simp [g_paper, k_paper, c_2, kb19, c_6, kk19, c_8, ku9]
        have eT_12 : k_paper (nI b1) (nI k1) ((nI u1 - nI 1)) = 0 := by simp [k_paper, c_2, kb19, c_6, kk19, c_8, ku9]
        exact W.iret (v := (nI (M 2 ((6 * b1) + k1))) - (nI 1)) hx hb hr (fun U9 ht hW => ⟨⟨_, (), rfl, (show (nI (M 2 ((6 * b1) + k1))) - (nI 1) = r_paper M (nI b1) (nI k1) ((nI u1 - nI 1)) from by simp [r_paper, k_paper, c_2, kb19, c_6, kk19, c_8, ku9]), by show va_P D vwCl _ U9.heap; rw [ht, eM_11, eT_12]; exact hP⟩, hS.F ht⟩) hS.2.2 dX9_paper_80
    · refine lv_iconst (v := nI 1) hx hb dX9_paper_17 (by decide) ?_
      refine lv_goto (tgt := 37) hx hb dX9_paper_18 (by decide) ?_
      refine m_putT hx hb hts hin hown hK hP hD hS l_thrown dX9_paper_37 (fun H locs hP hS => ?_)
      refine lv_aload_n hx hb dX9_paper_40 rfl (lv_at hl 0 rfl) ?_
      refine m_get (v := .int (nI 1)) hx hb hts hin hown hK hP 0 (by decide) l_thrown rfl dX9_paper_41 ?_
      refine n_if_le (tgt := 49) hx hb dX9_paper_44 (by decide) (by decide) (fun c9 => absurd c9 (by decide)) (fun _ => ?_)
      refine lv_iconst (v := nI 0) hx hb dX9_paper_47 (by decide) ?_
      have eM_13 : g_paper M (nI b1) k u = M := by simp [g_paper, k_paper, c_2, kb19, c_6]
      have eT_14 : k_paper (nI b1) k u = 1 := by simp [k_paper, c_2, kb19, c_6]
      exact W.iret (v := nI 0) hx hb hr (fun U9 ht hW => ⟨⟨_, (), rfl, (show nI 0 = r_paper M (nI b1) k u from by simp [r_paper, k_paper, c_2, kb19, c_6]), by show va_P D vwCl _ U9.heap; rw [ht, eM_13, eT_14]; exact hP⟩, hS.F ht⟩) hS.2.2 dX9_paper_48
set_option maxHeartbeats 4000000 in
set_option maxRecDepth 100000 in
theorem c9_bid (l : Launch) (D : va_G) (ad : Nat → Nat) (cI cZ cC : ClassId) (th : Nat) (M : MS) (hM : MI M) {A : Nat → Prop} (hD : mDis A ad) (b : Int32) (t : Int32) (k : Int32) (q : Int32) (z : Int32) (hmo : M 15 0 < 1000) : Met l yX9_bid wsX9_bid ({ frames := 3, cells := 0, slots := 0, locals := 65 }) (va_Pc [.ref (ad 0), .int b, .int t, .int k, .int q, .int z] (mB D ad cI cZ cC th M)) (va_Qi (fun (r : Int32) (_ : Unit) => r = r_bid M b t k q z) (fun _ U9 => va_P D vwCl (mws ad cI cZ cC (k_bid M b t k q z) (g_bid M b t k q z)) U9.heap) A) 0 0 A := by
  refine Met.ofW (cc := cX9_bid) (maxL := 8) (ret := (some .int)) (by decide) rfl ?_
  intro p e s m args below meth c s₁ B hml hv
  obtain ⟨rfl, hP, hK⟩ := hv
  have hx := B.exec
  have hb := B.bytes
  have hr := B.returns
  have hts := atoms_spec (ws := wsX9_bid) B.pre
  have hown : s.vm.findClass RX9 = some m.cls := findClass_of_methodNamed B.named
  have hlocks := B.notSynchronized
  have hin : ∀ w ∈ wsX90, w ∈ wsX9_bid := fun w h => List.mem_cons_of_mem _ (List.mem_append_right _ h)
  have l_thrown := (hts (.fieldLink RX9 93 "TenderHallModel" "thrown" "I") (List.mem_of_getElem? (i := 2) rfl))
  have l_price := (hts (.fieldLink RX9 31 "TenderHallModel" "price" "[I") (List.mem_of_getElem? (i := 3) rfl))
  have l_quality := (hts (.fieldLink RX9 34 "TenderHallModel" "quality" "[I") (List.mem_of_getElem? (i := 4) rfl))
  have l_made := (hts (.fieldLink RX9 37 "TenderHallModel" "made" "[I") (List.mem_of_getElem? (i := 5) rfl))
  have l_moment := (hts (.fieldLink RX9 122 "TenderHallModel" "moment" "I") (List.mem_of_getElem? (i := 6) rfl))
  have hS : va_S A s.heap s.heap [] := va_S.rf
  have hl := lv_entry ([.ref (ad 0), .int b, .int t, .int k, .int q, .int z]) (n := 8) (Nat.le_of_ble_eq_true rfl)
  rw [lg_entry_eq]
  generalize (lg_sl ([.ref (ad 0), .int b, .int t, .int k, .int q, .int z]) ++ List.replicate (8 - (lg_sl ([.ref (ad 0), .int b, .int t, .int k, .int q, .int z])).length) Slot.unset).toArray = ls at hl ⊢
  have hl : lv_has ls 8 [(0, .ref (ad 0)), (1, .int b), (2, .int t), (3, .int k), (4, .int q), (5, .int z)] := hl
  have h36 : M 3 0 ≤ 6 := hM 3 0
  have h160 : M 16 0 ≤ 60 := hM 16 0
  have h220 : M 22 0 ≤ 60 := hM 22 0
  have h290 : M 29 0 ≤ 60 := hM 29 0
  have h120 : M 1 0 ≤ 2000 := hM 1 0
  refine lv_iload hx hb dX9_bid_0 (lv_at hl 4 rfl) ?_
  refine lv_iconst (v := nI 1) hx hb dX9_bid_2 (by decide) ?_
  refine lv_ldc (v := nI 100000) hx hb hown (hts (.constant RX9 117 (100000)) (List.mem_of_getElem? (i := 1) rfl)) dX9_bid_3 ?_
  refine vp_callSi (W.runS (As := [.int q, .int (nI 1), .int (nI 100000)]) (rest := []) ⟨hx, hb, hml, hown, hts⟩ (c9_in l  q (nI 1) (nI 100000)) (va_cwS 3 hts gX9_bid_X9_in rfl rfl rfl kd_X9_in ⟨Nat.le_of_ble_eq_true rfl, Nat.le_of_ble_eq_true rfl⟩) ⟨fun _ _ _ _ q => q, fun U hU hW => ⟨rfl, trivial⟩⟩ rfl rfl hl.1 rfl (lv_room (Nat.le_of_ble_eq_true rfl)) dX9_bid_5 ⟨Nat.le_of_ble_eq_true rfl, Nat.le_of_ble_eq_true rfl⟩) (fun r_1 hr_1 => ?_)
  subst hr_1
  refine b_if_eq (tgt := 26) hx hb dX9_bid_8 (by decide)  (fun c_2 => ?_) (fun c_2 => ?_)
  · refine lv_iconst (v := nI 0) hx hb dX9_bid_26 (by decide) ?_
    refine lv_istore (lv' := [(6, .int (nI 0)), (0, .ref (ad 0)), (1, .int b), (2, .int t), (3, .int k), (4, .int q), (5, .int z)]) hx hb dX9_bid_27 hl (by decide) rfl (fun ls hl => ?_)
    refine lv_aload_n hx hb dX9_bid_29 rfl (lv_at hl 1 rfl) ?_
    refine lv_iload_n hx hb dX9_bid_30 rfl (lv_at hl 2 rfl) ?_
    refine vp_callSi (W.runS (As := [.int b]) (rest := [.ref (ad 0)]) ⟨hx, hb, hml, hown, hts⟩ (c9_isBidder l  b) (va_cwS 1 hts gX9_bid_X9_isBidder rfl rfl rfl kd_X9_isBidder ⟨Nat.le_of_ble_eq_true rfl, Nat.le_of_ble_eq_true rfl⟩) ⟨fun _ _ _ _ q => q, fun U hU hW => ⟨rfl, trivial⟩⟩ rfl rfl hl.1 rfl (lv_room (Nat.le_of_ble_eq_true rfl)) dX9_bid_31 ⟨Nat.le_of_ble_eq_true rfl, Nat.le_of_ble_eq_true rfl⟩) (fun r_3 hr_3 => ?_)
    subst hr_3
    refine b_if_eq (tgt := 46) hx hb dX9_bid_34 (by decide)  (fun c_4 => ?_) (fun c_4 => ?_)
    · refine lv_iconst (v := nI 1) hx hb dX9_bid_46 (by decide) ?_
      refine lv_goto (tgt := 72) hx hb dX9_bid_47 (by decide) ?_
      refine m_putT hx hb hts hin hown hK hP hD hS l_thrown dX9_bid_72 (fun H locs hP hS => ?_)
      refine lv_aload_n hx hb dX9_bid_75 rfl (lv_at hl 1 rfl) ?_
      refine m_get (v := .int (nI 1)) hx hb hts hin hown hK hP 0 (by decide) l_thrown rfl dX9_bid_76 ?_
      refine n_if_le (tgt := 84) hx hb dX9_bid_79 (by decide) (by decide) (fun c9 => absurd c9 (by decide)) (fun _ => ?_)
      refine lv_iconst (v := nI 0) hx hb dX9_bid_82 (by decide) ?_
      have eM_5 : g_bid M b t k q z = M := by simp [g_bid, m_at, k_bid, c_2, c_4]
      have eT_6 : k_bid M b t k q z = 1 := by simp [k_bid, c_2, c_4]
      exact W.iret (v := nI 0) hx hb hr (fun U9 ht hW => ⟨⟨_, (), rfl, (show nI 0 = r_bid M b t k q z from by simp [r_bid, g_bid, m_at, k_bid, c_2, c_4]), by show va_P D vwCl _ U9.heap; rw [ht, eM_5, eT_6]; exact hP⟩, hS.F ht⟩) hS.2.2 dX9_bid_83
    · obtain ⟨b1, hb1, rfl⟩ := isIx_of (by decide) c_4
      have kb19 : (nI b1).toNatClampNeg = b1 := nI_clamp (by omega)
      refine lv_aload_n hx hb dX9_bid_37 rfl (lv_at hl 1 rfl) ?_
      refine lv_iload_n hx hb dX9_bid_38 rfl (lv_at hl 3 rfl) ?_
      refine lv_iload_n hx hb dX9_bid_39 rfl (lv_at hl 4 rfl) ?_
      refine vp_callSi (W.runV (As := [.int t, .int k]) (rest := [.ref (ad 0)]) ⟨hx, hb, hml, hown, hts⟩ (c9_isLot l D ad cI cZ cC th M hM  t k) (cwV 2 hts gX9_bid_X9_isLot rfl rfl rfl kd_X9_isLot ⟨Nat.le_of_ble_eq_true rfl, Nat.le_of_ble_eq_true rfl⟩) ⟨mB_blind, m_recv hK hP, m_pre hK hP _⟩ rfl rfl hl.1 rfl (lv_room (Nat.le_of_ble_eq_true rfl)) dX9_bid_40 ⟨Nat.le_of_ble_eq_true rfl, Nat.le_of_ble_eq_true rfl⟩) (fun r_7 hr_7 => ?_)
      subst hr_7
      refine b_if_ne (tgt := 50) hx hb dX9_bid_43 (by decide)  (fun c_8 => ?_) (fun c_8 => ?_)
      · obtain ⟨t1, k1, ht1, hk1, rfl, rfl⟩ := m_isLot_of hM c_8
        have ht16 : t1 < 6 := by have f1 : M 3 0 ≤ 6 := hM 3 0; omega
        have hk13 : k1 < 3 := by have f1 : M 8 t1 ≤ 3 := hM 8 t1; omega
        have kt19 : (nI t1).toNatClampNeg = t1 := nI_clamp (by omega)
        have kk19 : (nI k1).toNatClampNeg = k1 := nI_clamp (by omega)
        refine lv_iload hx hb dX9_bid_50 (lv_at hl 0 rfl) ?_
        refine n_if_ne (tgt := 59) hx hb dX9_bid_52 (by decide) (by decide) (fun c9 => absurd c9 (by decide)) (fun _ => ?_)
        refine lv_iconst (v := nI 2) hx hb dX9_bid_55 (by decide) ?_
        refine lv_goto (tgt := 72) hx hb dX9_bid_56 (by decide) ?_
        refine m_putT hx hb hts hin hown hK hP hD hS l_thrown dX9_bid_72 (fun H locs hP hS => ?_)
        refine lv_aload_n hx hb dX9_bid_75 rfl (lv_at hl 1 rfl) ?_
        refine m_get (v := .int (nI 2)) hx hb hts hin hown hK hP 0 (by decide) l_thrown rfl dX9_bid_76 ?_
        refine n_if_le (tgt := 84) hx hb dX9_bid_79 (by decide) (by decide) (fun c9 => absurd c9 (by decide)) (fun _ => ?_)
        refine lv_iconst (v := nI 0) hx hb dX9_bid_82 (by decide) ?_
        have eM_9 : g_bid M (nI b1) (nI t1) (nI k1) q z = M := by simp [g_bid, m_at, k_bid, c_2, c_4, kb19, c_8, kt19, kk19]
        have eT_10 : k_bid M (nI b1) (nI t1) (nI k1) q z = 2 := by simp [k_bid, c_2, c_4, kb19, c_8, kt19, kk19]
        exact W.iret (v := nI 0) hx hb hr (fun U9 ht hW => ⟨⟨_, (), rfl, (show nI 0 = r_bid M (nI b1) (nI t1) (nI k1) q z from by simp [r_bid, g_bid, m_at, k_bid, c_2, c_4, kb19, c_8, kt19, kk19]), by show va_P D vwCl _ U9.heap; rw [ht, eM_9, eT_10]; exact hP⟩, hS.F ht⟩) hS.2.2 dX9_bid_83
      · refine lv_iconst (v := nI 1) hx hb dX9_bid_46 (by decide) ?_
        refine lv_goto (tgt := 72) hx hb dX9_bid_47 (by decide) ?_
        refine m_putT hx hb hts hin hown hK hP hD hS l_thrown dX9_bid_72 (fun H locs hP hS => ?_)
        refine lv_aload_n hx hb dX9_bid_75 rfl (lv_at hl 1 rfl) ?_
        refine m_get (v := .int (nI 1)) hx hb hts hin hown hK hP 0 (by decide) l_thrown rfl dX9_bid_76 ?_
        refine n_if_le (tgt := 84) hx hb dX9_bid_79 (by decide) (by decide) (fun c9 => absurd c9 (by decide)) (fun _ => ?_)
        refine lv_iconst (v := nI 0) hx hb dX9_bid_82 (by decide) ?_
        have eM_11 : g_bid M (nI b1) t k q z = M := by simp [g_bid, m_at, k_bid, c_2, c_4, kb19, c_8]
        have eT_12 : k_bid M (nI b1) t k q z = 1 := by simp [k_bid, c_2, c_4, kb19, c_8]
        exact W.iret (v := nI 0) hx hb hr (fun U9 ht hW => ⟨⟨_, (), rfl, (show nI 0 = r_bid M (nI b1) t k q z from by simp [r_bid, g_bid, m_at, k_bid, c_2, c_4, kb19, c_8]), by show va_P D vwCl _ U9.heap; rw [ht, eM_11, eT_12]; exact hP⟩, hS.F ht⟩) hS.2.2 dX9_bid_83
  · obtain ⟨q1, hq1, hq19, rfl⟩ := i_in_of (a := 1) (b := 100000) (by omega) c_2
    have kq19 : (nI q1).toNatClampNeg = q1 := nI_clamp (by omega)
    refine lv_iload hx hb dX9_bid_11 (lv_at hl 5 rfl) ?_
    refine lv_iconst (v := nI 0) hx hb dX9_bid_13 (by decide) ?_
    refine lv_bipush (v := nI 100) hx hb dX9_bid_14 (by decide) ?_
    refine vp_callSi (W.runS (As := [.int z, .int (nI 0), .int (nI 100)]) (rest := []) ⟨hx, hb, hml, hown, hts⟩ (c9_in l  z (nI 0) (nI 100)) (va_cwS 3 hts gX9_bid_X9_in rfl rfl rfl kd_X9_in ⟨Nat.le_of_ble_eq_true rfl, Nat.le_of_ble_eq_true rfl⟩) ⟨fun _ _ _ _ q => q, fun U hU hW => ⟨rfl, trivial⟩⟩ rfl rfl hl.1 rfl (lv_room (Nat.le_of_ble_eq_true rfl)) dX9_bid_16 ⟨Nat.le_of_ble_eq_true rfl, Nat.le_of_ble_eq_true rfl⟩) (fun r_13 hr_13 => ?_)
    subst hr_13
    refine b_if_eq (tgt := 26) hx hb dX9_bid_19 (by decide)  (fun c_14 => ?_) (fun c_14 => ?_)
    · refine lv_iconst (v := nI 0) hx hb dX9_bid_26 (by decide) ?_
      refine lv_istore (lv' := [(6, .int (nI 0)), (0, .ref (ad 0)), (1, .int b), (2, .int t), (3, .int k), (4, .int (nI q1)), (5, .int z)]) hx hb dX9_bid_27 hl (by decide) rfl (fun ls hl => ?_)
      refine lv_aload_n hx hb dX9_bid_29 rfl (lv_at hl 1 rfl) ?_
      refine lv_iload_n hx hb dX9_bid_30 rfl (lv_at hl 2 rfl) ?_
      refine vp_callSi (W.runS (As := [.int b]) (rest := [.ref (ad 0)]) ⟨hx, hb, hml, hown, hts⟩ (c9_isBidder l  b) (va_cwS 1 hts gX9_bid_X9_isBidder rfl rfl rfl kd_X9_isBidder ⟨Nat.le_of_ble_eq_true rfl, Nat.le_of_ble_eq_true rfl⟩) ⟨fun _ _ _ _ q => q, fun U hU hW => ⟨rfl, trivial⟩⟩ rfl rfl hl.1 rfl (lv_room (Nat.le_of_ble_eq_true rfl)) dX9_bid_31 ⟨Nat.le_of_ble_eq_true rfl, Nat.le_of_ble_eq_true rfl⟩) (fun r_15 hr_15 => ?_)
      subst hr_15
      refine b_if_eq (tgt := 46) hx hb dX9_bid_34 (by decide)  (fun c_16 => ?_) (fun c_16 => ?_)
      · refine lv_iconst (v := nI 1) hx hb dX9_bid_46 (by decide) ?_
        refine lv_goto (tgt := 72) hx hb dX9_bid_47 (by decide) ?_
        refine m_putT hx hb hts hin hown hK hP hD hS l_thrown dX9_bid_72 (fun H locs hP hS => ?_)
        refine lv_aload_n hx hb dX9_bid_75 rfl (lv_at hl 1 rfl) ?_
        refine m_get (v := .int (nI 1)) hx hb hts hin hown hK hP 0 (by decide) l_thrown rfl dX9_bid_76 ?_
        refine n_if_le (tgt := 84) hx hb dX9_bid_79 (by decide) (by decide) (fun c9 => absurd c9 (by decide)) (fun _ => ?_)
        refine lv_iconst (v := nI 0) hx hb dX9_bid_82 (by decide) ?_
        have eM_17 : g_bid M b t k (nI q1) z = M := by simp [g_bid, m_at, k_bid, c_2, kq19, c_14, c_16]
        have eT_18 : k_bid M b t k (nI q1) z = 1 := by simp [k_bid, c_2, kq19, c_14, c_16]
        exact W.iret (v := nI 0) hx hb hr (fun U9 ht hW => ⟨⟨_, (), rfl, (show nI 0 = r_bid M b t k (nI q1) z from by simp [r_bid, g_bid, m_at, k_bid, c_2, kq19, c_14, c_16]), by show va_P D vwCl _ U9.heap; rw [ht, eM_17, eT_18]; exact hP⟩, hS.F ht⟩) hS.2.2 dX9_bid_83
      · obtain ⟨b1, hb1, rfl⟩ := isIx_of (by decide) c_16
        have kb19 : (nI b1).toNatClampNeg = b1 := nI_clamp (by omega)
        refine lv_aload_n hx hb dX9_bid_37 rfl (lv_at hl 1 rfl) ?_
        refine lv_iload_n hx hb dX9_bid_38 rfl (lv_at hl 3 rfl) ?_
        refine lv_iload_n hx hb dX9_bid_39 rfl (lv_at hl 4 rfl) ?_
        refine vp_callSi (W.runV (As := [.int t, .int k]) (rest := [.ref (ad 0)]) ⟨hx, hb, hml, hown, hts⟩ (c9_isLot l D ad cI cZ cC th M hM  t k) (cwV 2 hts gX9_bid_X9_isLot rfl rfl rfl kd_X9_isLot ⟨Nat.le_of_ble_eq_true rfl, Nat.le_of_ble_eq_true rfl⟩) ⟨mB_blind, m_recv hK hP, m_pre hK hP _⟩ rfl rfl hl.1 rfl (lv_room (Nat.le_of_ble_eq_true rfl)) dX9_bid_40 ⟨Nat.le_of_ble_eq_true rfl, Nat.le_of_ble_eq_true rfl⟩) (fun r_19 hr_19 => ?_)
        subst hr_19
        refine b_if_ne (tgt := 50) hx hb dX9_bid_43 (by decide)  (fun c_20 => ?_) (fun c_20 => ?_)
        · obtain ⟨t1, k1, ht1, hk1, rfl, rfl⟩ := m_isLot_of hM c_20
          have ht16 : t1 < 6 := by have f1 : M 3 0 ≤ 6 := hM 3 0; omega
          have hk13 : k1 < 3 := by have f1 : M 8 t1 ≤ 3 := hM 8 t1; omega
          have kt19 : (nI t1).toNatClampNeg = t1 := nI_clamp (by omega)
          have kk19 : (nI k1).toNatClampNeg = k1 := nI_clamp (by omega)
          refine lv_iload hx hb dX9_bid_50 (lv_at hl 0 rfl) ?_
          refine n_if_ne (tgt := 59) hx hb dX9_bid_52 (by decide) (by decide) (fun c9 => absurd c9 (by decide)) (fun _ => ?_)
          refine lv_iconst (v := nI 2) hx hb dX9_bid_55 (by decide) ?_
          refine lv_goto (tgt := 72) hx hb dX9_bid_56 (by decide) ?_
          refine m_putT hx hb hts hin hown hK hP hD hS l_thrown dX9_bid_72 (fun H locs hP hS => ?_)
          refine lv_aload_n hx hb dX9_bid_75 rfl (lv_at hl 1 rfl) ?_
          refine m_get (v := .int (nI 2)) hx hb hts hin hown hK hP 0 (by decide) l_thrown rfl dX9_bid_76 ?_
          refine n_if_le (tgt := 84) hx hb dX9_bid_79 (by decide) (by decide) (fun c9 => absurd c9 (by decide)) (fun _ => ?_)
          refine lv_iconst (v := nI 0) hx hb dX9_bid_82 (by decide) ?_
          have eM_21 : g_bid M (nI b1) (nI t1) (nI k1) (nI q1) z = M := by simp [g_bid, m_at, k_bid, c_2, kq19, c_14, c_16, kb19, c_20, kt19, kk19]
          have eT_22 : k_bid M (nI b1) (nI t1) (nI k1) (nI q1) z = 2 := by simp [k_bid, c_2, kq19, c_14, c_16, kb19, c_20, kt19, kk19]
          exact W.iret (v := nI 0) hx hb hr (fun U9 ht hW => ⟨⟨_, (), rfl, (show nI 0 = r_bid M (nI b1) (nI t1) (nI k1) (nI q1) z from by simp [r_bid, g_bid, m_at, k_bid, c_2, kq19, c_14, c_16, kb19, c_20, kt19, kk19]), by show va_P D vwCl _ U9.heap; rw [ht, eM_21, eT_22]; exact hP⟩, hS.F ht⟩) hS.2.2 dX9_bid_83
        · refine lv_iconst (v := nI 1) hx hb dX9_bid_46 (by decide) ?_
          refine lv_goto (tgt := 72) hx hb dX9_bid_47 (by decide) ?_
          refine m_putT hx hb hts hin hown hK hP hD hS l_thrown dX9_bid_72 (fun H locs hP hS => ?_)
          refine lv_aload_n hx hb dX9_bid_75 rfl (lv_at hl 1 rfl) ?_
          refine m_get (v := .int (nI 1)) hx hb hts hin hown hK hP 0 (by decide) l_thrown rfl dX9_bid_76 ?_
          refine n_if_le (tgt := 84) hx hb dX9_bid_79 (by decide) (by decide) (fun c9 => absurd c9 (by decide)) (fun _ => ?_)
          refine lv_iconst (v := nI 0) hx hb dX9_bid_82 (by decide) ?_
          have eM_23 : g_bid M (nI b1) t k (nI q1) z = M := by simp [g_bid, m_at, k_bid, c_2, kq19, c_14, c_16, kb19, c_20]
          have eT_24 : k_bid M (nI b1) t k (nI q1) z = 1 := by simp [k_bid, c_2, kq19, c_14, c_16, kb19, c_20]
          exact W.iret (v := nI 0) hx hb hr (fun U9 ht hW => ⟨⟨_, (), rfl, (show nI 0 = r_bid M (nI b1) t k (nI q1) z from by simp [r_bid, g_bid, m_at, k_bid, c_2, kq19, c_14, c_16, kb19, c_20]), by show va_P D vwCl _ U9.heap; rw [ht, eM_23, eT_24]; exact hP⟩, hS.F ht⟩) hS.2.2 dX9_bid_83
    · obtain ⟨z1, hz1, hz19, rfl⟩ := i_in_of (a := 0) (b := 100) (by omega) c_14
      have kz19 : (nI z1).toNatClampNeg = z1 := nI_clamp (by omega)
      refine lv_iconst (v := nI 1) hx hb dX9_bid_22 (by decide) ?_
      refine lv_goto (tgt := 27) hx hb dX9_bid_23 (by decide) ?_
      refine lv_istore (lv' := [(6, .int (nI 1)), (0, .ref (ad 0)), (1, .int b), (2, .int t), (3, .int k), (4, .int (nI q1)), (5, .int (nI z1))]) hx hb dX9_bid_27 hl (by decide) rfl (fun ls hl => ?_)
      refine lv_aload_n hx hb dX9_bid_29 rfl (lv_at hl 1 rfl) ?_
      refine lv_iload_n hx hb dX9_bid_30 rfl (lv_at hl 2 rfl) ?_
      refine vp_callSi (W.runS (As := [.int b]) (rest := [.ref (ad 0)]) ⟨hx, hb, hml, hown, hts⟩ (c9_isBidder l  b) (va_cwS 1 hts gX9_bid_X9_isBidder rfl rfl rfl kd_X9_isBidder ⟨Nat.le_of_ble_eq_true rfl, Nat.le_of_ble_eq_true rfl⟩) ⟨fun _ _ _ _ q => q, fun U hU hW => ⟨rfl, trivial⟩⟩ rfl rfl hl.1 rfl (lv_room (Nat.le_of_ble_eq_true rfl)) dX9_bid_31 ⟨Nat.le_of_ble_eq_true rfl, Nat.le_of_ble_eq_true rfl⟩) (fun r_25 hr_25 => ?_)
      subst hr_25
      refine b_if_eq (tgt := 46) hx hb dX9_bid_34 (by decide)  (fun c_26 => ?_) (fun c_26 => ?_)
      · refine lv_iconst (v := nI 1) hx hb dX9_bid_46 (by decide) ?_
        refine lv_goto (tgt := 72) hx hb dX9_bid_47 (by decide) ?_
        refine m_putT hx hb hts hin hown hK hP hD hS l_thrown dX9_bid_72 (fun H locs hP hS => ?_)
        refine lv_aload_n hx hb dX9_bid_75 rfl (lv_at hl 1 rfl) ?_
        refine m_get (v := .int (nI 1)) hx hb hts hin hown hK hP 0 (by decide) l_thrown rfl dX9_bid_76 ?_
        refine n_if_le (tgt := 84) hx hb dX9_bid_79 (by decide) (by decide) (fun c9 => absurd c9 (by decide)) (fun _ => ?_)
        refine lv_iconst (v := nI 0) hx hb dX9_bid_82 (by decide) ?_
        have eM_27 : g_bid M b t k (nI q1) (nI z1) = M := by simp [g_bid, m_at, k_bid, c_2, kq19, c_14, kz19, c_26]
        have eT_28 : k_bid M b t k (nI q1) (nI z1) = 1 := by simp [k_bid, c_2, kq19, c_14, kz19, c_26]
        exact W.iret (v := nI 0) hx hb hr (fun U9 ht hW => ⟨⟨_, (), rfl, (show nI 0 = r_bid M b t k (nI q1) (nI z1) from by simp [r_bid, g_bid, m_at, k_bid, c_2, kq19, c_14, kz19, c_26]), by show va_P D vwCl _ U9.heap; rw [ht, eM_27, eT_28]; exact hP⟩, hS.F ht⟩) hS.2.2 dX9_bid_83
      · obtain ⟨b1, hb1, rfl⟩ := isIx_of (by decide) c_26
        have kb19 : (nI b1).toNatClampNeg = b1 := nI_clamp (by omega)
        refine lv_aload_n hx hb dX9_bid_37 rfl (lv_at hl 1 rfl) ?_
        refine lv_iload_n hx hb dX9_bid_38 rfl (lv_at hl 3 rfl) ?_
        refine lv_iload_n hx hb dX9_bid_39 rfl (lv_at hl 4 rfl) ?_
        refine vp_callSi (W.runV (As := [.int t, .int k]) (rest := [.ref (ad 0)]) ⟨hx, hb, hml, hown, hts⟩ (c9_isLot l D ad cI cZ cC th M hM  t k) (cwV 2 hts gX9_bid_X9_isLot rfl rfl rfl kd_X9_isLot ⟨Nat.le_of_ble_eq_true rfl, Nat.le_of_ble_eq_true rfl⟩) ⟨mB_blind, m_recv hK hP, m_pre hK hP _⟩ rfl rfl hl.1 rfl (lv_room (Nat.le_of_ble_eq_true rfl)) dX9_bid_40 ⟨Nat.le_of_ble_eq_true rfl, Nat.le_of_ble_eq_true rfl⟩) (fun r_29 hr_29 => ?_)
        subst hr_29
        refine b_if_ne (tgt := 50) hx hb dX9_bid_43 (by decide)  (fun c_30 => ?_) (fun c_30 => ?_)
        · obtain ⟨t1, k1, ht1, hk1, rfl, rfl⟩ := m_isLot_of hM c_30
          have ht16 : t1 < 6 := by have f1 : M 3 0 ≤ 6 := hM 3 0; omega
          have hk13 : k1 < 3 := by have f1 : M 8 t1 ≤ 3 := hM 8 t1; omega
          have kt19 : (nI t1).toNatClampNeg = t1 := nI_clamp (by omega)
          have kk19 : (nI k1).toNatClampNeg = k1 := nI_clamp (by omega)
          refine lv_iload hx hb dX9_bid_50 (lv_at hl 0 rfl) ?_
          refine n_if_ne (tgt := 59) hx hb dX9_bid_52 (by decide) (by decide) (fun _ => ?_) (fun c9 => absurd c9 (by decide))
          refine lv_aload_n hx hb dX9_bid_59 rfl (lv_at hl 1 rfl) ?_
          refine lv_iload_n hx hb dX9_bid_60 rfl (lv_at hl 3 rfl) ?_
          refine vp_callSi (W.runV (As := [.int (nI t1)]) (rest := [.ref (ad 0)]) ⟨hx, hb, hml, hown, hts⟩ (c9_isOpened l D ad cI cZ cC th M hM  t1 (by omega)) (cwV 1 hts gX9_bid_X9_isOpened rfl rfl rfl kd_X9_isOpened ⟨Nat.le_of_ble_eq_true rfl, Nat.le_of_ble_eq_true rfl⟩) ⟨mB_blind, m_recv hK hP, m_pre hK hP _⟩ rfl rfl hl.1 rfl (lv_room (Nat.le_of_ble_eq_true rfl)) dX9_bid_61 ⟨Nat.le_of_ble_eq_true rfl, Nat.le_of_ble_eq_true rfl⟩) (fun r_31 hr_31 => ?_)
          subst hr_31
          refine b_if_eq (tgt := 71) hx hb dX9_bid_64 (by decide)  (fun c_32 => ?_) (fun c_32 => ?_)
          · refine lv_iconst (v := nI 0) hx hb dX9_bid_71 (by decide) ?_
            refine m_putT hx hb hts hin hown hK hP hD hS l_thrown dX9_bid_72 (fun H locs hP hS => ?_)
            refine lv_aload_n hx hb dX9_bid_75 rfl (lv_at hl 1 rfl) ?_
            refine m_get (v := .int (nI 0)) hx hb hts hin hown hK hP 0 (by decide) l_thrown rfl dX9_bid_76 ?_
            refine n_if_le (tgt := 84) hx hb dX9_bid_79 (by decide) (by decide) (fun _ => ?_) (fun c9 => absurd c9 (by decide))
            refine lv_bipush (v := nI 8) hx hb dX9_bid_84 (by decide) ?_
            refine lv_iconst (v := nI 3) hx hb dX9_bid_86 (by decide) ?_
            refine lv_iload_n hx hb dX9_bid_87 rfl (lv_at hl 3 rfl) ?_
            refine n_imul hx hb dX9_bid_88 (z := 3 * t1) rfl ?_
            refine lv_iload_n hx hb dX9_bid_89 rfl (lv_at hl 4 rfl) ?_
            refine n_iadd hx hb dX9_bid_90 (z := (3 * t1) + k1) rfl ?_
            refine n_imul hx hb dX9_bid_91 (z := 8 * ((3 * t1) + k1)) rfl ?_
            refine lv_iload_n hx hb dX9_bid_92 rfl (lv_at hl 2 rfl) ?_
            refine n_iadd hx hb dX9_bid_93 (z := (8 * ((3 * t1) + k1)) + b1) rfl ?_
            refine lv_istore (lv' := [(7, .int (nI ((8 * ((3 * t1) + k1)) + b1))), (6, .int (nI 1)), (0, .ref (ad 0)), (1, .int (nI b1)), (2, .int (nI t1)), (3, .int (nI k1)), (4, .int (nI q1)), (5, .int (nI z1))]) hx hb dX9_bid_94 hl (by decide) rfl (fun ls hl => ?_)
            refine lv_aload_n hx hb dX9_bid_96 rfl (lv_at hl 2 rfl) ?_
            refine m_get hx hb hts hin hown hK hP 10 (by decide) l_price rfl dX9_bid_97 ?_
            refine lv_iload hx hb dX9_bid_100 (lv_at hl 0 rfl) ?_
            refine lv_iload hx hb dX9_bid_102 (lv_at hl 6 rfl) ?_
            refine m_iast (f := 10) (v := q1) hx hb hK hP hD hS 8 rfl (by omega) (by decide) (mset_10 _ _ _ _ _ _ _ _) dX9_bid_104 (fun H locs hP hS => ?_)
            refine lv_aload_n hx hb dX9_bid_105 rfl (lv_at hl 2 rfl) ?_
            refine m_get hx hb hts hin hown hK hP 11 (by decide) l_quality rfl dX9_bid_106 ?_
            refine lv_iload hx hb dX9_bid_109 (lv_at hl 0 rfl) ?_
            refine lv_iload hx hb dX9_bid_111 (lv_at hl 7 rfl) ?_
            refine m_iast (f := 11) (v := z1) hx hb hK hP hD hS 9 rfl (by omega) (by decide) (mset_11 _ _ _ _ _ _ _ _) dX9_bid_113 (fun H locs hP hS => ?_)
            refine lv_aload_n hx hb dX9_bid_114 rfl (lv_at hl 2 rfl) ?_
            refine m_get hx hb hts hin hown hK hP 12 (by decide) l_made rfl dX9_bid_115 ?_
            refine lv_iload hx hb dX9_bid_118 (lv_at hl 0 rfl) ?_
            refine lv_aload_n hx hb dX9_bid_120 rfl (lv_at hl 2 rfl) ?_
            refine m_get (v := .int (nI (M 15 0))) hx hb hts hin hown hK hP 15 (by decide) l_moment rfl dX9_bid_121 ?_
            refine m_iast (f := 12) (v := M 15 0) hx hb hK hP hD hS 10 rfl (by omega) (by decide) (mset_12 _ _ _ _ _ _ _ _) dX9_bid_124 (fun H locs hP hS => ?_)
            refine lv_aload_n hx hb dX9_bid_125 rfl (lv_at hl 2 rfl) ?_
            refine lv_dup hx hb dX9_bid_126 rfl ?_
            refine m_get (v := .int (nI (M 15 0))) hx hb hts hin hown hK hP 15 (by decide) l_moment rfl dX9_bid_127 ?_
            refine lv_iconst (v := nI 1) hx hb dX9_bid_130 (by decide) ?_
            refine n_iadd hx hb dX9_bid_131 (z := (M 15 0) + 1) rfl ?_
            refine m_put hx hb hts hin hown hK hP hD hS 15 (by decide) l_moment rfl rfl (mset_15 _ _ _ _ _ _ _) dX9_bid_132 (fun H locs hP hS => ?_)
            refine lv_aload_n hx hb dX9_bid_135 rfl (lv_at hl 2 rfl) ?_
            refine lv_iconst (v := nI 3) hx hb dX9_bid_136 (by decide) ?_
            refine lv_iload_n hx hb dX9_bid_137 rfl (lv_at hl 4 rfl) ?_
            refine n_imul hx hb dX9_bid_138 (z := 3 * t1) rfl ?_
            refine lv_iload_n hx hb dX9_bid_139 rfl (lv_at hl 5 rfl) ?_
            refine n_iadd hx hb dX9_bid_140 (z := (3 * t1) + k1) rfl ?_
            refine vp_callSi (W.runV (As := [.int (nI ((3 * t1) + k1))]) (rest := []) ⟨hx, hb, hml, hown, hts⟩ (c9_bidsFor l D ad cI cZ cC 0 (mu (mu (mu (mu M 10 ((8 * ((3 * t1) + k1)) + b1) q1) 11 ((8 * ((3 * t1) + k1)) + b1) z1) 12 ((8 * ((3 * t1) + k1)) + b1) (M 15 0)) 15 0 ((M 15 0) + 1)) (MI_mu (MI_mu (MI_mu (MI_mu hM (by show q1 ≤ 100000; omega)) (by show z1 ≤ 100; omega)) (by show M 15 0 ≤ 1000; have f1 : M 15 0 ≤ 1000 := hM 15 0; omega)) (by show (M 15 0) + 1 ≤ 1000; have f1 : M 15 0 ≤ 1000 := hM 15 0; omega))  ((3 * t1) + k1) (by omega)) (cwV 1 hts gX9_bid_X9_bidsFor rfl rfl rfl kd_X9_bidsFor ⟨Nat.le_of_ble_eq_true rfl, Nat.le_of_ble_eq_true rfl⟩) ⟨mB_blind, m_recv hK hP, m_pre hK hP _⟩ rfl rfl hl.1 rfl (lv_room (Nat.le_of_ble_eq_true rfl)) dX9_bid_141 ⟨Nat.le_of_ble_eq_true rfl, Nat.le_of_ble_eq_true rfl⟩) (fun r_33 hr_33 => ?_)
            subst hr_33
            have eM_34 : g_bid M (nI b1) (nI t1) (nI k1) (nI q1) (nI z1) = mu (mu (mu (mu M 10 ((8 * ((3 * t1) + k1)) + b1) q1) 11 ((8 * ((3 * t1) + k1)) + b1) z1) 12 ((8 * ((3 * t1) + k1)) + b1) (M 15 0)) 15 0 ((M 15 0) + 1) := by simp [g_bid, m_at, k_bid, c_2, kq19, c_14, kz19, c_26, kb19, c_30, kt19, kk19, c_32]
            have eT_35 : k_bid M (nI b1) (nI t1) (nI k1) (nI q1) (nI z1) = 0 := by simp [k_bid, c_2, kq19, c_14, kz19, c_26, kb19, c_30, kt19, kk19, c_32]
            exact W.iret (v := nI (m_bf (mu (mu (mu (mu M 10 ((8 * ((3 * t1) + k1)) + b1) q1) 11 ((8 * ((3 * t1) + k1)) + b1) z1) 12 ((8 * ((3 * t1) + k1)) + b1) (M 15 0)) 15 0 ((M 15 0) + 1)) ((3 * t1) + k1) 8)) hx hb hr (fun U9 ht hW => ⟨⟨_, (), rfl, (show nI (m_bf (mu (mu (mu (mu M 10 ((8 * ((3 * t1) + k1)) + b1) q1) 11 ((8 * ((3 * t1) + k1)) + b1) z1) 12 ((8 * ((3 * t1) + k1)) + b1) (M 15 0)) 15 0 ((M 15 0) + 1)) ((3 * t1) + k1) 8) = r_bid M (nI b1) (nI t1) (nI k1) (nI q1) (nI z1) from by simp [r_bid, g_bid, m_at, k_bid, c_2, kq19, c_14, kz19, c_26, kb19, c_30, kt19, kk19, c_32]), by show va_P D vwCl _ U9.heap; rw [ht, eM_34, eT_35]; exact hP⟩, hS.F ht⟩) hS.2.2 dX9_bid_144
          · refine lv_iconst (v := nI 3) hx hb dX9_bid_67 (by decide) ?_
            refine lv_goto (tgt := 72) hx hb dX9_bid_68 (by decide) ?_
            refine m_putT hx hb hts hin hown hK hP hD hS l_thrown dX9_bid_72 (fun H locs hP hS => ?_)
            refine lv_aload_n hx hb dX9_bid_75 rfl (lv_at hl 1 rfl) ?_
            refine m_get (v := .int (nI 3)) hx hb hts hin hown hK hP 0 (by decide) l_thrown rfl dX9_bid_76 ?_
            refine n_if_le (tgt := 84) hx hb dX9_bid_79 (by decide) (by decide) (fun c9 => absurd c9 (by decide)) (fun _ => ?_)
            refine lv_iconst (v := nI 0) hx hb dX9_bid_82 (by decide) ?_
            have eM_36 : g_bid M (nI b1) (nI t1) (nI k1) (nI q1) (nI z1) = M := by simp [g_bid, m_at, k_bid, c_2, kq19, c_14, kz19, c_26, kb19, c_30, kt19, kk19, c_32]
            have eT_37 : k_bid M (nI b1) (nI t1) (nI k1) (nI q1) (nI z1) = 3 := by simp [k_bid, c_2, kq19, c_14, kz19, c_26, kb19, c_30, kt19, kk19, c_32]
            exact W.iret (v := nI 0) hx hb hr (fun U9 ht hW => ⟨⟨_, (), rfl, (show nI 0 = r_bid M (nI b1) (nI t1) (nI k1) (nI q1) (nI z1) from by simp [r_bid, g_bid, m_at, k_bid, c_2, kq19, c_14, kz19, c_26, kb19, c_30, kt19, kk19, c_32]), by show va_P D vwCl _ U9.heap; rw [ht, eM_36, eT_37]; exact hP⟩, hS.F ht⟩) hS.2.2 dX9_bid_83
        · refine lv_iconst (v := nI 1) hx hb dX9_bid_46 (by decide) ?_
          refine lv_goto (tgt := 72) hx hb dX9_bid_47 (by decide) ?_
          refine m_putT hx hb hts hin hown hK hP hD hS l_thrown dX9_bid_72 (fun H locs hP hS => ?_)
          refine lv_aload_n hx hb dX9_bid_75 rfl (lv_at hl 1 rfl) ?_
          refine m_get (v := .int (nI 1)) hx hb hts hin hown hK hP 0 (by decide) l_thrown rfl dX9_bid_76 ?_
          refine n_if_le (tgt := 84) hx hb dX9_bid_79 (by decide) (by decide) (fun c9 => absurd c9 (by decide)) (fun _ => ?_)
          refine lv_iconst (v := nI 0) hx hb dX9_bid_82 (by decide) ?_
          have eM_38 : g_bid M (nI b1) t k (nI q1) (nI z1) = M := by simp [g_bid, m_at, k_bid, c_2, kq19, c_14, kz19, c_26, kb19, c_30]
          have eT_39 : k_bid M (nI b1) t k (nI q1) (nI z1) = 1 := by simp [k_bid, c_2, kq19, c_14, kz19, c_26, kb19, c_30]
          exact W.iret (v := nI 0) hx hb hr (fun U9 ht hW => ⟨⟨_, (), rfl, (show nI 0 = r_bid M (nI b1) t k (nI q1) (nI z1) from by simp [r_bid, g_bid, m_at, k_bid, c_2, kq19, c_14, kz19, c_26, kb19, c_30]), by show va_P D vwCl _ U9.heap; rw [ht, eM_38, eT_39]; exact hP⟩, hS.F ht⟩) hS.2.2 dX9_bid_83
set_option maxHeartbeats 4000000 in
set_option maxRecDepth 100000 in
theorem c9_withdraw (l : Launch) (D : va_G) (ad : Nat → Nat) (cI cZ cC : ClassId) (th : Nat) (M : MS) (hM : MI M) {A : Nat → Prop} (hD : mDis A ad) (b : Int32) (t : Int32) (k : Int32) : Met l yX9_withdraw wsX9_withdraw ({ frames := 3, cells := 0, slots := 0, locals := 65 }) (va_Pc [.ref (ad 0), .int b, .int t, .int k] (mB D ad cI cZ cC th M)) (va_Qi (fun (r : Int32) (_ : Unit) => r = r_withdraw M b t k) (fun _ U9 => va_P D vwCl (mws ad cI cZ cC (k_withdraw M b t k) (g_withdraw M b t k)) U9.heap) A) 0 0 A := by
  refine Met.ofW (cc := cX9_withdraw) (maxL := 6) (ret := (some .int)) (by decide) rfl ?_
  intro p e s m args below meth c s₁ B hml hv
  obtain ⟨rfl, hP, hK⟩ := hv
  have hx := B.exec
  have hb := B.bytes
  have hr := B.returns
  have hts := atoms_spec (ws := wsX9_withdraw) B.pre
  have hown : s.vm.findClass RX9 = some m.cls := findClass_of_methodNamed B.named
  have hlocks := B.notSynchronized
  have hin : ∀ w ∈ wsX90, w ∈ wsX9_withdraw := fun w h => List.mem_cons_of_mem _ (List.mem_append_right _ h)
  have l_thrown := (hts (.fieldLink RX9 93 "TenderHallModel" "thrown" "I") (List.mem_of_getElem? (i := 1) rfl))
  have l_price := (hts (.fieldLink RX9 31 "TenderHallModel" "price" "[I") (List.mem_of_getElem? (i := 2) rfl))
  have hS : va_S A s.heap s.heap [] := va_S.rf
  have hl := lv_entry ([.ref (ad 0), .int b, .int t, .int k]) (n := 6) (Nat.le_of_ble_eq_true rfl)
  rw [lg_entry_eq]
  generalize (lg_sl ([.ref (ad 0), .int b, .int t, .int k]) ++ List.replicate (6 - (lg_sl ([.ref (ad 0), .int b, .int t, .int k])).length) Slot.unset).toArray = ls at hl ⊢
  have hl : lv_has ls 6 [(0, .ref (ad 0)), (1, .int b), (2, .int t), (3, .int k)] := hl
  have h36 : M 3 0 ≤ 6 := hM 3 0
  have h160 : M 16 0 ≤ 60 := hM 16 0
  have h220 : M 22 0 ≤ 60 := hM 22 0
  have h290 : M 29 0 ≤ 60 := hM 29 0
  have h120 : M 1 0 ≤ 2000 := hM 1 0
  refine lv_aload_n hx hb dX9_withdraw_0 rfl (lv_at hl 0 rfl) ?_
  refine lv_iload_n hx hb dX9_withdraw_1 rfl (lv_at hl 1 rfl) ?_
  refine vp_callSi (W.runS (As := [.int b]) (rest := [.ref (ad 0)]) ⟨hx, hb, hml, hown, hts⟩ (c9_isBidder l  b) (va_cwS 1 hts gX9_withdraw_X9_isBidder rfl rfl rfl kd_X9_isBidder ⟨Nat.le_of_ble_eq_true rfl, Nat.le_of_ble_eq_true rfl⟩) ⟨fun _ _ _ _ q => q, fun U hU hW => ⟨rfl, trivial⟩⟩ rfl rfl hl.1 rfl (lv_room (Nat.le_of_ble_eq_true rfl)) dX9_withdraw_2 ⟨Nat.le_of_ble_eq_true rfl, Nat.le_of_ble_eq_true rfl⟩) (fun r_1 hr_1 => ?_)
  subst hr_1
  refine b_if_eq (tgt := 21) hx hb dX9_withdraw_5 (by decide)  (fun c_2 => ?_) (fun c_2 => ?_)
  · refine lv_iconst (v := nI 1) hx hb dX9_withdraw_21 (by decide) ?_
    refine m_putT hx hb hts hin hown hK hP hD hS l_thrown dX9_withdraw_22 (fun H locs hP hS => ?_)
    refine lv_aload_n hx hb dX9_withdraw_25 rfl (lv_at hl 0 rfl) ?_
    refine m_get (v := .int (nI 1)) hx hb hts hin hown hK hP 0 (by decide) l_thrown rfl dX9_withdraw_26 ?_
    refine n_if_le (tgt := 36) hx hb dX9_withdraw_29 (by decide) (by decide) (fun c9 => absurd c9 (by decide)) (fun _ => ?_)
    refine lv_iconst (v := nI 0) hx hb dX9_withdraw_32 (by decide) ?_
    refine lv_goto (tgt := 46) hx hb dX9_withdraw_33 (by decide) ?_
    refine lv_istore (lv' := [(4, .int (nI 0)), (0, .ref (ad 0)), (1, .int b), (2, .int t), (3, .int k)]) hx hb dX9_withdraw_46 hl (by decide) rfl (fun ls hl => ?_)
    refine lv_aload_n hx hb dX9_withdraw_48 rfl (lv_at hl 1 rfl) ?_
    refine m_get (v := .int (nI 1)) hx hb hts hin hown hK hP 0 (by decide) l_thrown rfl dX9_withdraw_49 ?_
    refine n_if_ne (tgt := 82) hx hb dX9_withdraw_52 (by decide) (by decide) (fun _ => ?_) (fun c9 => absurd c9 (by decide))
    refine lv_aload_n hx hb dX9_withdraw_82 rfl (lv_at hl 1 rfl) ?_
    refine m_get (v := .int (nI 1)) hx hb hts hin hown hK hP 0 (by decide) l_thrown rfl dX9_withdraw_83 ?_
    refine n_if_le (tgt := 91) hx hb dX9_withdraw_86 (by decide) (by decide) (fun c9 => absurd c9 (by decide)) (fun _ => ?_)
    refine lv_iconst (v := nI 0) hx hb dX9_withdraw_89 (by decide) ?_
    have eM_3 : g_withdraw M b t k = M := by simp [g_withdraw, k_withdraw, m_at, c_2]
    have eT_4 : k_withdraw M b t k = 1 := by simp [k_withdraw, m_at, c_2]
    exact W.iret (v := nI 0) hx hb hr (fun U9 ht hW => ⟨⟨_, (), rfl, (show nI 0 = r_withdraw M b t k from by simp [r_withdraw, k_withdraw, m_at, c_2]), by show va_P D vwCl _ U9.heap; rw [ht, eM_3, eT_4]; exact hP⟩, hS.F ht⟩) hS.2.2 dX9_withdraw_90
  · obtain ⟨b1, hb1, rfl⟩ := isIx_of (by decide) c_2
    have kb19 : (nI b1).toNatClampNeg = b1 := nI_clamp (by omega)
    refine lv_aload_n hx hb dX9_withdraw_8 rfl (lv_at hl 0 rfl) ?_
    refine lv_iload_n hx hb dX9_withdraw_9 rfl (lv_at hl 2 rfl) ?_
    refine lv_iload_n hx hb dX9_withdraw_10 rfl (lv_at hl 3 rfl) ?_
    refine vp_callSi (W.runV (As := [.int t, .int k]) (rest := [.ref (ad 0)]) ⟨hx, hb, hml, hown, hts⟩ (c9_isLot l D ad cI cZ cC th M hM  t k) (cwV 2 hts gX9_withdraw_X9_isLot rfl rfl rfl kd_X9_isLot ⟨Nat.le_of_ble_eq_true rfl, Nat.le_of_ble_eq_true rfl⟩) ⟨mB_blind, m_recv hK hP, m_pre hK hP _⟩ rfl rfl hl.1 rfl (lv_room (Nat.le_of_ble_eq_true rfl)) dX9_withdraw_11 ⟨Nat.le_of_ble_eq_true rfl, Nat.le_of_ble_eq_true rfl⟩) (fun r_5 hr_5 => ?_)
    subst hr_5
    refine b_if_eq (tgt := 21) hx hb dX9_withdraw_14 (by decide)  (fun c_6 => ?_) (fun c_6 => ?_)
    · refine lv_iconst (v := nI 1) hx hb dX9_withdraw_21 (by decide) ?_
      refine m_putT hx hb hts hin hown hK hP hD hS l_thrown dX9_withdraw_22 (fun H locs hP hS => ?_)
      refine lv_aload_n hx hb dX9_withdraw_25 rfl (lv_at hl 0 rfl) ?_
      refine m_get (v := .int (nI 1)) hx hb hts hin hown hK hP 0 (by decide) l_thrown rfl dX9_withdraw_26 ?_
      refine n_if_le (tgt := 36) hx hb dX9_withdraw_29 (by decide) (by decide) (fun c9 => absurd c9 (by decide)) (fun _ => ?_)
      refine lv_iconst (v := nI 0) hx hb dX9_withdraw_32 (by decide) ?_
      refine lv_goto (tgt := 46) hx hb dX9_withdraw_33 (by decide) ?_
      refine lv_istore (lv' := [(4, .int (nI 0)), (0, .ref (ad 0)), (1, .int (nI b1)), (2, .int t), (3, .int k)]) hx hb dX9_withdraw_46 hl (by decide) rfl (fun ls hl => ?_)
      refine lv_aload_n hx hb dX9_withdraw_48 rfl (lv_at hl 1 rfl) ?_
      refine m_get (v := .int (nI 1)) hx hb hts hin hown hK hP 0 (by decide) l_thrown rfl dX9_withdraw_49 ?_
      refine n_if_ne (tgt := 82) hx hb dX9_withdraw_52 (by decide) (by decide) (fun _ => ?_) (fun c9 => absurd c9 (by decide))
      refine lv_aload_n hx hb dX9_withdraw_82 rfl (lv_at hl 1 rfl) ?_
      refine m_get (v := .int (nI 1)) hx hb hts hin hown hK hP 0 (by decide) l_thrown rfl dX9_withdraw_83 ?_
      refine n_if_le (tgt := 91) hx hb dX9_withdraw_86 (by decide) (by decide) (fun c9 => absurd c9 (by decide)) (fun _ => ?_)
      refine lv_iconst (v := nI 0) hx hb dX9_withdraw_89 (by decide) ?_
      have eM_7 : g_withdraw M (nI b1) t k = M := by simp [g_withdraw, k_withdraw, m_at, c_2, kb19, c_6]
      have eT_8 : k_withdraw M (nI b1) t k = 1 := by simp [k_withdraw, m_at, c_2, kb19, c_6]
      exact W.iret (v := nI 0) hx hb hr (fun U9 ht hW => ⟨⟨_, (), rfl, (show nI 0 = r_withdraw M (nI b1) t k from by simp [r_withdraw, k_withdraw, m_at, c_2, kb19, c_6]), by show va_P D vwCl _ U9.heap; rw [ht, eM_7, eT_8]; exact hP⟩, hS.F ht⟩) hS.2.2 dX9_withdraw_90
    · obtain ⟨t1, k1, ht1, hk1, rfl, rfl⟩ := m_isLot_of hM c_6
      have ht16 : t1 < 6 := by have f1 : M 3 0 ≤ 6 := hM 3 0; omega
      have hk13 : k1 < 3 := by have f1 : M 8 t1 ≤ 3 := hM 8 t1; omega
      have kt19 : (nI t1).toNatClampNeg = t1 := nI_clamp (by omega)
      have kk19 : (nI k1).toNatClampNeg = k1 := nI_clamp (by omega)
      refine lv_iconst (v := nI 0) hx hb dX9_withdraw_17 (by decide) ?_
      refine lv_goto (tgt := 22) hx hb dX9_withdraw_18 (by decide) ?_
      refine m_putT hx hb hts hin hown hK hP hD hS l_thrown dX9_withdraw_22 (fun H locs hP hS => ?_)
      refine lv_aload_n hx hb dX9_withdraw_25 rfl (lv_at hl 0 rfl) ?_
      refine m_get (v := .int (nI 0)) hx hb hts hin hown hK hP 0 (by decide) l_thrown rfl dX9_withdraw_26 ?_
      refine n_if_le (tgt := 36) hx hb dX9_withdraw_29 (by decide) (by decide) (fun _ => ?_) (fun c9 => absurd c9 (by decide))
      refine lv_bipush (v := nI 8) hx hb dX9_withdraw_36 (by decide) ?_
      refine lv_iconst (v := nI 3) hx hb dX9_withdraw_38 (by decide) ?_
      refine lv_iload_n hx hb dX9_withdraw_39 rfl (lv_at hl 2 rfl) ?_
      refine n_imul hx hb dX9_withdraw_40 (z := 3 * t1) rfl ?_
      refine lv_iload_n hx hb dX9_withdraw_41 rfl (lv_at hl 3 rfl) ?_
      refine n_iadd hx hb dX9_withdraw_42 (z := (3 * t1) + k1) rfl ?_
      refine n_imul hx hb dX9_withdraw_43 (z := 8 * ((3 * t1) + k1)) rfl ?_
      refine lv_iload_n hx hb dX9_withdraw_44 rfl (lv_at hl 1 rfl) ?_
      refine n_iadd hx hb dX9_withdraw_45 (z := (8 * ((3 * t1) + k1)) + b1) rfl ?_
      refine lv_istore (lv' := [(4, .int (nI ((8 * ((3 * t1) + k1)) + b1))), (0, .ref (ad 0)), (1, .int (nI b1)), (2, .int (nI t1)), (3, .int (nI k1))]) hx hb dX9_withdraw_46 hl (by decide) rfl (fun ls hl => ?_)
      refine lv_aload_n hx hb dX9_withdraw_48 rfl (lv_at hl 1 rfl) ?_
      refine m_get (v := .int (nI 0)) hx hb hts hin hown hK hP 0 (by decide) l_thrown rfl dX9_withdraw_49 ?_
      refine n_if_ne (tgt := 82) hx hb dX9_withdraw_52 (by decide) (by decide) (fun c9 => absurd c9 (by decide)) (fun _ => ?_)
      refine lv_aload_n hx hb dX9_withdraw_55 rfl (lv_at hl 1 rfl) ?_
      refine lv_aload_n hx hb dX9_withdraw_56 rfl (lv_at hl 1 rfl) ?_
      refine lv_iload_n hx hb dX9_withdraw_57 rfl (lv_at hl 3 rfl) ?_
      refine vp_callSi (W.runV (As := [.int (nI t1)]) (rest := [.ref (ad 0)]) ⟨hx, hb, hml, hown, hts⟩ (c9_isOpened l D ad cI cZ cC 0 M hM  t1 (by omega)) (cwV 1 hts gX9_withdraw_X9_isOpened rfl rfl rfl kd_X9_isOpened ⟨Nat.le_of_ble_eq_true rfl, Nat.le_of_ble_eq_true rfl⟩) ⟨mB_blind, m_recv hK hP, m_pre hK hP _⟩ rfl rfl hl.1 rfl (lv_room (Nat.le_of_ble_eq_true rfl)) dX9_withdraw_58 ⟨Nat.le_of_ble_eq_true rfl, Nat.le_of_ble_eq_true rfl⟩) (fun r_9 hr_9 => ?_)
      subst hr_9
      refine b_if_ne (tgt := 74) hx hb dX9_withdraw_61 (by decide)  (fun c_10 => ?_) (fun c_10 => ?_)
      · refine lv_iconst (v := nI 2) hx hb dX9_withdraw_74 (by decide) ?_
        refine lv_goto (tgt := 79) hx hb dX9_withdraw_75 (by decide) ?_
        refine m_putT hx hb hts hin hown hK hP hD hS l_thrown dX9_withdraw_79 (fun H locs hP hS => ?_)
        refine lv_aload_n hx hb dX9_withdraw_82 rfl (lv_at hl 1 rfl) ?_
        refine m_get (v := .int (nI 2)) hx hb hts hin hown hK hP 0 (by decide) l_thrown rfl dX9_withdraw_83 ?_
        refine n_if_le (tgt := 91) hx hb dX9_withdraw_86 (by decide) (by decide) (fun c9 => absurd c9 (by decide)) (fun _ => ?_)
        refine lv_iconst (v := nI 0) hx hb dX9_withdraw_89 (by decide) ?_
        have eM_11 : g_withdraw M (nI b1) (nI t1) (nI k1) = M := by simp [g_withdraw, k_withdraw, m_at, c_2, kb19, c_6, kt19, kk19, c_10]
        have eT_12 : k_withdraw M (nI b1) (nI t1) (nI k1) = 2 := by simp [k_withdraw, m_at, c_2, kb19, c_6, kt19, kk19, c_10]
        exact W.iret (v := nI 0) hx hb hr (fun U9 ht hW => ⟨⟨_, (), rfl, (show nI 0 = r_withdraw M (nI b1) (nI t1) (nI k1) from by simp [r_withdraw, k_withdraw, m_at, c_2, kb19, c_6, kt19, kk19, c_10]), by show va_P D vwCl _ U9.heap; rw [ht, eM_11, eT_12]; exact hP⟩, hS.F ht⟩) hS.2.2 dX9_withdraw_90
      · refine lv_aload_n hx hb dX9_withdraw_64 rfl (lv_at hl 1 rfl) ?_
        refine m_get hx hb hts hin hown hK hP 10 (by decide) l_price rfl dX9_withdraw_65 ?_
        refine lv_iload hx hb dX9_withdraw_68 (lv_at hl 0 rfl) ?_
        refine m_iald (f := 10) hx hb hK hP 8 rfl (by omega) (by decide) dX9_withdraw_70 ?_
        refine n_if_ne (tgt := 78) hx hb dX9_withdraw_71 (by decide) (by have f1 : M 10 ((8 * ((3 * t1) + k1)) + b1) ≤ 100000 := hM 10 ((8 * ((3 * t1) + k1)) + b1); omega) (fun c_13 => ?_) (fun c_13 => ?_)
        · refine lv_iconst (v := nI 0) hx hb dX9_withdraw_78 (by decide) ?_
          refine m_putT hx hb hts hin hown hK hP hD hS l_thrown dX9_withdraw_79 (fun H locs hP hS => ?_)
          refine lv_aload_n hx hb dX9_withdraw_82 rfl (lv_at hl 1 rfl) ?_
          refine m_get (v := .int (nI 0)) hx hb hts hin hown hK hP 0 (by decide) l_thrown rfl dX9_withdraw_83 ?_
          refine n_if_le (tgt := 91) hx hb dX9_withdraw_86 (by decide) (by decide) (fun _ => ?_) (fun c9 => absurd c9 (by decide))
          refine lv_aload_n hx hb dX9_withdraw_91 rfl (lv_at hl 1 rfl) ?_
          refine m_get hx hb hts hin hown hK hP 10 (by decide) l_price rfl dX9_withdraw_92 ?_
          refine lv_iload hx hb dX9_withdraw_95 (lv_at hl 0 rfl) ?_
          refine m_iald (f := 10) hx hb hK hP 8 rfl (by omega) (by decide) dX9_withdraw_97 ?_
          refine lv_istore (lv' := [(5, .int (nI (M 10 ((8 * ((3 * t1) + k1)) + b1)))), (4, .int (nI ((8 * ((3 * t1) + k1)) + b1))), (0, .ref (ad 0)), (1, .int (nI b1)), (2, .int (nI t1)), (3, .int (nI k1))]) hx hb dX9_withdraw_98 hl (by decide) rfl (fun ls hl => ?_)
          refine lv_aload_n hx hb dX9_withdraw_100 rfl (lv_at hl 2 rfl) ?_
          refine m_get hx hb hts hin hown hK hP 10 (by decide) l_price rfl dX9_withdraw_101 ?_
          refine lv_iload hx hb dX9_withdraw_104 (lv_at hl 1 rfl) ?_
          refine lv_iconst (v := nI 0) hx hb dX9_withdraw_106 (by decide) ?_
          refine m_iast (f := 10) (v := 0) hx hb hK hP hD hS 8 rfl (by omega) (by decide) (mset_10 _ _ _ _ _ _ _ _) dX9_withdraw_107 (fun H locs hP hS => ?_)
          refine lv_iload hx hb dX9_withdraw_108 (lv_at hl 0 rfl) ?_
          have eM_14 : g_withdraw M (nI b1) (nI t1) (nI k1) = mu M 10 ((8 * ((3 * t1) + k1)) + b1) 0 := by simp [g_withdraw, k_withdraw, m_at, c_2, kb19, c_6, kt19, kk19, c_10, c_13]
          have eT_15 : k_withdraw M (nI b1) (nI t1) (nI k1) = 0 := by simp [k_withdraw, m_at, c_2, kb19, c_6, kt19, kk19, c_10, c_13]
          exact W.iret (v := nI (M 10 ((8 * ((3 * t1) + k1)) + b1))) hx hb hr (fun U9 ht hW => ⟨⟨_, (), rfl, (show nI (M 10 ((8 * ((3 * t1) + k1)) + b1)) = r_withdraw M (nI b1) (nI t1) (nI k1) from by simp [r_withdraw, k_withdraw, m_at, c_2, kb19, c_6, kt19, kk19, c_10, c_13]), by show va_P D vwCl _ U9.heap; rw [ht, eM_14, eT_15]; exact hP⟩, hS.F ht⟩) hS.2.2 dX9_withdraw_110
        · refine lv_iconst (v := nI 2) hx hb dX9_withdraw_74 (by decide) ?_
          refine lv_goto (tgt := 79) hx hb dX9_withdraw_75 (by decide) ?_
          refine m_putT hx hb hts hin hown hK hP hD hS l_thrown dX9_withdraw_79 (fun H locs hP hS => ?_)
          refine lv_aload_n hx hb dX9_withdraw_82 rfl (lv_at hl 1 rfl) ?_
          refine m_get (v := .int (nI 2)) hx hb hts hin hown hK hP 0 (by decide) l_thrown rfl dX9_withdraw_83 ?_
          refine n_if_le (tgt := 91) hx hb dX9_withdraw_86 (by decide) (by decide) (fun c9 => absurd c9 (by decide)) (fun _ => ?_)
          refine lv_iconst (v := nI 0) hx hb dX9_withdraw_89 (by decide) ?_
          have eM_16 : g_withdraw M (nI b1) (nI t1) (nI k1) = M := by simp [g_withdraw, k_withdraw, m_at, c_2, kb19, c_6, kt19, kk19, c_10, c_13]
          have eT_17 : k_withdraw M (nI b1) (nI t1) (nI k1) = 2 := by simp [k_withdraw, m_at, c_2, kb19, c_6, kt19, kk19, c_10, c_13]
          exact W.iret (v := nI 0) hx hb hr (fun U9 ht hW => ⟨⟨_, (), rfl, (show nI 0 = r_withdraw M (nI b1) (nI t1) (nI k1) from by simp [r_withdraw, k_withdraw, m_at, c_2, kb19, c_6, kt19, kk19, c_10, c_13]), by show va_P D vwCl _ U9.heap; rw [ht, eM_16, eT_17]; exact hP⟩, hS.F ht⟩) hS.2.2 dX9_withdraw_90
set_option maxHeartbeats 4000000 in
set_option maxRecDepth 100000 in
theorem c9_asksBid (l : Launch) (D : va_G) (ad : Nat → Nat) (cI cZ cC : ClassId) (th : Nat) (M : MS) (hM : MI M) {A : Nat → Prop} (hD : mDis A ad) (b : Int32) (t : Int32) (k : Int32) : Met l yX9_asksBid wsX9_asksBid ({ frames := 3, cells := 0, slots := 0, locals := 65 }) (va_Pc [.ref (ad 0), .int b, .int t, .int k] (mB D ad cI cZ cC th M)) (va_Qi (fun (r : Int32) (_ : Unit) => r = bi (isIx b 8 && m_isLot M t k)) (fun _ U9 => va_P D vwCl (mws ad cI cZ cC (k_ask M b t k) M) U9.heap) A) 0 0 A := by
  refine Met.ofW (cc := cX9_asksBid) (maxL := 4) (ret := (some .boolean)) (by decide) rfl ?_
  intro p e s m args below meth c s₁ B hml hv
  obtain ⟨rfl, hP, hK⟩ := hv
  have hx := B.exec
  have hb := B.bytes
  have hr := B.returns
  have hts := atoms_spec (ws := wsX9_asksBid) B.pre
  have hown : s.vm.findClass RX9 = some m.cls := findClass_of_methodNamed B.named
  have hlocks := B.notSynchronized
  have hin : ∀ w ∈ wsX90, w ∈ wsX9_asksBid := fun w h => List.mem_cons_of_mem _ (List.mem_append_right _ h)
  have l_thrown := (hts (.fieldLink RX9 93 "TenderHallModel" "thrown" "I") (List.mem_of_getElem? (i := 1) rfl))
  have hS : va_S A s.heap s.heap [] := va_S.rf
  have hl := lv_entry ([.ref (ad 0), .int b, .int t, .int k]) (n := 4) (Nat.le_of_ble_eq_true rfl)
  rw [lg_entry_eq]
  generalize (lg_sl ([.ref (ad 0), .int b, .int t, .int k]) ++ List.replicate (4 - (lg_sl ([.ref (ad 0), .int b, .int t, .int k])).length) Slot.unset).toArray = ls at hl ⊢
  have hl : lv_has ls 4 [(0, .ref (ad 0)), (1, .int b), (2, .int t), (3, .int k)] := hl
  have h36 : M 3 0 ≤ 6 := hM 3 0
  have h160 : M 16 0 ≤ 60 := hM 16 0
  have h220 : M 22 0 ≤ 60 := hM 22 0
  have h290 : M 29 0 ≤ 60 := hM 29 0
  have h120 : M 1 0 ≤ 2000 := hM 1 0
  refine lv_aload_n hx hb dX9_asksBid_0 rfl (lv_at hl 0 rfl) ?_
  refine lv_iload_n hx hb dX9_asksBid_1 rfl (lv_at hl 1 rfl) ?_
  refine vp_callSi (W.runS (As := [.int b]) (rest := [.ref (ad 0)]) ⟨hx, hb, hml, hown, hts⟩ (c9_isBidder l  b) (va_cwS 1 hts gX9_asksBid_X9_isBidder rfl rfl rfl kd_X9_isBidder ⟨Nat.le_of_ble_eq_true rfl, Nat.le_of_ble_eq_true rfl⟩) ⟨fun _ _ _ _ q => q, fun U hU hW => ⟨rfl, trivial⟩⟩ rfl rfl hl.1 rfl (lv_room (Nat.le_of_ble_eq_true rfl)) dX9_asksBid_2 ⟨Nat.le_of_ble_eq_true rfl, Nat.le_of_ble_eq_true rfl⟩) (fun r_1 hr_1 => ?_)
  subst hr_1
  refine b_if_eq (tgt := 21) hx hb dX9_asksBid_5 (by decide)  (fun c_2 => ?_) (fun c_2 => ?_)
  · refine lv_iconst (v := nI 1) hx hb dX9_asksBid_21 (by decide) ?_
    refine m_putT hx hb hts hin hown hK hP hD hS l_thrown dX9_asksBid_22 (fun H locs hP hS => ?_)
    refine lv_aload_n hx hb dX9_asksBid_25 rfl (lv_at hl 0 rfl) ?_
    refine m_get (v := .int (nI 1)) hx hb hts hin hown hK hP 0 (by decide) l_thrown rfl dX9_asksBid_26 ?_
    refine n_if_ne (tgt := 36) hx hb dX9_asksBid_29 (by decide) (by decide) (fun _ => ?_) (fun c9 => absurd c9 (by decide))
    refine lv_iconst (v := nI 0) hx hb dX9_asksBid_36 (by decide) ?_
    have eT_3 : k_ask M b t k = 1 := by simp [k_ask, c_2]
    exact W.zret (v := nI 0) hx hb hr rfl (fun U9 ht hW => ⟨⟨_, (), rfl, bi_zero (by simp [c_2]), by show va_P D vwCl _ U9.heap; rw [ht, eT_3]; exact hP⟩, hS.F ht⟩) hS.2.2 dX9_asksBid_37
  · refine lv_aload_n hx hb dX9_asksBid_8 rfl (lv_at hl 0 rfl) ?_
    refine lv_iload_n hx hb dX9_asksBid_9 rfl (lv_at hl 2 rfl) ?_
    refine lv_iload_n hx hb dX9_asksBid_10 rfl (lv_at hl 3 rfl) ?_
    refine vp_callSi (W.runV (As := [.int t, .int k]) (rest := [.ref (ad 0)]) ⟨hx, hb, hml, hown, hts⟩ (c9_isLot l D ad cI cZ cC th M hM  t k) (cwV 2 hts gX9_asksBid_X9_isLot rfl rfl rfl kd_X9_isLot ⟨Nat.le_of_ble_eq_true rfl, Nat.le_of_ble_eq_true rfl⟩) ⟨mB_blind, m_recv hK hP, m_pre hK hP _⟩ rfl rfl hl.1 rfl (lv_room (Nat.le_of_ble_eq_true rfl)) dX9_asksBid_11 ⟨Nat.le_of_ble_eq_true rfl, Nat.le_of_ble_eq_true rfl⟩) (fun r_4 hr_4 => ?_)
    subst hr_4
    refine b_if_eq (tgt := 21) hx hb dX9_asksBid_14 (by decide)  (fun c_5 => ?_) (fun c_5 => ?_)
    · refine lv_iconst (v := nI 1) hx hb dX9_asksBid_21 (by decide) ?_
      refine m_putT hx hb hts hin hown hK hP hD hS l_thrown dX9_asksBid_22 (fun H locs hP hS => ?_)
      refine lv_aload_n hx hb dX9_asksBid_25 rfl (lv_at hl 0 rfl) ?_
      refine m_get (v := .int (nI 1)) hx hb hts hin hown hK hP 0 (by decide) l_thrown rfl dX9_asksBid_26 ?_
      refine n_if_ne (tgt := 36) hx hb dX9_asksBid_29 (by decide) (by decide) (fun _ => ?_) (fun c9 => absurd c9 (by decide))
      refine lv_iconst (v := nI 0) hx hb dX9_asksBid_36 (by decide) ?_
      have eT_6 : k_ask M b t k = 1 := by simp [k_ask, c_2, c_5]
      exact W.zret (v := nI 0) hx hb hr rfl (fun U9 ht hW => ⟨⟨_, (), rfl, bi_zero (by simp [c_2, c_5]), by show va_P D vwCl _ U9.heap; rw [ht, eT_6]; exact hP⟩, hS.F ht⟩) hS.2.2 dX9_asksBid_37
    · refine lv_iconst (v := nI 0) hx hb dX9_asksBid_17 (by decide) ?_
      refine lv_goto (tgt := 22) hx hb dX9_asksBid_18 (by decide) ?_
      refine m_putT hx hb hts hin hown hK hP hD hS l_thrown dX9_asksBid_22 (fun H locs hP hS => ?_)
      refine lv_aload_n hx hb dX9_asksBid_25 rfl (lv_at hl 0 rfl) ?_
      refine m_get (v := .int (nI 0)) hx hb hts hin hown hK hP 0 (by decide) l_thrown rfl dX9_asksBid_26 ?_
      refine n_if_ne (tgt := 36) hx hb dX9_asksBid_29 (by decide) (by decide) (fun c9 => absurd c9 (by decide)) (fun _ => ?_)
      refine lv_iconst (v := nI 1) hx hb dX9_asksBid_32 (by decide) ?_
      refine lv_goto (tgt := 37) hx hb dX9_asksBid_33 (by decide) ?_
      have eT_7 : k_ask M b t k = 0 := by simp [k_ask, c_2, c_5]
      exact W.zret (v := nI 1) hx hb hr rfl (fun U9 ht hW => ⟨⟨_, (), rfl, bi_one (by simp [c_2, c_5]), by show va_P D vwCl _ U9.heap; rw [ht, eT_7]; exact hP⟩, hS.F ht⟩) hS.2.2 dX9_asksBid_37
set_option maxHeartbeats 4000000 in
set_option maxRecDepth 100000 in
theorem c9_isIn (l : Launch) (D : va_G) (ad : Nat → Nat) (cI cZ cC : ClassId) (th : Nat) (M : MS) (hM : MI M) {A : Nat → Prop} (hD : mDis A ad) (b : Int32) (t : Int32) (k : Int32) : Met l yX9_isIn wsX9_isIn ({ frames := 4, cells := 0, slots := 0, locals := 88 }) (va_Pc [.ref (ad 0), .int b, .int t, .int k] (mB D ad cI cZ cC th M)) (va_Qi (fun (r : Int32) (_ : Unit) => r = bi (r_isIn M b t k)) (fun _ U9 => va_P D vwCl (mws ad cI cZ cC (k_ask M b t k) M) U9.heap) A) 0 0 A := by
  refine Met.ofW (cc := cX9_isIn) (maxL := 4) (ret := (some .boolean)) (by decide) rfl ?_
  intro p e s m args below meth c s₁ B hml hv
  obtain ⟨rfl, hP, hK⟩ := hv
  have hx := B.exec
  have hb := B.bytes
  have hr := B.returns
  have hts := atoms_spec (ws := wsX9_isIn) B.pre
  have hown : s.vm.findClass RX9 = some m.cls := findClass_of_methodNamed B.named
  have hlocks := B.notSynchronized
  have hS : va_S A s.heap s.heap [] := va_S.rf
  have hl := lv_entry ([.ref (ad 0), .int b, .int t, .int k]) (n := 4) (Nat.le_of_ble_eq_true rfl)
  rw [lg_entry_eq]
  generalize (lg_sl ([.ref (ad 0), .int b, .int t, .int k]) ++ List.replicate (4 - (lg_sl ([.ref (ad 0), .int b, .int t, .int k])).length) Slot.unset).toArray = ls at hl ⊢
  have hl : lv_has ls 4 [(0, .ref (ad 0)), (1, .int b), (2, .int t), (3, .int k)] := hl
  have h36 : M 3 0 ≤ 6 := hM 3 0
  have h160 : M 16 0 ≤ 60 := hM 16 0
  have h220 : M 22 0 ≤ 60 := hM 22 0
  have h290 : M 29 0 ≤ 60 := hM 29 0
  have h120 : M 1 0 ≤ 2000 := hM 1 0
  refine lv_aload_n hx hb dX9_isIn_0 rfl (lv_at hl 0 rfl) ?_
  refine lv_iload_n hx hb dX9_isIn_1 rfl (lv_at hl 1 rfl) ?_
  refine lv_iload_n hx hb dX9_isIn_2 rfl (lv_at hl 2 rfl) ?_
  refine lv_iload_n hx hb dX9_isIn_3 rfl (lv_at hl 3 rfl) ?_
  refine va_calli (va_runV (As := [.int b, .int t, .int k]) (rest := []) ⟨hx, hb, hml, hown, hts⟩ (c9_asksBid l D ad cI cZ cC th M hM hD  b t k) (cwV 3 hts gX9_isIn_X9_asksBid rfl rfl rfl kd_X9_asksBid ⟨Nat.le_of_ble_eq_true rfl, Nat.le_of_ble_eq_true rfl⟩) ⟨mB_blind, m_recv hK hP, m_pre hK hP _⟩ rfl rfl hl.1 rfl (lv_room (Nat.le_of_ble_eq_true rfl)) dX9_isIn_4 ⟨Nat.le_of_ble_eq_true rfl, Nat.le_of_ble_eq_true rfl⟩) hS (fun _ _ h => h) (fun _ h => h) (fun r_1 u U8 H1 locs1 ht hvm hr_1 hP1 hz1 hk1 hS1 => ?_)
  rw [ht] at hP1
  clear hS
  have hS := hS1
  have hP : va_P D vwCl (mws ad cI cZ cC (k_ask M b t k) M) H1 := hP1
  generalize H1 = H at hP hS ⊢
  subst hr_1
  refine b_if_eq (tgt := 31) hx hb dX9_isIn_7 (by decide)  (fun c_2 => ?_) (fun c_2 => ?_)
  · refine lv_iconst (v := nI 0) hx hb dX9_isIn_31 (by decide) ?_
    exact W.zret (v := nI 0) hx hb hr rfl (fun U9 ht hW => ⟨⟨_, (), rfl, bi_zero (by first | (simp [r_isIn, m_at, c_2]; done) | (simp only [r_isIn, c_2, Bool.false_and])), by show va_P D vwCl _ U9.heap; rw [ht]; exact hP⟩, hS.F ht⟩) hS.2.2 dX9_isIn_32
  · have ca : isIx b 8 = true := by simp only [Bool.and_eq_true] at c_2; exact c_2.1
    have cb : m_isLot M t k = true := by simp only [Bool.and_eq_true] at c_2; exact c_2.2
    obtain ⟨b1, hb1, rfl⟩ := isIx_of (by decide) ca
    have kb19 : (nI b1).toNatClampNeg = b1 := nI_clamp (by omega)
    obtain ⟨t1, k1, ht1, hk1, rfl, rfl⟩ := m_isLot_of hM cb
    have ht16 : t1 < 6 := by have f1 : M 3 0 ≤ 6 := hM 3 0; omega
    have hk13 : k1 < 3 := by have f1 : M 8 t1 ≤ 3 := hM 8 t1; omega
    have kt19 : (nI t1).toNatClampNeg = t1 := nI_clamp (by omega)
    have kk19 : (nI k1).toNatClampNeg = k1 := nI_clamp (by omega)
    refine lv_aload_n hx hb dX9_isIn_10 rfl (lv_at hl 0 rfl) ?_
    refine lv_bipush (v := nI 8) hx hb dX9_isIn_11 (by decide) ?_
    refine lv_iconst (v := nI 3) hx hb dX9_isIn_13 (by decide) ?_
    refine lv_iload_n hx hb dX9_isIn_14 rfl (lv_at hl 2 rfl) ?_
    refine n_imul hx hb dX9_isIn_15 (z := 3 * t1) rfl ?_
    refine lv_iload_n hx hb dX9_isIn_16 rfl (lv_at hl 3 rfl) ?_
    refine n_iadd hx hb dX9_isIn_17 (z := (3 * t1) + k1) rfl ?_
    refine n_imul hx hb dX9_isIn_18 (z := 8 * ((3 * t1) + k1)) rfl ?_
    refine lv_iload_n hx hb dX9_isIn_19 rfl (lv_at hl 1 rfl) ?_
    refine n_iadd hx hb dX9_isIn_20 (z := (8 * ((3 * t1) + k1)) + b1) rfl ?_
    refine vp_callSi (W.runV (As := [.int (nI ((8 * ((3 * t1) + k1)) + b1))]) (rest := []) ⟨hx, hb, hml, hown, hts⟩ (c9_takesPart l D ad cI cZ cC (k_ask M ((nI b1)) ((nI t1)) ((nI k1))) M hM  ((8 * ((3 * t1) + k1)) + b1) (by omega)) (cwV 1 hts gX9_isIn_X9_takesPart rfl rfl rfl kd_X9_takesPart ⟨Nat.le_of_ble_eq_true rfl, Nat.le_of_ble_eq_true rfl⟩) ⟨mB_blind, m_recv hK hP, m_pre hK hP _⟩ rfl rfl hl.1 rfl (lv_room (Nat.le_of_ble_eq_true rfl)) dX9_isIn_21 ⟨Nat.le_of_ble_eq_true rfl, Nat.le_of_ble_eq_true rfl⟩) (fun r_3 hr_3 => ?_)
    subst hr_3
    refine b_if_eq (tgt := 31) hx hb dX9_isIn_24 (by decide)  (fun c_4 => ?_) (fun c_4 => ?_)
    · refine lv_iconst (v := nI 0) hx hb dX9_isIn_31 (by decide) ?_
      have eT_5 : k_ask M (nI b1) (nI t1) (nI k1) = k_ask M ((nI b1)) ((nI t1)) ((nI k1)) := by simp [ca, cb, kb19, kt19, kk19, c_4]
      exact W.zret (v := nI 0) hx hb hr rfl (fun U9 ht hW => ⟨⟨_, (), rfl, bi_zero (by first | (simp [r_isIn, m_at, ca, cb, kb19, kt19, kk19, c_4]; done) | (simp only [r_isIn, ca, Bool.false_and])), by show va_P D vwCl _ U9.heap; rw [ht, eT_5]; exact hP⟩, hS.F ht⟩) hS.2.2 dX9_isIn_32
    · refine lv_iconst (v := nI 1) hx hb dX9_isIn_27 (by decide) ?_
      refine lv_goto (tgt := 32) hx hb dX9_isIn_28 (by decide) ?_
      have eT_6 : k_ask M (nI b1) (nI t1) (nI k1) = k_ask M ((nI b1)) ((nI t1)) ((nI k1)) := by simp [ca, cb, kb19, kt19, kk19, c_4]
      exact W.zret (v := nI 1) hx hb hr rfl (fun U9 ht hW => ⟨⟨_, (), rfl, bi_one (by first | (simp [r_isIn, m_at, ca, cb, kb19, kt19, kk19, c_4]; done) | (simp only [r_isIn, ca, Bool.false_and])), by show va_P D vwCl _ U9.heap; rw [ht, eT_6]; exact hP⟩, hS.F ht⟩) hS.2.2 dX9_isIn_32
set_option maxHeartbeats 4000000 in
set_option maxRecDepth 100000 in
theorem c9_score (l : Launch) (D : va_G) (ad : Nat → Nat) (cI cZ cC : ClassId) (th : Nat) (M : MS) (hM : MI M) {A : Nat → Prop} (hD : mDis A ad) (b : Int32) (t : Int32) (k : Int32) : Met l yX9_score wsX9_score ({ frames := 4, cells := 0, slots := 0, locals := 88 }) (va_Pc [.ref (ad 0), .int b, .int t, .int k] (mB D ad cI cZ cC th M)) (va_Qi (fun (r : Int32) (_ : Unit) => r = r_score M b t k) (fun _ U9 => va_P D vwCl (mws ad cI cZ cC (k_ask M b t k) M) U9.heap) A) 0 0 A := by
  refine Met.ofW (cc := cX9_score) (maxL := 5) (ret := (some .int)) (by decide) rfl ?_
  intro p e s m args below meth c s₁ B hml hv
  obtain ⟨rfl, hP, hK⟩ := hv
  have hx := B.exec
  have hb := B.bytes
  have hr := B.returns
  have hts := atoms_spec (ws := wsX9_score) B.pre
  have hown : s.vm.findClass RX9 = some m.cls := findClass_of_methodNamed B.named
  have hlocks := B.notSynchronized
  have hS : va_S A s.heap s.heap [] := va_S.rf
  have hl := lv_entry ([.ref (ad 0), .int b, .int t, .int k]) (n := 5) (Nat.le_of_ble_eq_true rfl)
  rw [lg_entry_eq]
  generalize (lg_sl ([.ref (ad 0), .int b, .int t, .int k]) ++ List.replicate (5 - (lg_sl ([.ref (ad 0), .int b, .int t, .int k])).length) Slot.unset).toArray = ls at hl ⊢
  have hl : lv_has ls 5 [(0, .ref (ad 0)), (1, .int b), (2, .int t), (3, .int k)] := hl
  have h36 : M 3 0 ≤ 6 := hM 3 0
  have h160 : M 16 0 ≤ 60 := hM 16 0
  have h220 : M 22 0 ≤ 60 := hM 22 0
  have h290 : M 29 0 ≤ 60 := hM 29 0
  have h120 : M 1 0 ≤ 2000 := hM 1 0
  refine lv_aload_n hx hb dX9_score_0 rfl (lv_at hl 0 rfl) ?_
  refine lv_iload_n hx hb dX9_score_1 rfl (lv_at hl 1 rfl) ?_
  refine lv_iload_n hx hb dX9_score_2 rfl (lv_at hl 2 rfl) ?_
  refine lv_iload_n hx hb dX9_score_3 rfl (lv_at hl 3 rfl) ?_
  refine va_calli (va_runV (As := [.int b, .int t, .int k]) (rest := []) ⟨hx, hb, hml, hown, hts⟩ (c9_asksBid l D ad cI cZ cC th M hM hD  b t k) (cwV 3 hts gX9_score_X9_asksBid rfl rfl rfl kd_X9_asksBid ⟨Nat.le_of_ble_eq_true rfl, Nat.le_of_ble_eq_true rfl⟩) ⟨mB_blind, m_recv hK hP, m_pre hK hP _⟩ rfl rfl hl.1 rfl (lv_room (Nat.le_of_ble_eq_true rfl)) dX9_score_4 ⟨Nat.le_of_ble_eq_true rfl, Nat.le_of_ble_eq_true rfl⟩) hS (fun _ _ h => h) (fun _ h => h) (fun r_1 u U8 H1 locs1 ht hvm hr_1 hP1 hz1 hk1 hS1 => ?_)
  rw [ht] at hP1
  clear hS
  have hS := hS1
  have hP : va_P D vwCl (mws ad cI cZ cC (k_ask M b t k) M) H1 := hP1
  generalize H1 = H at hP hS ⊢
  subst hr_1
  refine b_if_ne (tgt := 12) hx hb dX9_score_7 (by decide)  (fun c_2 => ?_) (fun c_2 => ?_)
  · have ca : isIx b 8 = true := by simp only [Bool.and_eq_true] at c_2; exact c_2.1
    have cb : m_isLot M t k = true := by simp only [Bool.and_eq_true] at c_2; exact c_2.2
    obtain ⟨b1, hb1, rfl⟩ := isIx_of (by decide) ca
    have kb19 : (nI b1).toNatClampNeg = b1 := nI_clamp (by omega)
    obtain ⟨t1, k1, ht1, hk1, rfl, rfl⟩ := m_isLot_of hM cb
    have ht16 : t1 < 6 := by have f1 : M 3 0 ≤ 6 := hM 3 0; omega
    have hk13 : k1 < 3 := by have f1 : M 8 t1 ≤ 3 := hM 8 t1; omega
    have kt19 : (nI t1).toNatClampNeg = t1 := nI_clamp (by omega)
    have kk19 : (nI k1).toNatClampNeg = k1 := nI_clamp (by omega)
    refine lv_bipush (v := nI 8) hx hb dX9_score_12 (by decide) ?_
    refine lv_iconst (v := nI 3) hx hb dX9_score_14 (by decide) ?_
    refine lv_iload_n hx hb dX9_score_15 rfl (lv_at hl 2 rfl) ?_
    refine n_imul hx hb dX9_score_16 (z := 3 * t1) rfl ?_
    refine lv_iload_n hx hb dX9_score_17 rfl (lv_at hl 3 rfl) ?_
    refine n_iadd hx hb dX9_score_18 (z := (3 * t1) + k1) rfl ?_
    refine n_imul hx hb dX9_score_19 (z := 8 * ((3 * t1) + k1)) rfl ?_
    refine lv_iload_n hx hb dX9_score_20 rfl (lv_at hl 1 rfl) ?_
    refine n_iadd hx hb dX9_score_21 (z := (8 * ((3 * t1) + k1)) + b1) rfl ?_
    refine lv_istore (lv' := [(4, .int (nI ((8 * ((3 * t1) + k1)) + b1))), (0, .ref (ad 0)), (1, .int (nI b1)), (2, .int (nI t1)), (3, .int (nI k1))]) hx hb dX9_score_22 hl (by decide) rfl (fun ls hl => ?_)
    refine lv_aload_n hx hb dX9_score_24 rfl (lv_at hl 1 rfl) ?_
    refine lv_iload hx hb dX9_score_25 (lv_at hl 0 rfl) ?_
    refine vp_callSi (W.runV (As := [.int (nI ((8 * ((3 * t1) + k1)) + b1))]) (rest := []) ⟨hx, hb, hml, hown, hts⟩ (c9_takesPart l D ad cI cZ cC (k_ask M ((nI b1)) ((nI t1)) ((nI k1))) M hM  ((8 * ((3 * t1) + k1)) + b1) (by omega)) (cwV 1 hts gX9_score_X9_takesPart rfl rfl rfl kd_X9_takesPart ⟨Nat.le_of_ble_eq_true rfl, Nat.le_of_ble_eq_true rfl⟩) ⟨mB_blind, m_recv hK hP, m_pre hK hP _⟩ rfl rfl hl.1 rfl (lv_room (Nat.le_of_ble_eq_true rfl)) dX9_score_27 ⟨Nat.le_of_ble_eq_true rfl, Nat.le_of_ble_eq_true rfl⟩) (fun r_3 hr_3 => ?_)
    subst hr_3
    refine b_if_eq (tgt := 42) hx hb dX9_score_30 (by decide)  (fun c_4 => ?_) (fun c_4 => ?_)
    · refine lv_iconst (v := (-1)) hx hb dX9_score_42 (by decide) ?_
      have eT_5 : k_ask M (nI b1) (nI t1) (nI k1) = k_ask M ((nI b1)) ((nI t1)) ((nI k1)) := by simp [ca, cb, kb19, kt19, kk19, c_4]
      exact W.iret (v := (-1)) hx hb hr (fun U9 ht hW => ⟨⟨_, (), rfl, (show (-1) = r_score M (nI b1) (nI t1) (nI k1) from by first | (simp [r_score, m_at, ca, cb, kb19, kt19, kk19, c_4]; done) | (rw [r_score, if_neg (by rw [ca]; decide)])), by show va_P D vwCl _ U9.heap; rw [ht, eT_5]; exact hP⟩, hS.F ht⟩) hS.2.2 dX9_score_43
    · refine lv_aload_n hx hb dX9_score_33 rfl (lv_at hl 1 rfl) ?_
      refine lv_iload hx hb dX9_score_34 (lv_at hl 0 rfl) ?_
      refine vp_callSi (W.runV (As := [.int (nI ((8 * ((3 * t1) + k1)) + b1))]) (rest := []) ⟨hx, hb, hml, hown, hts⟩ (c9_scoreOf l D ad cI cZ cC (k_ask M ((nI b1)) ((nI t1)) ((nI k1))) M hM  ((8 * ((3 * t1) + k1)) + b1) (by omega) (by have c9 := c_4; simp only [m_tp, Bool.and_eq_true, decide_eq_true_eq] at c9; omega)) (cwV 1 hts gX9_score_X9_scoreOf rfl rfl rfl kd_X9_scoreOf ⟨Nat.le_of_ble_eq_true rfl, Nat.le_of_ble_eq_true rfl⟩) ⟨mB_blind, m_recv hK hP, m_pre hK hP _⟩ rfl rfl hl.1 rfl (lv_room (Nat.le_of_ble_eq_true rfl)) dX9_score_36 ⟨Nat.le_of_ble_eq_true rfl, Nat.le_of_ble_eq_true rfl⟩) (fun r_6 hr_6 => ?_)
      subst hr_6
      refine lv_goto (tgt := 43) hx hb dX9_score_39 (by decide) ?_
      have eT_7 : k_ask M (nI b1) (nI t1) (nI k1) = k_ask M ((nI b1)) ((nI t1)) ((nI k1)) := by simp [ca, cb, kb19, kt19, kk19, c_4]
      exact W.iret (v := nI (m_sc M ((8 * ((3 * t1) + k1)) + b1))) hx hb hr (fun U9 ht hW => ⟨⟨_, (), rfl, (show nI (m_sc M ((8 * ((3 * t1) + k1)) + b1)) = r_score M (nI b1) (nI t1) (nI k1) from by first | (simp [r_score, m_at, ca, cb, kb19, kt19, kk19, c_4]; done) | (rw [r_score, if_neg (by rw [ca]; decide)])), by show va_P D vwCl _ U9.heap; rw [ht, eT_7]; exact hP⟩, hS.F ht⟩) hS.2.2 dX9_score_43
  · refine lv_iconst (v := nI 0) hx hb dX9_score_10 (by decide) ?_
    exact W.iret (v := nI 0) hx hb hr (fun U9 ht hW => ⟨⟨_, (), rfl, (show nI 0 = r_score M b t k from by first | (simp [r_score, m_at, c_2]; done) | (rw [r_score, if_neg (by rw [c_2]; decide)])), by show va_P D vwCl _ U9.heap; rw [ht]; exact hP⟩, hS.F ht⟩) hS.2.2 dX9_score_11
set_option maxHeartbeats 4000000 in
set_option maxRecDepth 100000 in
theorem c9_ranked (l : Launch) (D : va_G) (ad : Nat → Nat) (cI cZ cC : ClassId) (th : Nat) (M : MS) (hM : MI M) {A : Nat → Prop} (hD : mDis A ad) (t : Int32) (k : Int32) (q : Int32) : Met l yX9_ranked wsX9_ranked ({ frames := 5, cells := 0, slots := 0, locals := 118 }) (va_Pc [.ref (ad 0), .int t, .int k, .int q] (mB D ad cI cZ cC th M)) (va_Qi (fun (r : Int32) (_ : Unit) => r = r_ranked M t k q) (fun _ U9 => va_P D vwCl (mws ad cI cZ cC (k_ranked M t k q) M) U9.heap) A) 0 0 A := by
  refine Met.ofW (cc := cX9_ranked) (maxL := 4) (ret := (some .int)) (by decide) rfl ?_
  intro p e s m args below meth c s₁ B hml hv
  obtain ⟨rfl, hP, hK⟩ := hv
  have hx := B.exec
  have hb := B.bytes
  have hr := B.returns
  have hts := atoms_spec (ws := wsX9_ranked) B.pre
  have hown : s.vm.findClass RX9 = some m.cls := findClass_of_methodNamed B.named
  have hlocks := B.notSynchronized
  have hin : ∀ w ∈ wsX90, w ∈ wsX9_ranked := fun w h => List.mem_cons_of_mem _ (List.mem_append_right _ h)
  have l_thrown := (hts (.fieldLink RX9 93 "TenderHallModel" "thrown" "I") (List.mem_of_getElem? (i := 1) rfl))
  have hS : va_S A s.heap s.heap [] := va_S.rf
  have hl := lv_entry ([.ref (ad 0), .int t, .int k, .int q]) (n := 4) (Nat.le_of_ble_eq_true rfl)
  rw [lg_entry_eq]
  generalize (lg_sl ([.ref (ad 0), .int t, .int k, .int q]) ++ List.replicate (4 - (lg_sl ([.ref (ad 0), .int t, .int k, .int q])).length) Slot.unset).toArray = ls at hl ⊢
  have hl : lv_has ls 4 [(0, .ref (ad 0)), (1, .int t), (2, .int k), (3, .int q)] := hl
  have h36 : M 3 0 ≤ 6 := hM 3 0
  have h160 : M 16 0 ≤ 60 := hM 16 0
  have h220 : M 22 0 ≤ 60 := hM 22 0
  have h290 : M 29 0 ≤ 60 := hM 29 0
  have h120 : M 1 0 ≤ 2000 := hM 1 0
  refine lv_aload_n hx hb dX9_ranked_0 rfl (lv_at hl 0 rfl) ?_
  refine lv_aload_n hx hb dX9_ranked_1 rfl (lv_at hl 0 rfl) ?_
  refine lv_iload_n hx hb dX9_ranked_2 rfl (lv_at hl 1 rfl) ?_
  refine lv_iload_n hx hb dX9_ranked_3 rfl (lv_at hl 2 rfl) ?_
  refine vp_callSi (W.runV (As := [.int t, .int k]) (rest := [.ref (ad 0)]) ⟨hx, hb, hml, hown, hts⟩ (c9_isLot l D ad cI cZ cC th M hM  t k) (cwV 2 hts gX9_ranked_X9_isLot rfl rfl rfl kd_X9_isLot ⟨Nat.le_of_ble_eq_true rfl, Nat.le_of_ble_eq_true rfl⟩) ⟨mB_blind, m_recv hK hP, m_pre hK hP _⟩ rfl rfl hl.1 rfl (lv_room (Nat.le_of_ble_eq_true rfl)) dX9_ranked_4 ⟨Nat.le_of_ble_eq_true rfl, Nat.le_of_ble_eq_true rfl⟩) (fun r_1 hr_1 => ?_)
  subst hr_1
  refine b_if_ne (tgt := 14) hx hb dX9_ranked_7 (by decide)  (fun c_2 => ?_) (fun c_2 => ?_)
  · obtain ⟨t1, k1, ht1, hk1, rfl, rfl⟩ := m_isLot_of hM c_2
    have ht16 : t1 < 6 := by have f1 : M 3 0 ≤ 6 := hM 3 0; omega
    have hk13 : k1 < 3 := by have f1 : M 8 t1 ≤ 3 := hM 8 t1; omega
    have kt19 : (nI t1).toNatClampNeg = t1 := nI_clamp (by omega)
    have kk19 : (nI k1).toNatClampNeg = k1 := nI_clamp (by omega)
    refine lv_iload_n hx hb dX9_ranked_14 rfl (lv_at hl 3 rfl) ?_
    refine lv_if_ge (tgt := 22) hx hb dX9_ranked_15 (by decide)  (fun c_3 => ?_) (fun c_3 => ?_)
    · obtain ⟨q1, hq1, rfl⟩ := n_ge0 c_3
      have kq9 : (nI q1).toNatClampNeg = q1 := nI_clamp hq1
      refine lv_iconst (v := nI 0) hx hb dX9_ranked_22 (by decide) ?_
      refine m_putT hx hb hts hin hown hK hP hD hS l_thrown dX9_ranked_23 (fun H locs hP hS => ?_)
      refine lv_aload_n hx hb dX9_ranked_26 rfl (lv_at hl 0 rfl) ?_
      refine m_get (v := .int (nI 0)) hx hb hts hin hown hK hP 0 (by decide) l_thrown rfl dX9_ranked_27 ?_
      refine n_if_le (tgt := 37) hx hb dX9_ranked_30 (by decide) (by decide) (fun _ => ?_) (fun c9 => absurd c9 (by decide))
      refine lv_aload_n hx hb dX9_ranked_37 rfl (lv_at hl 0 rfl) ?_
      refine lv_iconst (v := nI 3) hx hb dX9_ranked_38 (by decide) ?_
      refine lv_iload_n hx hb dX9_ranked_39 rfl (lv_at hl 1 rfl) ?_
      refine n_imul hx hb dX9_ranked_40 (z := 3 * t1) rfl ?_
      refine lv_iload_n hx hb dX9_ranked_41 rfl (lv_at hl 2 rfl) ?_
      refine n_iadd hx hb dX9_ranked_42 (z := (3 * t1) + k1) rfl ?_
      refine lv_iload_n hx hb dX9_ranked_43 rfl (lv_at hl 3 rfl) ?_
      refine vp_callSi (W.runV (As := [.int (nI ((3 * t1) + k1)), .int (nI q1)]) (rest := []) ⟨hx, hb, hml, hown, hts⟩ (c9_rankedAt l D ad cI cZ cC 0 M hM  ((3 * t1) + k1) q1 (by omega) (by omega)) (cwV 2 hts gX9_ranked_X9_rankedAt rfl rfl rfl kd_X9_rankedAt ⟨Nat.le_of_ble_eq_true rfl, Nat.le_of_ble_eq_true rfl⟩) ⟨mB_blind, m_recv hK hP, m_pre hK hP _⟩ rfl rfl hl.1 rfl (lv_room (Nat.le_of_ble_eq_true rfl)) dX9_ranked_44 ⟨Nat.le_of_ble_eq_true rfl, Nat.le_of_ble_eq_true rfl⟩) (fun r_4 hr_4 => ?_)
      subst hr_4
      rcases ho_5 : m_rk M ((3 * t1) + k1) q1 with _ | o_5
      · have hn1 : optI (none : Option Nat) = (-1) := rfl
        rw [hn1]
        have eT_6 : k_ranked M (nI t1) (nI k1) (nI q1) = 0 := by simp [k_ranked, c_2, kt19, kk19, c_3, kq9, ho_5]
        exact W.iret (v := (-1)) hx hb hr (fun U9 ht hW => ⟨⟨_, (), rfl, (show (-1) = r_ranked M (nI t1) (nI k1) (nI q1) from by simp [r_ranked, m_lt, optI, k_ranked, c_2, kt19, kk19, c_3, kq9, ho_5]), by show va_P D vwCl _ U9.heap; rw [ht, eT_6]; exact hP⟩, hS.F ht⟩) hS.2.2 dX9_ranked_47
      · have hn1 : optI (some o_5) = nI o_5 := rfl
        rw [hn1]
        have eT_7 : k_ranked M (nI t1) (nI k1) (nI q1) = 0 := by simp [k_ranked, c_2, kt19, kk19, c_3, kq9, ho_5]
        exact W.iret (v := nI o_5) hx hb hr (fun U9 ht hW => ⟨⟨_, (), rfl, (show nI o_5 = r_ranked M (nI t1) (nI k1) (nI q1) from by simp [r_ranked, m_lt, optI, k_ranked, c_2, kt19, kk19, c_3, kq9, ho_5]), by show va_P D vwCl _ U9.heap; rw [ht, eT_7]; exact hP⟩, hS.F ht⟩) hS.2.2 dX9_ranked_47
    · refine lv_iconst (v := nI 2) hx hb dX9_ranked_18 (by decide) ?_
      refine lv_goto (tgt := 23) hx hb dX9_ranked_19 (by decide) ?_
      refine m_putT hx hb hts hin hown hK hP hD hS l_thrown dX9_ranked_23 (fun H locs hP hS => ?_)
      refine lv_aload_n hx hb dX9_ranked_26 rfl (lv_at hl 0 rfl) ?_
      refine m_get (v := .int (nI 2)) hx hb hts hin hown hK hP 0 (by decide) l_thrown rfl dX9_ranked_27 ?_
      refine n_if_le (tgt := 37) hx hb dX9_ranked_30 (by decide) (by decide) (fun c9 => absurd c9 (by decide)) (fun _ => ?_)
      refine lv_iconst (v := nI 0) hx hb dX9_ranked_33 (by decide) ?_
      refine lv_goto (tgt := 47) hx hb dX9_ranked_34 (by decide) ?_
      have eT_8 : k_ranked M (nI t1) (nI k1) q = 2 := by simp [k_ranked, c_2, kt19, kk19, c_3]
      exact W.iret (v := nI 0) hx hb hr (fun U9 ht hW => ⟨⟨_, (), rfl, (show nI 0 = r_ranked M (nI t1) (nI k1) q from by simp [r_ranked, m_lt, optI, k_ranked, c_2, kt19, kk19, c_3]), by show va_P D vwCl _ U9.heap; rw [ht, eT_8]; exact hP⟩, hS.F ht⟩) hS.2.2 dX9_ranked_47
  · refine lv_iconst (v := nI 1) hx hb dX9_ranked_10 (by decide) ?_
    refine lv_goto (tgt := 23) hx hb dX9_ranked_11 (by decide) ?_
    refine m_putT hx hb hts hin hown hK hP hD hS l_thrown dX9_ranked_23 (fun H locs hP hS => ?_)
    refine lv_aload_n hx hb dX9_ranked_26 rfl (lv_at hl 0 rfl) ?_
    refine m_get (v := .int (nI 1)) hx hb hts hin hown hK hP 0 (by decide) l_thrown rfl dX9_ranked_27 ?_
    refine n_if_le (tgt := 37) hx hb dX9_ranked_30 (by decide) (by decide) (fun c9 => absurd c9 (by decide)) (fun _ => ?_)
    refine lv_iconst (v := nI 0) hx hb dX9_ranked_33 (by decide) ?_
    refine lv_goto (tgt := 47) hx hb dX9_ranked_34 (by decide) ?_
    have eT_9 : k_ranked M t k q = 1 := by simp [k_ranked, c_2]
    exact W.iret (v := nI 0) hx hb hr (fun U9 ht hW => ⟨⟨_, (), rfl, (show nI 0 = r_ranked M t k q from by simp [r_ranked, m_lt, optI, k_ranked, c_2]), by show va_P D vwCl _ U9.heap; rw [ht, eT_9]; exact hP⟩, hS.F ht⟩) hS.2.2 dX9_ranked_47
