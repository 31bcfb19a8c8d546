set_option maxHeartbeats 4000000 in
set_option maxRecDepth 100000 in
theorem c9_hasPapers (l : Launch) (D : va_G) (ad : Nat → Nat) (cI cZ cC : ClassId) (th : Nat) (M : MS) (hM : MI M) (b : Nat) (t : Nat) (hb9 : b < 8) (ht : t < 6) : Met l yX9_hasPapers wsX9_hasPapers ({ frames := 0, cells := 0, slots := 0, locals := 0 }) (va_Pc [.ref (ad 0), .int (nI b), .int (nI t)] (mB D ad cI cZ cC th M)) (vp_Si (fun r => r = bi (m_hp M b t 6))) 0 0 (fun _ => False) := by
  refine Met.ofW (cc := cX9_hasPapers) (maxL := 5) (ret := (some .boolean)) (by decide) rfl ?_
  intro p e s m args below meth c s₁ B hml hv
  obtain ⟨rfl, hP, hK⟩ := hv
  have hx := B.exec
  have hb := B.bytes
  have hr := B.returns
  have hts := atoms_spec (ws := wsX9_hasPapers) B.pre
  have hown : s.vm.findClass RX9 = some m.cls := findClass_of_methodNamed B.named
  have hlocks := B.notSynchronized
  have hin : ∀ w ∈ wsX90, w ∈ wsX9_hasPapers := fun w h => List.mem_cons_of_mem _ (List.mem_append_right _ h)
  have l_papers := (hts (.fieldLink RX9 16 "TenderHallModel" "papers" "[I") (List.mem_of_getElem? (i := 1) rfl))
  have l_until := (hts (.fieldLink RX9 7 "TenderHallModel" "until" "[I") (List.mem_of_getElem? (i := 2) rfl))
  have l_closing := (hts (.fieldLink RX9 13 "TenderHallModel" "closing" "[I") (List.mem_of_getElem? (i := 3) rfl))
  have hl := lv_entry ([.ref (ad 0), .int (nI b), .int (nI t)]) (n := 5) (Nat.le_of_ble_eq_true rfl)
  rw [lg_entry_eq]
  generalize (lg_sl ([.ref (ad 0), .int (nI b), .int (nI t)]) ++ List.replicate (5 - (lg_sl ([.ref (ad 0), .int (nI b), .int (nI t)])).length) Slot.unset).toArray = ls at hl ⊢
  have hl : lv_has ls 5 [(0, .ref (ad 0)), (1, .int (nI b)), (2, .int (nI t))] := hl
  refine lv_iconst (v := nI 1) hx hb dX9_hasPapers_0 (by decide) ?_
  refine lv_istore_n (lv' := [(3, .int (nI 1)), (0, .ref (ad 0)), (1, .int (nI b)), (2, .int (nI t))]) hx hb dX9_hasPapers_1 rfl hl (by decide) rfl (fun ls hl => ?_)
  refine lv_iconst (v := nI 0) hx hb dX9_hasPapers_2 (by decide) ?_
  refine lv_istore (lv' := [(4, .int (nI 0)), (3, .int (nI 1)), (0, .ref (ad 0)), (1, .int (nI b)), (2, .int (nI t))]) hx hb dX9_hasPapers_3 hl (by decide) rfl (fun ls hl => ?_)
  refine w_loop (e := 6) (nL := 5) (fun k => [(0, .ref (ad 0)), (1, .int (nI b)), (2, .int (nI t)), (4, .int (nI k)), (3, .int (bi (m_hp M b t k)))]) (fun k hb_2 ih_1 ls hl => ?_) 0 (by omega) ls (lv_sub hl [2, 3, 4, 0, 1] rfl)
  refine lv_iload hx hb dX9_hasPapers_5 (lv_at hl 3 rfl) ?_
  refine lv_bipush (v := nI 6) hx hb dX9_hasPapers_7 (by decide) ?_
  refine n_icmp_ge (tgt := 65) hx hb dX9_hasPapers_9 (by decide) (by omega) (by decide) (fun c_3 => ?_) (fun c_3 => ?_)
  · obtain rfl : 6 = k := by omega
    refine lv_iload_n hx hb dX9_hasPapers_65 rfl (lv_at hl 4 rfl) ?_
    exact W.zret (v := bi (m_hp M b t 6)) hx hb hr (bi_nar _) (fun U9 ht hW => ⟨_, rfl, rfl, ht⟩) (fun _ h => by cases h) dX9_hasPapers_66
  · refine lv_iload_n hx hb dX9_hasPapers_12 rfl (lv_at hl 4 rfl) ?_
    refine b_if_eq (tgt := 57) hx hb dX9_hasPapers_13 (by decide)  (fun c_4 => ?_) (fun c_4 => ?_)
    · refine lv_iconst (v := nI 0) hx hb dX9_hasPapers_57 (by decide) ?_
      refine lv_istore_n (lv' := [(3, .int (nI 0)), (0, .ref (ad 0)), (1, .int (nI b)), (2, .int (nI t)), (4, .int (nI k))]) hx hb dX9_hasPapers_58 rfl hl (by decide) rfl (fun ls hl => ?_)
      refine n_iinc (k := 4) (lv' := [(4, .int (nI (k + 1))), (3, .int (nI 0)), (0, .ref (ad 0)), (1, .int (nI b)), (2, .int (nI t))]) hx hb dX9_hasPapers_59 hl rfl (by decide) rfl (fun ls hl => ?_)
      refine lv_goto (tgt := 5) hx hb dX9_hasPapers_62 (by decide) ?_
      have e_5 : m_hp M b t (k + 1) = false := by first | (simp [m_hp, c_3, c_4]; done) | (simp [m_hp, c_3, c_4]; omega)
      refine ih_1 (by omega) ls ?_
      show lv_has ls 5 [(0, .ref (ad 0)), (1, .int (nI b)), (2, .int (nI t)), (4, .int (nI (k + 1))), (3, .int (bi (m_hp M b t (k + 1))))]
      rw [e_5]
      exact lv_sub hl [2, 3, 4, 0, 1] rfl
    · refine lv_aload_n hx hb dX9_hasPapers_16 rfl (lv_at hl 0 rfl) ?_
      refine m_get hx hb hts hin hown hK hP 5 (by decide) l_papers rfl dX9_hasPapers_17 ?_
      refine lv_iload_n hx hb dX9_hasPapers_20 rfl (lv_at hl 2 rfl) ?_
      refine m_iald (f := 5) hx hb hK hP 3 rfl (by omega) (by decide) dX9_hasPapers_21 ?_
      refine lv_iload hx hb dX9_hasPapers_22 (lv_at hl 3 rfl) ?_
      refine lv_ishr hx hb dX9_hasPapers_24 ?_
      rw [show (nI (M 5 t)) >>> ((nI k) &&& 31) = nI (M 5 t / 2 ^ k) from (n_shr (by have f1 : M 5 t ≤ 63 := hM 5 t; omega) (by omega))]
      refine lv_iconst (v := nI 1) hx hb dX9_hasPapers_25 (by decide) ?_
      refine lv_iand hx hb dX9_hasPapers_26 ?_
      rw [show (nI (M 5 t / 2 ^ k)) &&& (nI 1) = nI (M 5 t / 2 ^ k % 2) from (n_and1 (n_div2k (by have f1 : M 5 t ≤ 63 := hM 5 t; omega)))]
      refine n_if_eq (tgt := 53) hx hb dX9_hasPapers_27 (by decide) (by have f1 := (Nat.mod_lt (M 5 t / 2 ^ k) (show 2 > 0 by decide)); omega) (fun c_6 => ?_) (fun c_6 => ?_)
      · refine lv_iconst (v := nI 1) hx hb dX9_hasPapers_53 (by decide) ?_
        refine lv_goto (tgt := 58) hx hb dX9_hasPapers_54 (by decide) ?_
        refine lv_istore_n (lv' := [(3, .int (nI 1)), (0, .ref (ad 0)), (1, .int (nI b)), (2, .int (nI t)), (4, .int (nI k))]) hx hb dX9_hasPapers_58 rfl hl (by decide) rfl (fun ls hl => ?_)
        refine n_iinc (k := 4) (lv' := [(4, .int (nI (k + 1))), (3, .int (nI 1)), (0, .ref (ad 0)), (1, .int (nI b)), (2, .int (nI t))]) hx hb dX9_hasPapers_59 hl rfl (by decide) rfl (fun ls hl => ?_)
        refine lv_goto (tgt := 5) hx hb dX9_hasPapers_62 (by decide) ?_
        have e_7 : m_hp M b t (k + 1) = true := by first | (simp [m_hp, c_3, c_4, c_6]; done) | (simp [m_hp, c_3, c_4, c_6]; omega)
        refine ih_1 (by omega) ls ?_
        show lv_has ls 5 [(0, .ref (ad 0)), (1, .int (nI b)), (2, .int (nI t)), (4, .int (nI (k + 1))), (3, .int (bi (m_hp M b t (k + 1))))]
        rw [e_7]
        exact lv_sub hl [2, 3, 4, 0, 1] rfl
      · refine lv_aload_n hx hb dX9_hasPapers_30 rfl (lv_at hl 0 rfl) ?_
        refine m_get hx hb hts hin hown hK hP 2 (by decide) l_until rfl dX9_hasPapers_31 ?_
        refine lv_bipush (v := nI 6) hx hb dX9_hasPapers_34 (by decide) ?_
        refine lv_iload_n hx hb dX9_hasPapers_36 rfl (lv_at hl 1 rfl) ?_
        refine n_imul hx hb dX9_hasPapers_37 (z := 6 * b) rfl ?_
        refine lv_iload hx hb dX9_hasPapers_38 (lv_at hl 3 rfl) ?_
        refine n_iadd hx hb dX9_hasPapers_40 (z := (6 * b) + k) rfl ?_
        refine m_iald (f := 2) hx hb hK hP 1 rfl (by omega) (by decide) dX9_hasPapers_41 ?_
        refine lv_iconst (v := nI 1) hx hb dX9_hasPapers_42 (by decide) ?_
        refine lv_isub hx hb dX9_hasPapers_43 ?_
        refine lv_aload_n hx hb dX9_hasPapers_44 rfl (lv_at hl 0 rfl) ?_
        refine m_get hx hb hts hin hown hK hP 4 (by decide) l_closing rfl dX9_hasPapers_45 ?_
        refine lv_iload_n hx hb dX9_hasPapers_48 rfl (lv_at hl 2 rfl) ?_
        refine m_iald (f := 4) hx hb hK hP 2 rfl (by omega) (by decide) dX9_hasPapers_49 ?_
        refine lv_icmp_lt (tgt := 57) hx hb dX9_hasPapers_50 (by decide)  (fun c_8 => ?_) (fun c_8 => ?_)
        · have cc_9 : M 2 (6 * b + k) ≤ M 4 t := (n_sub1_lt (by have f1 : M 2 (6 * b + k) ≤ 2001 := hM 2 _; omega) (by have f1 : M 4 t ≤ 1000 := hM 4 t; omega)).mp c_8
          refine lv_iconst (v := nI 0) hx hb dX9_hasPapers_57 (by decide) ?_
          refine lv_istore_n (lv' := [(3, .int (nI 0)), (0, .ref (ad 0)), (1, .int (nI b)), (2, .int (nI t)), (4, .int (nI k))]) hx hb dX9_hasPapers_58 rfl hl (by decide) rfl (fun ls hl => ?_)
          refine n_iinc (k := 4) (lv' := [(4, .int (nI (k + 1))), (3, .int (nI 0)), (0, .ref (ad 0)), (1, .int (nI b)), (2, .int (nI t))]) hx hb dX9_hasPapers_59 hl rfl (by decide) rfl (fun ls hl => ?_)
          refine lv_goto (tgt := 5) hx hb dX9_hasPapers_62 (by decide) ?_
          have e_10 : m_hp M b t (k + 1) = false := by first | (simp [m_hp, c_3, c_4, c_6, cc_9]; done) | (simp [m_hp, c_3, c_4, c_6, cc_9]; omega)
          refine ih_1 (by omega) ls ?_
          show lv_has ls 5 [(0, .ref (ad 0)), (1, .int (nI b)), (2, .int (nI t)), (4, .int (nI (k + 1))), (3, .int (bi (m_hp M b t (k + 1))))]
          rw [e_10]
          exact lv_sub hl [2, 3, 4, 0, 1] rfl
        · have cc_11 : M 4 t < M 2 (6 * b + k) := Nat.not_le.mp fun q9 => c_8 ((n_sub1_lt (by have f1 : M 2 (6 * b + k) ≤ 2001 := hM 2 _; omega) (by have f1 : M 4 t ≤ 1000 := hM 4 t; omega)).mpr q9)
          refine lv_iconst (v := nI 1) hx hb dX9_hasPapers_53 (by decide) ?_
          refine lv_goto (tgt := 58) hx hb dX9_hasPapers_54 (by decide) ?_
          refine lv_istore_n (lv' := [(3, .int (nI 1)), (0, .ref (ad 0)), (1, .int (nI b)), (2, .int (nI t)), (4, .int (nI k))]) hx hb dX9_hasPapers_58 rfl hl (by decide) rfl (fun ls hl => ?_)
          refine n_iinc (k := 4) (lv' := [(4, .int (nI (k + 1))), (3, .int (nI 1)), (0, .ref (ad 0)), (1, .int (nI b)), (2, .int (nI t))]) hx hb dX9_hasPapers_59 hl rfl (by decide) rfl (fun ls hl => ?_)
          refine lv_goto (tgt := 5) hx hb dX9_hasPapers_62 (by decide) ?_
          have e_12 : m_hp M b t (k + 1) = true := by first | (simp [m_hp, c_3, c_4, c_6, cc_11]; done) | (simp [m_hp, c_3, c_4, c_6, cc_11]; omega)
          refine ih_1 (by omega) ls ?_
          show lv_has ls 5 [(0, .ref (ad 0)), (1, .int (nI b)), (2, .int (nI t)), (4, .int (nI (k + 1))), (3, .int (bi (m_hp M b t (k + 1))))]
          rw [e_12]
          exact lv_sub hl [2, 3, 4, 0, 1] rfl
set_option maxHeartbeats 4000000 in
set_option maxRecDepth 100000 in
theorem c9_opens (l : Launch) (D : va_G) (ad : Nat → Nat) (cI cZ cC : ClassId) (th : Nat) (M : MS) (hM : MI M) {A : Nat → Prop} (hD : mDis A ad) (t : Nat) (ht : t < 6) : Met l yX9_opens wsX9_opens ({ frames := 1, cells := 0, slots := 0, locals := 24 }) (va_Pc [.ref (ad 0), .int (nI t)] (mB D ad cI cZ cC th M)) (va_Qv (fun (_ : Unit) => True) (fun _ U9 => va_P D vwCl (mws ad cI cZ cC th (m_opl M t (M 8 t))) U9.heap) A) 0 0 A := by
  refine Met.ofW (cc := cX9_opens) (maxL := 4) (ret := none) (by decide) rfl ?_
  intro p e s m args below meth c s₁ B hml hv
  obtain ⟨rfl, hP, hK⟩ := hv
  have hx := B.exec
  have hb := B.bytes
  have hr := B.returns
  have hts := atoms_spec (ws := wsX9_opens) B.pre
  have hown : s.vm.findClass RX9 = some m.cls := findClass_of_methodNamed B.named
  have hlocks := B.notSynchronized
  have hin : ∀ w ∈ wsX90, w ∈ wsX9_opens := fun w h => List.mem_cons_of_mem _ (List.mem_append_right _ h)
  have l_lots := (hts (.fieldLink RX9 25 "TenderHallModel" "lots" "[I") (List.mem_of_getElem? (i := 1) rfl))
  have l_lacks := (hts (.fieldLink RX9 40 "TenderHallModel" "lacks" "[Z") (List.mem_of_getElem? (i := 2) rfl))
  have hS : va_S A s.heap s.heap [] := va_S.rf
  have hl := lv_entry ([.ref (ad 0), .int (nI t)]) (n := 4) (Nat.le_of_ble_eq_true rfl)
  rw [lg_entry_eq]
  generalize (lg_sl ([.ref (ad 0), .int (nI t)]) ++ List.replicate (4 - (lg_sl ([.ref (ad 0), .int (nI t)])).length) Slot.unset).toArray = ls at hl ⊢
  have hl : lv_has ls 4 [(0, .ref (ad 0)), (1, .int (nI t))] := hl
  have h83 : M 8 t ≤ 3 := hM 8 t
  refine lv_iconst (v := nI 0) hx hb dX9_opens_0 (by decide) ?_
  refine lv_istore_n (lv' := [(2, .int (nI 0)), (0, .ref (ad 0)), (1, .int (nI t))]) hx hb dX9_opens_1 rfl hl (by decide) rfl (fun ls hl => ?_)
  refine m_loop (D := D) (ad := ad) (cI := cI) (cZ := cZ) (cC := cC) (th := th) (A := A) (e := M 8 t) (nL := 4) (fun k => [(0, .ref (ad 0)), (1, .int (nI t)), (2, .int (nI k))]) (fun k => m_opl M t k) (fun k hb_2 ih_1 H locs ls hP hS hl => ?_) 0 (by omega) _ _ ls hP hS (lv_sub hl [1, 2, 0] rfl)
  have e8 : m_opl M t k 8 t = M 8 t := by rw [m_opl_8 _ _ (by decide)]
  refine lv_iload_n hx hb dX9_opens_2 rfl (lv_at hl 2 rfl) ?_
  refine lv_aload_n hx hb dX9_opens_3 rfl (lv_at hl 0 rfl) ?_
  refine m_get hx hb hts hin hown hK hP 8 (by decide) l_lots rfl dX9_opens_4 ?_
  refine lv_iload_n hx hb dX9_opens_7 rfl (lv_at hl 1 rfl) ?_
  refine m_iald (f := 8) hx hb hK hP 6 rfl (by omega) (by decide) dX9_opens_8 ?_
  refine n_icmp_ge (tgt := 61) hx hb dX9_opens_9 (by decide) (by omega) (by have f1 : (m_opl M t k) 8 t ≤ 3 := (MI_opl hM t k) 8 t; omega) (fun c_3 => ?_) (fun c_3 => ?_)
  · obtain rfl : M 8 t = k := by omega
    exact W.vret hx hb hr (fun U9 ht hW => ⟨⟨(), rfl, trivial, by show va_P D vwCl _ U9.heap; rw [ht]; exact hP⟩, hS.F ht⟩) hS.2.2 dX9_opens_61
  · refine lv_iconst (v := nI 0) hx hb dX9_opens_12 (by decide) ?_
    refine lv_istore_n (lv' := [(3, .int (nI 0)), (0, .ref (ad 0)), (1, .int (nI t)), (2, .int (nI k))]) hx hb dX9_opens_13 rfl hl (by decide) rfl (fun ls hl => ?_)
    refine m_loop (D := D) (ad := ad) (cI := cI) (cZ := cZ) (cC := cC) (th := th) (A := A) (e := 8) (nL := 4) (fun b => [(0, .ref (ad 0)), (1, .int (nI t)), (2, .int (nI k)), (3, .int (nI b))]) (fun b => m_opb (m_opl M t k) t k b) (fun b hb_5 ih_4 H locs ls hP hS hl => ?_) 0 (by omega) _ _ ls hP hS (lv_sub hl [1, 2, 3, 0] rfl)
    refine lv_iload_n hx hb dX9_opens_14 rfl (lv_at hl 3 rfl) ?_
    refine lv_bipush (v := nI 8) hx hb dX9_opens_15 (by decide) ?_
    refine n_icmp_ge (tgt := 55) hx hb dX9_opens_17 (by decide) (by omega) (by decide) (fun c_6 => ?_) (fun c_6 => ?_)
    · obtain rfl : 8 = b := by omega
      refine n_iinc (k := 2) (lv' := [(2, .int (nI (k + 1))), (0, .ref (ad 0)), (1, .int (nI t)), (3, .int (nI 8))]) hx hb dX9_opens_55 hl rfl (by decide) rfl (fun ls hl => ?_)
      refine lv_goto (tgt := 2) hx hb dX9_opens_58 (by decide) ?_
      have eM_7 : m_opl M t (k + 1) = m_opb (m_opl M t k) t k 8 := by rfl
      refine ih_1 (by omega) _ _ ls (by rw [eM_7]; exact hP) hS ?_
      show lv_has ls 4 [(0, .ref (ad 0)), (1, .int (nI t)), (2, .int (nI (k + 1)))]
      exact lv_sub hl [1, 2, 0] rfl
    · refine lv_aload_n hx hb dX9_opens_20 rfl (lv_at hl 0 rfl) ?_
      refine m_get hx hb hts hin hown hK hP 13 (by decide) l_lacks rfl dX9_opens_21 ?_
      refine lv_bipush (v := nI 8) hx hb dX9_opens_24 (by decide) ?_
      refine lv_iconst (v := nI 3) hx hb dX9_opens_26 (by decide) ?_
      refine lv_iload_n hx hb dX9_opens_27 rfl (lv_at hl 1 rfl) ?_
      refine n_imul hx hb dX9_opens_28 (z := 3 * t) rfl ?_
      refine lv_iload_n hx hb dX9_opens_29 rfl (lv_at hl 2 rfl) ?_
      refine n_iadd hx hb dX9_opens_30 (z := (3 * t) + k) rfl ?_
      refine n_imul hx hb dX9_opens_31 (z := 8 * ((3 * t) + k)) rfl ?_
      refine lv_iload_n hx hb dX9_opens_32 rfl (lv_at hl 3 rfl) ?_
      refine n_iadd hx hb dX9_opens_33 (z := (8 * ((3 * t) + k)) + b) rfl ?_
      refine lv_aload_n hx hb dX9_opens_34 rfl (lv_at hl 0 rfl) ?_
      refine lv_iload_n hx hb dX9_opens_35 rfl (lv_at hl 3 rfl) ?_
      refine lv_iload_n hx hb dX9_opens_36 rfl (lv_at hl 1 rfl) ?_
      refine vp_callSi (W.runV (As := [.int (nI b), .int (nI t)]) (rest := [.int (nI ((8 * ((3 * t) + k)) + b)), .ref (ad 13)]) ⟨hx, hb, hml, hown, hts⟩ (c9_hasPapers l D ad cI cZ cC th (m_opb (m_opl M t k) t k b) (MI_opb (MI_opl hM t k) t k b)  b t (by omega) (by omega)) (cwV 2 hts gX9_opens_X9_hasPapers rfl rfl rfl kd_X9_hasPapers ⟨Nat.le_of_ble_eq_true rfl, Nat.le_of_ble_eq_true rfl⟩) ⟨mB_blind, m_recv hK hP, m_pre hK hP _⟩ rfl rfl hl.1 rfl (lv_room (Nat.le_of_ble_eq_true rfl)) dX9_opens_37 ⟨Nat.le_of_ble_eq_true rfl, Nat.le_of_ble_eq_true rfl⟩) (fun r_8 hr_8 => ?_)
      subst hr_8
      refine b_if_ne (tgt := 47) hx hb dX9_opens_40 (by decide)  (fun c_9 => ?_) (fun c_9 => ?_)
      · refine lv_iconst (v := nI 0) hx hb dX9_opens_47 (by decide) ?_
        refine m_zast (f := 13) (v := 0) hx hb hK hP hD hS 11 rfl (by omega) (by decide) (by decide) (mset_13 _ _ _ _ _ _ _ _) dX9_opens_48 (fun H locs hP hS => ?_)
        refine n_iinc (k := 3) (lv' := [(3, .int (nI (b + 1))), (0, .ref (ad 0)), (1, .int (nI t)), (2, .int (nI k))]) hx hb dX9_opens_49 hl rfl (by decide) rfl (fun ls hl => ?_)
        refine lv_goto (tgt := 14) hx hb dX9_opens_52 (by decide) ?_
        have eM_10 : m_opb (m_opl M t k) t k (b + 1) = mu (m_opb (m_opl M t k) t k b) 13 ((8 * ((3 * t) + k)) + b) 0 := by simp [m_opb, c_3, c_6, c_9]
        refine ih_4 (by omega) _ _ ls (by rw [eM_10]; exact hP) hS ?_
        show lv_has ls 4 [(0, .ref (ad 0)), (1, .int (nI t)), (2, .int (nI k)), (3, .int (nI (b + 1)))]
        exact lv_sub hl [1, 2, 3, 0] rfl
      · refine lv_iconst (v := nI 1) hx hb dX9_opens_43 (by decide) ?_
        refine lv_goto (tgt := 48) hx hb dX9_opens_44 (by decide) ?_
        refine m_zast (f := 13) (v := 1) hx hb hK hP hD hS 11 rfl (by omega) (by decide) (by decide) (mset_13 _ _ _ _ _ _ _ _) dX9_opens_48 (fun H locs hP hS => ?_)
        refine n_iinc (k := 3) (lv' := [(3, .int (nI (b + 1))), (0, .ref (ad 0)), (1, .int (nI t)), (2, .int (nI k))]) hx hb dX9_opens_49 hl rfl (by decide) rfl (fun ls hl => ?_)
        refine lv_goto (tgt := 14) hx hb dX9_opens_52 (by decide) ?_
        have eM_11 : m_opb (m_opl M t k) t k (b + 1) = mu (m_opb (m_opl M t k) t k b) 13 ((8 * ((3 * t) + k)) + b) 1 := by simp [m_opb, c_3, c_6, c_9]
        refine ih_4 (by omega) _ _ ls (by rw [eM_11]; exact hP) hS ?_
        show lv_has ls 4 [(0, .ref (ad 0)), (1, .int (nI t)), (2, .int (nI k)), (3, .int (nI (b + 1)))]
        exact lv_sub hl [1, 2, 3, 0] rfl
