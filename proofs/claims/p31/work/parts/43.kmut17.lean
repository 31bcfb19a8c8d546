/-! the class's own constructor -/
section NA
variable {p : Program} {l : Launch} {e : Env} {R : Room} {s : State} {m : MethodId} {args : Array Value} {below : List Frame} {meth : Method} {c : Code} {H H0 : Heap} {locs : List Loc} {cells slots : Nat} {Q : State → Prop}
variable {cc : ByteArray} {pc : Nat} {ls : Array Slot} {rest : List Value} {D : va_G} {A : Nat → Prop} {tys : List (ClassId × FieldType)} {ws : va_W}
theorem c_newi (hx : p.tables.exec = Jvm.exec) (hb : c.code = cc) (harr : (Cond.arrayClass .int).before args s = true) {t0 : Nat} {cI : ClassId} (hK : va_K D vwCl tys s) (ht : tys[t0]? = some (cI, .int)) (hP : va_P D vwCl ws H) (hD : va_D A ws) (hS : va_S A H0 H locs) (hA : ∀ q, H0.size ≤ q → A q)
    {n : Nat} (hn : n ≤ 1000) (hcells : cells + 1 ≤ R.cells) (hslots : slots + n ≤ R.slots) (hdg : decode cc pc = .ok (.newarray .int, 2))
    (kk : ∀ (q : Nat) (H1 : Heap), va_P D vwCl (ws ++ [(q, .inl (cI, n, .inl (fun _ => 0)))]) H1 → va_D A (ws ++ [(q, .inl (cI, n, .inl (fun _ => 0)))]) → va_S A H0 H1 locs → W p l e R s m args below meth c H1 locs (cells + 1) (slots + n) Q (F0 m (pc + 2) ls (.ref q :: rest))) : W p l e R s m args below meth c H locs cells slots Q (F0 m pc ls (.int (nI n) :: rest)) := by
  refine va_newa (atype := .int) (ty := .int) (a0 := (n, .inl (fun _ => 0))) hx hb harr rfl hK hP hD hS hA (fun cA => rfl) (nI_pos (by omega)) (nI_clamp (by omega)) (by show n * 4 ≤ _; omega) hcells hslots hdg (fun q cA H1 g0 g1 g2 g3 => ?_)
  have k1 := (g0.2 tys.length _ (by rw [List.getElem?_append_right (Nat.le_refl _), Nat.sub_self]; rfl)).2
  have k2 := (hK.2 t0 _ ht).2
  have k3 : s.vm.findClass ("[" ++ (FieldType.int).toString) = some cA := k1
  have k4 : s.vm.findClass ("[" ++ (FieldType.int).toString) = some cI := k2
  obtain rfl : cA = cI := Option.some.inj (k3.symm.trans k4)
  exact kk q H1 g1 g2 g3
end NA
def fM1 (i : Nat) : Nat → Int32 := fun j => if j < i then -1 else 0
theorem fM1_0 : fM1 0 = fun _ => 0 := by funext j; exact if_neg (Nat.not_lt_zero j)
theorem fM1_s (i : Nat) : upd (fM1 i) i (-1) = fM1 (i + 1) := by
  funext j
  unfold upd fM1
  by_cases h : j = i
  · rw [if_pos h, if_pos (by omega)]
  · rw [if_neg h]
    by_cases h2 : j < i
    · rw [if_pos h2, if_pos (by omega)]
    · rw [if_neg h2, if_neg (by omega)]
set_option maxHeartbeats 4000000 in
set_option maxRecDepth 100000 in
theorem ci_X8 (l : Launch) (D : va_G) (cI cO cb : ClassId) (eA mi : Nat) (st : Nat → Nat) {A : Nat → Prop} (ws : va_W) (hD : va_D A ws) (q : Nat) (ha : (q, .inr (9, [.null, .null, .null, .null, .null, .int (nI 0)])) ∈ ws) : Met l yX8_init wsX8_init ({ frames := 4, cells := 5, slots := 60, locals := 72 }) (va_Pc [.ref q] (cB D cI cO cb eA mi st A ws)) (va_Qv (fun _ : Nat × Nat × Nat × Nat × Nat => True) (fun u U9 => va_D A ((((((wup ws q (.inr (9, [.ref u.1, .ref u.2.1, .ref u.2.2.1, .ref u.2.2.2.1, .ref u.2.2.2.2, .int (nI 0)]))) ++ [(u.1, .inl (cI, 48, .inl (fM1 48)))]) ++ [(u.2.1, eL (nI 0) eA 0)]) ++ [(u.2.2.1, eL (nI 0) eA 0)]) ++ [(u.2.2.2.1, eL (nI 0) eA 0)]) ++ [(u.2.2.2.2, eL (nI 0) eA 0)]) ∧ va_P D vwCl ((((((wup ws q (.inr (9, [.ref u.1, .ref u.2.1, .ref u.2.2.1, .ref u.2.2.2.1, .ref u.2.2.2.2, .int (nI 0)]))) ++ [(u.1, .inl (cI, 48, .inl (fM1 48)))]) ++ [(u.2.1, eL (nI 0) eA 0)]) ++ [(u.2.2.1, eL (nI 0) eA 0)]) ++ [(u.2.2.2.1, eL (nI 0) eA 0)]) ++ [(u.2.2.2.2, eL (nI 0) eA 0)]) U9.heap) A) 5 60 A := by
  refine Met.ofW (cc := cX8_init) (maxL := 2) (ret := none) (by decide) rfl ?_
  intro p e s m args below meth c s₁ B hml hv
  obtain ⟨rfl, hP, hK, hG, hA⟩ := hv
  have hx := B.exec
  have hb := B.bytes
  have hr := B.returns
  have hts := atoms_spec (ws := wsX8_init) B.pre
  have hown : s.vm.findClass RX8 = some m.cls := findClass_of_methodNamed B.named
  have hlocks := B.notSynchronized
  have hin2 : meth.name = "<init>" := (name_of_methodNamed B.named B.method).1
  have hin_Jx4a65c : ∀ w ∈ wsJx4a65c0, w ∈ wsX8_init := fun w h => List.mem_cons_of_mem _ (List.mem_append_right _ h)
  have hin_X8 : ∀ w ∈ wsX80, w ∈ wsX8_init := fun w h => List.mem_cons_of_mem _ (List.mem_append_left _ (List.mem_append_right _ h))
  have l_9 := (hts (.fieldLink RX8 9 "TenderHall" "paperUntil" "[I") (List.mem_of_getElem? (i := 5) rfl))
  have l_16 := (hts (.fieldLink RX8 16 "TenderHall" "tenders" "Ljava/util/ArrayList;") (List.mem_of_getElem? (i := 9) rfl))
  have l_20 := (hts (.fieldLink RX8 20 "TenderHall" "awards" "Ljava/util/ArrayList;") (List.mem_of_getElem? (i := 10) rfl))
  have l_23 := (hts (.fieldLink RX8 23 "TenderHall" "complaints" "Ljava/util/ArrayList;") (List.mem_of_getElem? (i := 11) rfl))
  have l_26 := (hts (.fieldLink RX8 26 "TenderHall" "contracts" "Ljava/util/ArrayList;") (List.mem_of_getElem? (i := 12) rfl))
  have l_29 := (hts (.fieldLink RX8 29 "TenderHall" "day" "I") (List.mem_of_getElem? (i := 13) rfl))
  have hS : va_S A s.heap s.heap [] := va_S.rf
  have hD0 := hD
  have hl := lv_entry ([.ref q]) (n := 2) (Nat.le_of_ble_eq_true rfl)
  rw [lg_entry_eq]
  generalize (lg_sl ([.ref q]) ++ List.replicate (2 - (lg_sl ([.ref q])).length) Slot.unset).toArray = ls at hl ⊢
  have hl : lv_has ls 2 [(0, .ref q)] := hl
  refine lv_aload_n hx hb dX8_init_0 rfl (lv_at hl 0 rfl) ?_
  refine W.objInit hx hb hown (hts (.methodLink RX8 1 objectInit) (List.mem_of_getElem? (i := 1) rfl)) (hts (.instanceMethod objectInit) (List.mem_of_getElem? (i := 2) rfl)) (hts (.code objectInit ⟨#[0xb1]⟩ 1 none) (List.mem_of_getElem? (i := 3) rfl)) rfl (hl.1.trans hml.symm) rfl dX8_init_1 (Nat.le_of_ble_eq_true rfl) (Nat.le_of_ble_eq_true rfl) ?_
  refine lv_aload_n hx hb dX8_init_4 rfl (lv_at hl 0 rfl) ?_
  refine lv_bipush (v := nI 48) hx hb dX8_init_5 (by decide) ?_
  have hm_1 : (q, .inr (9, [.null, .null, .null, .null, .null, .int (nI 0)])) ∈ ws := ha
  refine c_newi hx hb (hts (.arrayClass .int) (List.mem_of_getElem? (i := 4) rfl)) (t0 := 0) hK rfl hP hD hS hA (n := 48) (by decide) (Nat.le_of_ble_eq_true rfl) (Nat.le_of_ble_eq_true rfl) dX8_init_7 (fun pa H hP hD hS => ?_)
  have hne_pa : q ≠ pa := w_new hD hm_1
  rw [← fM1_0] at hP hD
  have hm_2 : (q, .inr (9, [.null, .null, .null, .null, .null, .int (nI 0)])) ∈ ws ++ [(pa, .inl (cI, 48, .inl (fM1 0)))] := (List.mem_append_left _ ha)
  refine c_putF (C := RX8) (T := TX8) (N := 6) (v := .ref pa) (ty := (.array .int)) (fs2 := [.ref pa, .null, .null, .null, .null, .int (nI 0)]) hx hb hts hin_X8 tyX8 tyX8_ok nmX8 hown hK hP hD hS hm_2 rfl 0 (by decide) l_9 (fun _ h9 => h9) rfl hin2 rfl (by decide +kernel) rfl rfl (Nat.le_of_ble_eq_true rfl) rfl dX8_init_9 (fun H locs hP hD hS => ?_)
  rw [wup_snoc hne_pa] at hP hD
  refine lv_iconst (v := nI 0) hx hb dX8_init_12 (by decide) ?_
  refine lv_istore_n (lv' := [(1, .int (nI 0)), (0, .ref q)]) hx hb dX8_init_13 rfl hl (by decide) rfl (fun ls hl => ?_)
  refine w_loopX (σ := Unit) (head := 14) (n := 48) (nL := 2) (fun i _ => [(0, .ref q), (1, .int (nI i))]) (fun i _ H locs => va_D A (wup ws q (.inr (9, [.ref pa, .null, .null, .null, .null, .int (nI 0)])) ++ [(pa, .inl (cI, 48, .inl (fM1 i)))]) ∧ va_P D vwCl (wup ws q (.inr (9, [.ref pa, .null, .null, .null, .null, .int (nI 0)])) ++ [(pa, .inl (cI, 48, .inl (fM1 i)))]) H ∧ va_S A s.heap H locs) (fun _ => 1) (fun _ => 48) (fun i hb9 _ H locs hJ9 ih9 ls hl => ?_) 0 (Nat.zero_le _) () _ _ ⟨hD, hP, hS⟩ ls (lv_sub hl [1, 0] rfl)
  clear hD hP hS
  obtain ⟨hD, hP, hS⟩ := hJ9
  refine lv_iload_n hx hb dX8_init_14 rfl (lv_at hl 1 rfl) ?_
  refine lv_aload_n hx hb dX8_init_15 rfl (lv_at hl 0 rfl) ?_
  have hm_3 : (q, .inr (9, [.ref pa, .null, .null, .null, .null, .int (nI 0)])) ∈ (wup ws q (.inr (9, [.ref pa, .null, .null, .null, .null, .int (nI 0)]))) ++ [(pa, .inl (cI, 48, .inl (fM1 i)))] := (List.mem_append_left _ (wup_eq ha))
  refine c_get (C := RX8) (T := TX8) (N := 6) hx hb hts hin_X8 hown hK hP hm_3 rfl 0 (by decide) l_9 (fun _ h9 => h9) rfl dX8_init_16 ?_
  refine c_alen (n := 48) hx hb hK hP 0 (List.mem_append_right _ (List.mem_singleton.mpr rfl)) rfl rfl dX8_init_19 ?_
  refine n_icmp_ge (tgt := 36) hx hb dX8_init_20 (by decide) (by omega) (by decide) (fun c_4 => ?_) (fun c_4 => ?_)
  · rw [show i = 48 by omega] at hP hD
    refine lv_aload_n hx hb dX8_init_36 rfl (lv_at hl 0 rfl) ?_
    have hm_5 : (q, .inr (9, [.ref pa, .null, .null, .null, .null, .int (nI 0)])) ∈ (wup ws q (.inr (9, [.ref pa, .null, .null, .null, .null, .int (nI 0)]))) ++ [(pa, .inl (cI, 48, .inl (fM1 48)))] := (List.mem_append_left _ (wup_eq ha))
    refine va_new (ci := 1) (fs := [.int (nI 0), .null, .int (nI 0)]) hx hb hts hin_Jx4a65c tyJx4a65c tyJx4a65c_ok hown (hts (.classLink RX8 13 RJx4a65c) (List.mem_of_getElem? (i := 6) rfl)) (hts (.instantiable RJx4a65c 3) (List.mem_of_getElem? (i := 7) rfl)) (hts (.initialized RJx4a65c) (List.mem_of_getElem? (i := 8) rfl)) hK hP hD hS hA rfl (fun j9 h9 => by rcases j9 with _ | _ | _ | j9 <;> first | rfl | omega) (Nat.le_of_ble_eq_true rfl) (Nat.le_of_ble_eq_true rfl) dX8_init_37 (fun r1 H hP hD hS => ?_)
    have hne_r1 : q ≠ r1 := w_new hD hm_5
    refine lv_dup hx hb dX8_init_40 rfl ?_
    refine va_callv (va_runI (As := []) (rest := [.ref r1, .ref q]) ⟨hx, hb, hml, hown, hts⟩ (cl_init l D cI cO cb eA mi st (((wup ws q (.inr (9, [.ref pa, .null, .null, .null, .null, .int (nI 0)]))) ++ [(pa, .inl (cI, 48, .inl (fM1 48)))]) ++ [(r1, .inr (1, [.int (nI 0), .null, .int (nI 0)]))]) hD r1 (List.mem_append_right _ (List.mem_singleton.mpr rfl))) (cwI 0 hts ggX8_init_Jx4a65c_init_da8c8 rfl rfl rfl (hts (.initialized RJx4a65c) (List.mem_of_getElem? (i := 8) rfl)) (hts (.methodLink RX8 15 yJx4a65c_init_da8c8) (List.mem_of_getElem? (i := 14) rfl)) (hts (.instanceMethod yJx4a65c_init_da8c8) (List.mem_of_getElem? (i := 15) rfl)) rfl kd_Jx4a65c_init_da8c8 ⟨Nat.le_of_ble_eq_true rfl, Nat.le_of_ble_eq_true rfl⟩) ⟨cB_blind, cB_pre hK hG hA hS hP _⟩ rfl rfl hl.1 rfl (lv_room (Nat.le_of_ble_eq_true rfl)) dX8_init_41 ⟨Nat.le_of_ble_eq_true rfl, Nat.le_of_ble_eq_true rfl⟩) hS (fun _ _ h => h) (fun _ h => h) (fun u U8 H1 locs1 ht hvm hu hB hz1 hk1 hS1 => ?_)
    obtain ⟨hD1, hB⟩ := hB
    rw [ht] at hB
    clear hS
    have hS := hS1
    replace hP := hB
    replace hD := hD1
    generalize H1 = H at hP hS ⊢
    rw [wup_app hD] at hP hD
    have hm_6 : (q, .inr (9, [.ref pa, .null, .null, .null, .null, .int (nI 0)])) ∈ ((wup ws q (.inr (9, [.ref pa, .null, .null, .null, .null, .int (nI 0)]))) ++ [(pa, .inl (cI, 48, .inl (fM1 48)))]) ++ [(r1, eL (nI 0) eA 0)] := (List.mem_append_left _ (List.mem_append_left _ (wup_eq ha)))
    refine c_putF (C := RX8) (T := TX8) (N := 6) (v := .ref r1) (ty := (.object "java/util/ArrayList")) (fs2 := [.ref pa, .ref r1, .null, .null, .null, .int (nI 0)]) hx hb hts hin_X8 tyX8 tyX8_ok nmX8 hown hK hP hD hS hm_6 rfl 1 (by decide) l_16 (fun _ h9 => h9) rfl hin2 rfl (by decide +kernel) rfl rfl (Nat.le_of_ble_eq_true rfl) rfl dX8_init_44 (fun H locs hP hD hS => ?_)
    rw [wup_snoc hne_r1, wup_snoc hne_pa, wup_wup] at hP hD
    refine lv_aload_n hx hb dX8_init_47 rfl (lv_at hl 0 rfl) ?_
    have hm_7 : (q, .inr (9, [.ref pa, .ref r1, .null, .null, .null, .int (nI 0)])) ∈ ((wup ws q (.inr (9, [.ref pa, .ref r1, .null, .null, .null, .int (nI 0)]))) ++ [(pa, .inl (cI, 48, .inl (fM1 48)))]) ++ [(r1, eL (nI 0) eA 0)] := (List.mem_append_left _ (List.mem_append_left _ (wup_eq ha)))
    refine va_new (ci := 1) (fs := [.int (nI 0), .null, .int (nI 0)]) hx hb hts hin_Jx4a65c tyJx4a65c tyJx4a65c_ok hown (hts (.classLink RX8 13 RJx4a65c) (List.mem_of_getElem? (i := 6) rfl)) (hts (.instantiable RJx4a65c 3) (List.mem_of_getElem? (i := 7) rfl)) (hts (.initialized RJx4a65c) (List.mem_of_getElem? (i := 8) rfl)) hK hP hD hS hA rfl (fun j9 h9 => by rcases j9 with _ | _ | _ | j9 <;> first | rfl | omega) (Nat.le_of_ble_eq_true rfl) (Nat.le_of_ble_eq_true rfl) dX8_init_48 (fun r2 H hP hD hS => ?_)
    have hne_r2 : q ≠ r2 := w_new hD hm_7
    refine lv_dup hx hb dX8_init_51 rfl ?_
    refine va_callv (va_runI (As := []) (rest := [.ref r2, .ref q]) ⟨hx, hb, hml, hown, hts⟩ (cl_init l D cI cO cb eA mi st ((((wup ws q (.inr (9, [.ref pa, .ref r1, .null, .null, .null, .int (nI 0)]))) ++ [(pa, .inl (cI, 48, .inl (fM1 48)))]) ++ [(r1, eL (nI 0) eA 0)]) ++ [(r2, .inr (1, [.int (nI 0), .null, .int (nI 0)]))]) hD r2 (List.mem_append_right _ (List.mem_singleton.mpr rfl))) (cwI 0 hts ggX8_init_Jx4a65c_init_da8c8 rfl rfl rfl (hts (.initialized RJx4a65c) (List.mem_of_getElem? (i := 8) rfl)) (hts (.methodLink RX8 15 yJx4a65c_init_da8c8) (List.mem_of_getElem? (i := 14) rfl)) (hts (.instanceMethod yJx4a65c_init_da8c8) (List.mem_of_getElem? (i := 15) rfl)) rfl kd_Jx4a65c_init_da8c8 ⟨Nat.le_of_ble_eq_true rfl, Nat.le_of_ble_eq_true rfl⟩) ⟨cB_blind, cB_pre hK hG hA hS hP _⟩ rfl rfl hl.1 rfl (lv_room (Nat.le_of_ble_eq_true rfl)) dX8_init_52 ⟨Nat.le_of_ble_eq_true rfl, Nat.le_of_ble_eq_true rfl⟩) hS (fun _ _ h => h) (fun _ h => h) (fun u U8 H1 locs1 ht hvm hu hB hz1 hk1 hS1 => ?_)
    obtain ⟨hD1, hB⟩ := hB
    rw [ht] at hB
    clear hS
    have hS := hS1
    replace hP := hB
    replace hD := hD1
    generalize H1 = H at hP hS ⊢
    rw [wup_app hD] at hP hD
    have hm_8 : (q, .inr (9, [.ref pa, .ref r1, .null, .null, .null, .int (nI 0)])) ∈ (((wup ws q (.inr (9, [.ref pa, .ref r1, .null, .null, .null, .int (nI 0)]))) ++ [(pa, .inl (cI, 48, .inl (fM1 48)))]) ++ [(r1, eL (nI 0) eA 0)]) ++ [(r2, eL (nI 0) eA 0)] := (List.mem_append_left _ (List.mem_append_left _ (List.mem_append_left _ (wup_eq ha))))
    refine c_putF (C := RX8) (T := TX8) (N := 6) (v := .ref r2) (ty := (.object "java/util/ArrayList")) (fs2 := [.ref pa, .ref r1, .ref r2, .null, .null, .int (nI 0)]) hx hb hts hin_X8 tyX8 tyX8_ok nmX8 hown hK hP hD hS hm_8 rfl 2 (by decide) l_20 (fun _ h9 => h9) rfl hin2 rfl (by decide +kernel) rfl rfl (Nat.le_of_ble_eq_true rfl) rfl dX8_init_55 (fun H locs hP hD hS => ?_)
    rw [wup_snoc hne_r2, wup_snoc hne_r1, wup_snoc hne_pa, wup_wup] at hP hD
    refine lv_aload_n hx hb dX8_init_58 rfl (lv_at hl 0 rfl) ?_
    have hm_9 : (q, .inr (9, [.ref pa, .ref r1, .ref r2, .null, .null, .int (nI 0)])) ∈ (((wup ws q (.inr (9, [.ref pa, .ref r1, .ref r2, .null, .null, .int (nI 0)]))) ++ [(pa, .inl (cI, 48, .inl (fM1 48)))]) ++ [(r1, eL (nI 0) eA 0)]) ++ [(r2, eL (nI 0) eA 0)] := (List.mem_append_left _ (List.mem_append_left _ (List.mem_append_left _ (wup_eq ha))))
    refine va_new (ci := 1) (fs := [.int (nI 0), .null, .int (nI 0)]) hx hb hts hin_Jx4a65c tyJx4a65c tyJx4a65c_ok hown (hts (.classLink RX8 13 RJx4a65c) (List.mem_of_getElem? (i := 6) rfl)) (hts (.instantiable RJx4a65c 3) (List.mem_of_getElem? (i := 7) rfl)) (hts (.initialized RJx4a65c) (List.mem_of_getElem? (i := 8) rfl)) hK hP hD hS hA rfl (fun j9 h9 => by rcases j9 with _ | _ | _ | j9 <;> first | rfl | omega) (Nat.le_of_ble_eq_true rfl) (Nat.le_of_ble_eq_true rfl) dX8_init_59 (fun r3 H hP hD hS => ?_)
    have hne_r3 : q ≠ r3 := w_new hD hm_9
    refine lv_dup hx hb dX8_init_62 rfl ?_
    refine va_callv (va_runI (As := []) (rest := [.ref r3, .ref q]) ⟨hx, hb, hml, hown, hts⟩ (cl_init l D cI cO cb eA mi st (((((wup ws q (.inr (9, [.ref pa, .ref r1, .ref r2, .null, .null, .int (nI 0)]))) ++ [(pa, .inl (cI, 48, .inl (fM1 48)))]) ++ [(r1, eL (nI 0) eA 0)]) ++ [(r2, eL (nI 0) eA 0)]) ++ [(r3, .inr (1, [.int (nI 0), .null, .int (nI 0)]))]) hD r3 (List.mem_append_right _ (List.mem_singleton.mpr rfl))) (cwI 0 hts ggX8_init_Jx4a65c_init_da8c8 rfl rfl rfl (hts (.initialized RJx4a65c) (List.mem_of_getElem? (i := 8) rfl)) (hts (.methodLink RX8 15 yJx4a65c_init_da8c8) (List.mem_of_getElem? (i := 14) rfl)) (hts (.instanceMethod yJx4a65c_init_da8c8) (List.mem_of_getElem? (i := 15) rfl)) rfl kd_Jx4a65c_init_da8c8 ⟨Nat.le_of_ble_eq_true rfl, Nat.le_of_ble_eq_true rfl⟩) ⟨cB_blind, cB_pre hK hG hA hS hP _⟩ rfl rfl hl.1 rfl (lv_room (Nat.le_of_ble_eq_true rfl)) dX8_init_63 ⟨Nat.le_of_ble_eq_true rfl, Nat.le_of_ble_eq_true rfl⟩) hS (fun _ _ h => h) (fun _ h => h) (fun u U8 H1 locs1 ht hvm hu hB hz1 hk1 hS1 => ?_)
    obtain ⟨hD1, hB⟩ := hB
    rw [ht] at hB
    clear hS
    have hS := hS1
    replace hP := hB
    replace hD := hD1
    generalize H1 = H at hP hS ⊢
    rw [wup_app hD] at hP hD
    have hm_10 : (q, .inr (9, [.ref pa, .ref r1, .ref r2, .null, .null, .int (nI 0)])) ∈ ((((wup ws q (.inr (9, [.ref pa, .ref r1, .ref r2, .null, .null, .int (nI 0)]))) ++ [(pa, .inl (cI, 48, .inl (fM1 48)))]) ++ [(r1, eL (nI 0) eA 0)]) ++ [(r2, eL (nI 0) eA 0)]) ++ [(r3, eL (nI 0) eA 0)] := (List.mem_append_left _ (List.mem_append_left _ (List.mem_append_left _ (List.mem_append_left _ (wup_eq ha)))))
    refine c_putF (C := RX8) (T := TX8) (N := 6) (v := .ref r3) (ty := (.object "java/util/ArrayList")) (fs2 := [.ref pa, .ref r1, .ref r2, .ref r3, .null, .int (nI 0)]) hx hb hts hin_X8 tyX8 tyX8_ok nmX8 hown hK hP hD hS hm_10 rfl 3 (by decide) l_23 (fun _ h9 => h9) rfl hin2 rfl (by decide +kernel) rfl rfl (Nat.le_of_ble_eq_true rfl) rfl dX8_init_66 (fun H locs hP hD hS => ?_)
    rw [wup_snoc hne_r3, wup_snoc hne_r2, wup_snoc hne_r1, wup_snoc hne_pa, wup_wup] at hP hD
    refine lv_aload_n hx hb dX8_init_69 rfl (lv_at hl 0 rfl) ?_
    have hm_11 : (q, .inr (9, [.ref pa, .ref r1, .ref r2, .ref r3, .null, .int (nI 0)])) ∈ ((((wup ws q (.inr (9, [.ref pa, .ref r1, .ref r2, .ref r3, .null, .int (nI 0)]))) ++ [(pa, .inl (cI, 48, .inl (fM1 48)))]) ++ [(r1, eL (nI 0) eA 0)]) ++ [(r2, eL (nI 0) eA 0)]) ++ [(r3, eL (nI 0) eA 0)] := (List.mem_append_left _ (List.mem_append_left _ (List.mem_append_left _ (List.mem_append_left _ (wup_eq ha)))))
    refine va_new (ci := 1) (fs := [.int (nI 0), .null, .int (nI 0)]) hx hb hts hin_Jx4a65c tyJx4a65c tyJx4a65c_ok hown (hts (.classLink RX8 13 RJx4a65c) (List.mem_of_getElem? (i := 6) rfl)) (hts (.instantiable RJx4a65c 3) (List.mem_of_getElem? (i := 7) rfl)) (hts (.initialized RJx4a65c) (List.mem_of_getElem? (i := 8) rfl)) hK hP hD hS hA rfl (fun j9 h9 => by rcases j9 with _ | _ | _ | j9 <;> first | rfl | omega) (Nat.le_of_ble_eq_true rfl) (Nat.le_of_ble_eq_true rfl) dX8_init_70 (fun r4 H hP hD hS => ?_)
    have hne_r4 : q ≠ r4 := w_new hD hm_11
    refine lv_dup hx hb dX8_init_73 rfl ?_
    refine va_callv (va_runI (As := []) (rest := [.ref r4, .ref q]) ⟨hx, hb, hml, hown, hts⟩ (cl_init l D cI cO cb eA mi st ((((((wup ws q (.inr (9, [.ref pa, .ref r1, .ref r2, .ref r3, .null, .int (nI 0)]))) ++ [(pa, .inl (cI, 48, .inl (fM1 48)))]) ++ [(r1, eL (nI 0) eA 0)]) ++ [(r2, eL (nI 0) eA 0)]) ++ [(r3, eL (nI 0) eA 0)]) ++ [(r4, .inr (1, [.int (nI 0), .null, .int (nI 0)]))]) hD r4 (List.mem_append_right _ (List.mem_singleton.mpr rfl))) (cwI 0 hts ggX8_init_Jx4a65c_init_da8c8 rfl rfl rfl (hts (.initialized RJx4a65c) (List.mem_of_getElem? (i := 8) rfl)) (hts (.methodLink RX8 15 yJx4a65c_init_da8c8) (List.mem_of_getElem? (i := 14) rfl)) (hts (.instanceMethod yJx4a65c_init_da8c8) (List.mem_of_getElem? (i := 15) rfl)) rfl kd_Jx4a65c_init_da8c8 ⟨Nat.le_of_ble_eq_true rfl, Nat.le_of_ble_eq_true rfl⟩) ⟨cB_blind, cB_pre hK hG hA hS hP _⟩ rfl rfl hl.1 rfl (lv_room (Nat.le_of_ble_eq_true rfl)) dX8_init_74 ⟨Nat.le_of_ble_eq_true rfl, Nat.le_of_ble_eq_true rfl⟩) hS (fun _ _ h => h) (fun _ h => h) (fun u U8 H1 locs1 ht hvm hu hB hz1 hk1 hS1 => ?_)
    obtain ⟨hD1, hB⟩ := hB
    rw [ht] at hB
    clear hS
    have hS := hS1
    replace hP := hB
    replace hD := hD1
    generalize H1 = H at hP hS ⊢
    rw [wup_app hD] at hP hD
    have hm_12 : (q, .inr (9, [.ref pa, .ref r1, .ref r2, .ref r3, .null, .int (nI 0)])) ∈ (((((wup ws q (.inr (9, [.ref pa, .ref r1, .ref r2, .ref r3, .null, .int (nI 0)]))) ++ [(pa, .inl (cI, 48, .inl (fM1 48)))]) ++ [(r1, eL (nI 0) eA 0)]) ++ [(r2, eL (nI 0) eA 0)]) ++ [(r3, eL (nI 0) eA 0)]) ++ [(r4, eL (nI 0) eA 0)] := (List.mem_append_left _ (List.mem_append_left _ (List.mem_append_left _ (List.mem_append_left _ (List.mem_append_left _ (wup_eq ha))))))
    refine c_putF (C := RX8) (T := TX8) (N := 6) (v := .ref r4) (ty := (.object "java/util/ArrayList")) (fs2 := [.ref pa, .ref r1, .ref r2, .ref r3, .ref r4, .int (nI 0)]) hx hb hts hin_X8 tyX8 tyX8_ok nmX8 hown hK hP hD hS hm_12 rfl 4 (by decide) l_26 (fun _ h9 => h9) rfl hin2 rfl (by decide +kernel) rfl rfl (Nat.le_of_ble_eq_true rfl) rfl dX8_init_77 (fun H locs hP hD hS => ?_)
    rw [wup_snoc hne_r4, wup_snoc hne_r3, wup_snoc hne_r2, wup_snoc hne_r1, wup_snoc hne_pa, wup_wup] at hP hD
    refine lv_aload_n hx hb dX8_init_80 rfl (lv_at hl 0 rfl) ?_
    refine lv_iconst (v := nI 0) hx hb dX8_init_81 (by decide) ?_
    have hm_13 : (q, .inr (9, [.ref pa, .ref r1, .ref r2, .ref r3, .ref r4, .int (nI 0)])) ∈ (((((wup ws q (.inr (9, [.ref pa, .ref r1, .ref r2, .ref r3, .ref r4, .int (nI 0)]))) ++ [(pa, .inl (cI, 48, .inl (fM1 48)))]) ++ [(r1, eL (nI 0) eA 0)]) ++ [(r2, eL (nI 0) eA 0)]) ++ [(r3, eL (nI 0) eA 0)]) ++ [(r4, eL (nI 0) eA 0)] := (List.mem_append_left _ (List.mem_append_left _ (List.mem_append_left _ (List.mem_append_left _ (List.mem_append_left _ (wup_eq ha))))))
    refine c_put (C := RX8) (T := TX8) (N := 6) (v := .int (nI 0)) (ty := .int) (fs2 := [.ref pa, .ref r1, .ref r2, .ref r3, .ref r4, .int (nI 0)]) hx hb hts hin_X8 tyX8 tyX8_ok nmX8 hown hK hP hD hS hm_13 rfl 5 (by decide) l_29 (fun _ h9 => h9) rfl (by decide +kernel) rfl rfl (Nat.le_of_ble_eq_true rfl) rfl dX8_init_82 (fun H locs hP hD hS => ?_)
    rw [wup_snoc hne_r4, wup_snoc hne_r3, wup_snoc hne_r2, wup_snoc hne_r1, wup_snoc hne_pa, wup_wup] at hP hD
    exact W.vret hx hb hr (fun U9 ht hW9 => ⟨⟨(pa, r1, r2, r3, r4), rfl, trivial, ⟨hD, by rw [ht]; exact hP⟩⟩, hS.F ht⟩) hS.2.2 dX8_init_85
  · refine lv_aload_n hx hb dX8_init_23 rfl (lv_at hl 0 rfl) ?_
    have hm_14 : (q, .inr (9, [.ref pa, .null, .null, .null, .null, .int (nI 0)])) ∈ (wup ws q (.inr (9, [.ref pa, .null, .null, .null, .null, .int (nI 0)]))) ++ [(pa, .inl (cI, 48, .inl (fM1 i)))] := (List.mem_append_left _ (wup_eq ha))
    refine c_get (C := RX8) (T := TX8) (N := 6) hx hb hts hin_X8 hown hK hP hm_14 rfl 0 (by decide) l_9 (fun _ h9 => h9) rfl dX8_init_24 ?_
    refine lv_iload_n hx hb dX8_init_27 rfl (lv_at hl 1 rfl) ?_
    refine lv_iconst (v := (-1)) hx hb dX8_init_28 (by decide) ?_
    refine c_iast (n := 48) (f := fM1 i) (x := -1) hx hb hK hP hD hS 0 (List.mem_append_right _ (List.mem_singleton.mpr rfl)) rfl (by omega) (by decide) dX8_init_29 (fun H locs hP hD hS => ?_)
    rw [wup_app hD, fM1_s] at hP
    rw [wup_app hD, fM1_s] at hD
    refine n_iinc (k := 1) (lv' := [(1, .int (nI (i + 1))), (0, .ref q)]) hx hb dX8_init_30 hl rfl (by decide) rfl (fun ls hl => ?_)
    refine lv_goto (tgt := 14) hx hb dX8_init_33 (by decide) ?_
    exact ih9 (by omega) () _ _ ⟨hD, hP, hS⟩ ls (lv_sub hl [1, 0] rfl)
