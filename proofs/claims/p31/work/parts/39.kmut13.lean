/-! the class: constructors that make lists; addTender, addLot -/
theorem wup_snoc {ws : va_W} {a b : Nat} {x y : va_E} (h : a ≠ b) : wup (ws ++ [(b, x)]) a y = wup ws a y ++ [(b, x)] := by
  unfold wup
  rw [List.map_append]
  congr 1
  show [if b = a then (a, y) else (b, x)] = _
  rw [if_neg (fun q => h q.symm)]
theorem CW.mono {cI cO : ClassId} {eA : Nat} {st own kd : Nat → Nat} {F : Nat → Nat → Nat} {L : Nat → List Nat} {ws ws2 : va_W} (h : CW cI cO eA st own kd F L ws) (hs : ∀ q, q ∈ ws → q ∈ ws2) : CW cI cO eA st own kd F L ws2 := by
  refine ⟨fun b h1 h2 => hs _ (h.1 b h1 h2), fun b hb => ?_⟩
  obtain ⟨mc, r, h1, h2⟩ := h.2 b hb
  refine ⟨mc, r, hs _ h1, ?_⟩
  rcases h2 with h2 | ⟨h2, n, f, h3, h4⟩
  · exact Or.inl h2
  · exact Or.inr ⟨h2, n, f, hs _ h3, h4⟩
/-- as CW.new, CW.newL: what they say needs no cells apart -/
theorem CW.new2 {cI cO : ClassId} {eA : Nat} {st own kd : Nat → Nat} {F : Nat → Nat → Nat} {L : Nat → List Nat} {ws : va_W} (h : CW cI cO eA st own kd F L ws) {q k : Nat} {vals : List Nat} {x : va_E} (h2 : k < 20) (hx : ent st cI k (FN F q vals) q = x) : CW cI cO eA st own (kdN kd q k) (FN F q vals) L (ws ++ [(q, x)]) := by
  refine ⟨fun b hb1 hb2 => ?_, fun b hb => ?_⟩
  · by_cases hq : b = q
    · subst hq
      rw [kdN_eq, hx]
      exact List.mem_append_right _ (List.mem_singleton.mpr rfl)
    · rw [kdN_ne hq] at hb1 hb2 ⊢
      rw [ent_congr (G := F) (fun g => FN_ne hq)]
      exact List.mem_append_left _ (h.1 b hb1 hb2)
  · by_cases hq : b = q
    · subst hq
      rw [kdN_eq] at hb
      omega
    · rw [kdN_ne hq] at hb
      exact Lst_app (h.2 b hb)
theorem CW.newL2 {cI cO : ClassId} {eA : Nat} {st own kd : Nat → Nat} {F : Nat → Nat → Nat} {L : Nat → List Nat} {ws : va_W} (h : CW cI cO eA st own kd F L ws) {q k : Nat} {mc : Int32} (h2 : 20 ≤ k) : CW cI cO eA st own (kdN kd q k) F (upL L q []) (ws ++ [(q, eL mc eA 0)]) := by
  refine ⟨fun b hb1 hb2 => ?_, fun b hb => ?_⟩
  · by_cases hq : b = q
    · subst hq
      rw [kdN_eq] at hb2
      omega
    · rw [kdN_ne hq] at hb1 hb2 ⊢
      exact List.mem_append_left _ (h.1 b hb1 hb2)
  · by_cases hq : b = q
    · subst hq
      rw [upL_eq]
      exact ⟨mc, eA, List.mem_append_right _ (List.mem_singleton.mpr rfl), Or.inl ⟨rfl, rfl⟩⟩
    · rw [kdN_ne hq] at hb
      rw [upL_ne hq]
      exact Lst_app (h.2 b hb)
theorem WF.newL {kd : Nat → Nat} {F : Nat → Nat → Nat} {L : Nat → List Nat} (h : WF kd F L) {q k : Nat} (hq : kd q = 0) (h2 : 22 ≤ k) (h8 : k ≤ 28) : WF (kdN kd q k) F (upL L q []) := by
  have ne : ∀ {v : Nat}, kd v ≠ 0 → v ≠ q := fun hv he => hv (by rw [he]; exact hq)
  have z1 : ∀ f, rg k f = 0 := by
    intro f
    have : k = 22 ∨ k = 23 ∨ k = 24 ∨ k = 25 ∨ k = 26 ∨ k = 27 ∨ k = 28 := by omega
    rcases this with rfl | rfl | rfl | rfl | rfl | rfl | rfl <;> rfl
  have z2 : ∀ f, rk k f = 0 := by
    intro f
    have : k = 22 ∨ k = 23 ∨ k = 24 ∨ k = 25 ∨ k = 26 ∨ k = 27 ∨ k = 28 := by omega
    rcases this with rfl | rfl | rfl | rfl | rfl | rfl | rfl <;> rfl
  refine ⟨fun b g => ?_, fun b g => ?_, fun b hb => ?_⟩
  · by_cases hb : b = q
    · subst hb
      rw [kdN_eq]; exact Or.inl (z1 g)
    · rw [kdN_ne hb]; exact h.1 b g
  · by_cases hb : b = q
    · subst hb
      rw [kdN_eq]; exact Or.inl (z2 g)
    · rw [kdN_ne hb]
      rcases h.2.1 b g with h1 | h1
      · exact Or.inl h1
      · by_cases h3 : rk (kd b) g = 0
        · exact Or.inl h3
        · right
          rw [kdN_ne (ne (by rw [h1]; exact h3))]; exact h1
  · by_cases hbq : b = q
    · subst hbq
      rw [kdN_eq] at hb ⊢
      refine ⟨h8, h2, ?_, ?_⟩
      · rw [upL_eq]; exact Nat.zero_le _
      · rw [upL_eq]; intro x hx; cases hx
    · rw [kdN_ne hbq] at hb ⊢
      obtain ⟨g1, g2, g3, g4⟩ := h.2.2 b hb
      refine ⟨g1, g2, by rw [upL_ne hbq]; exact g3, fun x hx => ?_⟩
      rw [upL_ne hbq] at hx
      have := g4 x hx
      rw [kdN_ne (ne (by omega))]; exact this
theorem va_D.init {A : Nat → Prop} {ws ws2 : va_W} (h : va_D A (ws ++ ws2)) : va_D A ws := by
  have e : ∀ (i : Nat) (q : Nat × va_E), ws[i]? = some q → (ws ++ ws2)[i]? = some q := by
    intro i q hq
    rw [List.getElem?_append_left (List.getElem?_eq_some_iff.mp hq).1]; exact hq
  exact ⟨fun i j a b h1 h2 h3 => h.1 i j a b (e i a h1) (e j b h2) h3, fun k q hq => h.2 k q (e k q hq)⟩
theorem wup_app2 {A : Nat → Prop} {ws : va_W} {q : Nat} {x z : va_E} (hD : va_D A (ws ++ [(q, z)])) : wup (ws ++ [(q, z)]) q x = ws ++ [(q, x)] := by
  unfold wup
  rw [List.map_append]
  congr 1
  · refine (List.map_congr_left (g := id) (fun a ha => ?_)).trans (List.map_id _)
    exact if_neg (w_new hD (b := a.1) (y := a.2) ha)
  · show [if q = q then (q, x) else (q, z)] = _
    rw [if_pos rfl]
theorem mem_sw {α : Type} {a b c : List α} : ∀ z, z ∈ (a ++ b) ++ c → z ∈ (a ++ c) ++ b := by
  intro z hz
  simp only [List.mem_append] at hz ⊢
  rcases hz with (h | h) | h
  · exact Or.inl (Or.inl h)
  · exact Or.inr h
  · exact Or.inl (Or.inr h)
theorem mem_sw3 {α : Type} {a b c d : List α} : ∀ z, z ∈ ((a ++ b) ++ c) ++ d → z ∈ ((a ++ d) ++ b) ++ c := by
  intro z hz
  simp only [List.mem_append] at hz ⊢
  rcases hz with ((h | h) | h) | h
  · exact Or.inl (Or.inl (Or.inl h))
  · exact Or.inl (Or.inr h)
  · exact Or.inr h
  · exact Or.inl (Or.inl (Or.inr h))
set_option maxHeartbeats 4000000 in
set_option maxRecDepth 100000 in
theorem ci_X7 (l : Launch) (D : va_G) (cI cO cb : ClassId) (eA mi : Nat) (st : Nat → Nat) {A : Nat → Prop} (ws : va_W) (hD : va_D A ws) (q : Nat) (ha : (q, .inr (8, [.int (nI 0), .int (nI 0), .int (nI 0), .int (nI 0), .int (nI 0), .null])) ∈ ws) (nu : Nat) (cl : Nat) (pa : Nat) (we : Nat) (sd : Nat) : Met l yX7_init wsX7_init ({ frames := 4, cells := 1, slots := 3, locals := 72 }) (va_Pc [.ref q, .int (nI nu), .int (nI cl), .int (nI pa), .int (nI we), .int (nI sd)] (cB D cI cO cb eA mi st A ws)) (va_Qv (fun _ : Nat => True) (fun u U9 => va_D A ((wup ws q (.inr (8, [.int (nI nu), .int (nI cl), .int (nI pa), .int (nI we), .int (nI sd), .ref u]))) ++ [(u, eL (nI 0) eA 0)]) ∧ va_P D vwCl ((wup ws q (.inr (8, [.int (nI nu), .int (nI cl), .int (nI pa), .int (nI we), .int (nI sd), .ref u]))) ++ [(u, eL (nI 0) eA 0)]) U9.heap) A) 1 3 A := by
  refine Met.ofW (cc := cX7_init) (maxL := 6) (ret := none) (by decide) rfl ?_
  intro p e s m args below meth c s₁ B hml hv
  obtain ⟨rfl, hP, hK, hG, hA⟩ := hv
  have hx := B.exec
  have hb := B.bytes
  have hr := B.returns
  have hts := atoms_spec (ws := wsX7_init) B.pre
  have hown : s.vm.findClass RX7 = some m.cls := findClass_of_methodNamed B.named
  have hlocks := B.notSynchronized
  have hin2 : meth.name = "<init>" := (name_of_methodNamed B.named B.method).1
  have hin_Jx4a65c : ∀ w ∈ wsJx4a65c0, w ∈ wsX7_init := fun w h => List.mem_cons_of_mem _ (List.mem_append_left _ (List.mem_append_right _ h))
  have hin_X7 : ∀ w ∈ wsX70, w ∈ wsX7_init := fun w h => List.mem_cons_of_mem _ (List.mem_append_right _ h)
  have l_10 := (hts (.fieldLink RX7 10 "TenderHall$Tender" "lots" "Ljava/util/ArrayList;") (List.mem_of_getElem? (i := 7) rfl))
  have l_16 := (hts (.fieldLink RX7 16 "TenderHall$Tender" "number" "I") (List.mem_of_getElem? (i := 8) rfl))
  have l_20 := (hts (.fieldLink RX7 20 "TenderHall$Tender" "closing" "I") (List.mem_of_getElem? (i := 9) rfl))
  have l_23 := (hts (.fieldLink RX7 23 "TenderHall$Tender" "papers" "I") (List.mem_of_getElem? (i := 10) rfl))
  have l_26 := (hts (.fieldLink RX7 26 "TenderHall$Tender" "weight" "I") (List.mem_of_getElem? (i := 11) rfl))
  have l_29 := (hts (.fieldLink RX7 29 "TenderHall$Tender" "standing" "I") (List.mem_of_getElem? (i := 12) rfl))
  have hS : va_S A s.heap s.heap [] := va_S.rf
  have hD0 := hD
  have hl := lv_entry ([.ref q, .int (nI nu), .int (nI cl), .int (nI pa), .int (nI we), .int (nI sd)]) (n := 6) (Nat.le_of_ble_eq_true rfl)
  rw [lg_entry_eq]
  generalize (lg_sl ([.ref q, .int (nI nu), .int (nI cl), .int (nI pa), .int (nI we), .int (nI sd)]) ++ List.replicate (6 - (lg_sl ([.ref q, .int (nI nu), .int (nI cl), .int (nI pa), .int (nI we), .int (nI sd)])).length) Slot.unset).toArray = ls at hl ⊢
  have hl : lv_has ls 6 [(0, .ref q), (1, .int (nI nu)), (2, .int (nI cl)), (3, .int (nI pa)), (4, .int (nI we)), (5, .int (nI sd))] := hl
  refine lv_aload_n hx hb dX7_init_0 rfl (lv_at hl 0 rfl) ?_
  refine W.objInit hx hb hown (hts (.methodLink RX7 1 objectInit) (List.mem_of_getElem? (i := 1) rfl)) (hts (.instanceMethod objectInit) (List.mem_of_getElem? (i := 2) rfl)) (hts (.code objectInit ⟨#[0xb1]⟩ 1 none) (List.mem_of_getElem? (i := 3) rfl)) rfl (hl.1.trans hml.symm) rfl dX7_init_1 (Nat.le_of_ble_eq_true rfl) (Nat.le_of_ble_eq_true rfl) ?_
  refine lv_aload_n hx hb dX7_init_4 rfl (lv_at hl 0 rfl) ?_
  have hm_1 : (q, .inr (8, [.int (nI 0), .int (nI 0), .int (nI 0), .int (nI 0), .int (nI 0), .null])) ∈ ws := ha
  refine va_new (ci := 1) (fs := [.int (nI 0), .null, .int (nI 0)]) hx hb hts hin_Jx4a65c tyJx4a65c tyJx4a65c_ok hown (hts (.classLink RX7 7 RJx4a65c) (List.mem_of_getElem? (i := 4) rfl)) (hts (.instantiable RJx4a65c 3) (List.mem_of_getElem? (i := 5) rfl)) (hts (.initialized RJx4a65c) (List.mem_of_getElem? (i := 6) rfl)) hK hP hD hS hA rfl (fun j9 h9 => by rcases j9 with _ | _ | _ | j9 <;> first | rfl | omega) (Nat.le_of_ble_eq_true rfl) (Nat.le_of_ble_eq_true rfl) dX7_init_5 (fun r1 H hP hD hS => ?_)
  have hne_r1 : q ≠ r1 := w_new hD hm_1
  refine lv_dup hx hb dX7_init_8 rfl ?_
  refine va_callv (va_runI (As := []) (rest := [.ref r1, .ref q]) ⟨hx, hb, hml, hown, hts⟩ (cl_init l D cI cO cb eA mi st (ws ++ [(r1, .inr (1, [.int (nI 0), .null, .int (nI 0)]))]) hD r1 (List.mem_append_right _ (List.mem_singleton.mpr rfl))) (cwI 0 hts ggX7_init_Jx4a65c_init_da8c8 rfl rfl rfl (hts (.initialized RJx4a65c) (List.mem_of_getElem? (i := 6) rfl)) (hts (.methodLink RX7 9 yJx4a65c_init_da8c8) (List.mem_of_getElem? (i := 13) rfl)) (hts (.instanceMethod yJx4a65c_init_da8c8) (List.mem_of_getElem? (i := 14) rfl)) rfl kd_Jx4a65c_init_da8c8 ⟨Nat.le_of_ble_eq_true rfl, Nat.le_of_ble_eq_true rfl⟩) ⟨cB_blind, cB_pre hK hG hA hS hP _⟩ rfl rfl hl.1 rfl (lv_room (Nat.le_of_ble_eq_true rfl)) dX7_init_9 ⟨Nat.le_of_ble_eq_true rfl, Nat.le_of_ble_eq_true rfl⟩) hS (fun _ _ h => h) (fun _ h => h) (fun u U8 H1 locs1 ht hvm hu hB hz1 hk1 hS1 => ?_)
  obtain ⟨hD1, hB⟩ := hB
  rw [ht] at hB
  clear hS
  have hS := hS1
  replace hP := hB
  replace hD := hD1
  generalize H1 = H at hP hS ⊢
  rw [wup_app hD] at hP hD
  have hm_2 : (q, .inr (8, [.int (nI 0), .int (nI 0), .int (nI 0), .int (nI 0), .int (nI 0), .null])) ∈ ws ++ [(r1, eL (nI 0) eA 0)] := (List.mem_append_left _ ha)
  refine c_putF (C := RX7) (T := TX7) (N := 6) (v := .ref r1) (ty := (.object "java/util/ArrayList")) (fs2 := [.int (nI 0), .int (nI 0), .int (nI 0), .int (nI 0), .int (nI 0), .ref r1]) hx hb hts hin_X7 tyX7 tyX7_ok nmX7 hown hK hP hD hS hm_2 rfl 5 (by decide) l_10 (fun _ h9 => h9) rfl hin2 rfl (by decide +kernel) rfl rfl (Nat.le_of_ble_eq_true rfl) rfl dX7_init_12 (fun H locs hP hD hS => ?_)
  rw [wup_snoc hne_r1] at hP hD
  refine lv_aload_n hx hb dX7_init_15 rfl (lv_at hl 0 rfl) ?_
  refine lv_iload_n hx hb dX7_init_16 rfl (lv_at hl 1 rfl) ?_
  have hm_3 : (q, .inr (8, [.int (nI 0), .int (nI 0), .int (nI 0), .int (nI 0), .int (nI 0), .ref r1])) ∈ (wup ws q (.inr (8, [.int (nI 0), .int (nI 0), .int (nI 0), .int (nI 0), .int (nI 0), .ref r1]))) ++ [(r1, eL (nI 0) eA 0)] := (List.mem_append_left _ (wup_eq ha))
  refine c_putF (C := RX7) (T := TX7) (N := 6) (v := .int (nI nu)) (ty := .int) (fs2 := [.int (nI nu), .int (nI 0), .int (nI 0), .int (nI 0), .int (nI 0), .ref r1]) hx hb hts hin_X7 tyX7 tyX7_ok nmX7 hown hK hP hD hS hm_3 rfl 0 (by decide) l_16 (fun _ h9 => h9) rfl hin2 rfl (by decide +kernel) rfl rfl (Nat.le_of_ble_eq_true rfl) rfl dX7_init_17 (fun H locs hP hD hS => ?_)
  rw [wup_snoc hne_r1, wup_wup] at hP hD
  refine lv_aload_n hx hb dX7_init_20 rfl (lv_at hl 0 rfl) ?_
  refine lv_iload_n hx hb dX7_init_21 rfl (lv_at hl 2 rfl) ?_
  have hm_4 : (q, .inr (8, [.int (nI nu), .int (nI 0), .int (nI 0), .int (nI 0), .int (nI 0), .ref r1])) ∈ (wup ws q (.inr (8, [.int (nI nu), .int (nI 0), .int (nI 0), .int (nI 0), .int (nI 0), .ref r1]))) ++ [(r1, eL (nI 0) eA 0)] := (List.mem_append_left _ (wup_eq ha))
  refine c_putF (C := RX7) (T := TX7) (N := 6) (v := .int (nI cl)) (ty := .int) (fs2 := [.int (nI nu), .int (nI cl), .int (nI 0), .int (nI 0), .int (nI 0), .ref r1]) hx hb hts hin_X7 tyX7 tyX7_ok nmX7 hown hK hP hD hS hm_4 rfl 1 (by decide) l_20 (fun _ h9 => h9) rfl hin2 rfl (by decide +kernel) rfl rfl (Nat.le_of_ble_eq_true rfl) rfl dX7_init_22 (fun H locs hP hD hS => ?_)
  rw [wup_snoc hne_r1, wup_wup] at hP hD
  refine lv_aload_n hx hb dX7_init_25 rfl (lv_at hl 0 rfl) ?_
  refine lv_iload_n hx hb dX7_init_26 rfl (lv_at hl 3 rfl) ?_
  have hm_5 : (q, .inr (8, [.int (nI nu), .int (nI cl), .int (nI 0), .int (nI 0), .int (nI 0), .ref r1])) ∈ (wup ws q (.inr (8, [.int (nI nu), .int (nI cl), .int (nI 0), .int (nI 0), .int (nI 0), .ref r1]))) ++ [(r1, eL (nI 0) eA 0)] := (List.mem_append_left _ (wup_eq ha))
  refine c_putF (C := RX7) (T := TX7) (N := 6) (v := .int (nI pa)) (ty := .int) (fs2 := [.int (nI nu), .int (nI cl), .int (nI pa), .int (nI 0), .int (nI 0), .ref r1]) hx hb hts hin_X7 tyX7 tyX7_ok nmX7 hown hK hP hD hS hm_5 rfl 2 (by decide) l_23 (fun _ h9 => h9) rfl hin2 rfl (by decide +kernel) rfl rfl (Nat.le_of_ble_eq_true rfl) rfl dX7_init_27 (fun H locs hP hD hS => ?_)
  rw [wup_snoc hne_r1, wup_wup] at hP hD
  refine lv_aload_n hx hb dX7_init_30 rfl (lv_at hl 0 rfl) ?_
  refine lv_iload hx hb dX7_init_31 (lv_at hl 4 rfl) ?_
  have hm_6 : (q, .inr (8, [.int (nI nu), .int (nI cl), .int (nI pa), .int (nI 0), .int (nI 0), .ref r1])) ∈ (wup ws q (.inr (8, [.int (nI nu), .int (nI cl), .int (nI pa), .int (nI 0), .int (nI 0), .ref r1]))) ++ [(r1, eL (nI 0) eA 0)] := (List.mem_append_left _ (wup_eq ha))
  refine c_putF (C := RX7) (T := TX7) (N := 6) (v := .int (nI we)) (ty := .int) (fs2 := [.int (nI nu), .int (nI cl), .int (nI pa), .int (nI we), .int (nI 0), .ref r1]) hx hb hts hin_X7 tyX7 tyX7_ok nmX7 hown hK hP hD hS hm_6 rfl 3 (by decide) l_26 (fun _ h9 => h9) rfl hin2 rfl (by decide +kernel) rfl rfl (Nat.le_of_ble_eq_true rfl) rfl dX7_init_33 (fun H locs hP hD hS => ?_)
  rw [wup_snoc hne_r1, wup_wup] at hP hD
  refine lv_aload_n hx hb dX7_init_36 rfl (lv_at hl 0 rfl) ?_
  refine lv_iload hx hb dX7_init_37 (lv_at hl 5 rfl) ?_
  have hm_7 : (q, .inr (8, [.int (nI nu), .int (nI cl), .int (nI pa), .int (nI we), .int (nI 0), .ref r1])) ∈ (wup ws q (.inr (8, [.int (nI nu), .int (nI cl), .int (nI pa), .int (nI we), .int (nI 0), .ref r1]))) ++ [(r1, eL (nI 0) eA 0)] := (List.mem_append_left _ (wup_eq ha))
  refine c_putF (C := RX7) (T := TX7) (N := 6) (v := .int (nI sd)) (ty := .int) (fs2 := [.int (nI nu), .int (nI cl), .int (nI pa), .int (nI we), .int (nI sd), .ref r1]) hx hb hts hin_X7 tyX7 tyX7_ok nmX7 hown hK hP hD hS hm_7 rfl 4 (by decide) l_29 (fun _ h9 => h9) rfl hin2 rfl (by decide +kernel) rfl rfl (Nat.le_of_ble_eq_true rfl) rfl dX7_init_39 (fun H locs hP hD hS => ?_)
  rw [wup_snoc hne_r1, wup_wup] at hP hD
  exact W.vret hx hb hr (fun U9 ht hW9 => ⟨⟨r1, rfl, trivial, ⟨hD, by rw [ht]; exact hP⟩⟩, hS.F ht⟩) hS.2.2 dX7_init_42
set_option maxHeartbeats 4000000 in
set_option maxRecDepth 100000 in
theorem ci_X5 (l : Launch) (D : va_G) (cI cO cb : ClassId) (eA mi : Nat) (st : Nat → Nat) {A : Nat → Prop} (ws : va_W) (hD : va_D A ws) (q : Nat) (ha : (q, .inr (7, [.null, .int (nI 0), .int (nI 0), .null, .null])) ∈ ws) (tn : Nat) (nu : Nat) (de : Nat) : Met l yX5_init wsX5_init ({ frames := 4, cells := 2, slots := 6, locals := 72 }) (va_Pc [.ref q, .ref tn, .int (nI nu), .int (nI de)] (cB D cI cO cb eA mi st A ws)) (va_Qv (fun _ : Nat × Nat => True) (fun u U9 => va_D A (((wup ws q (.inr (7, [.ref tn, .int (nI nu), .int (nI de), .ref u.1, .ref u.2]))) ++ [(u.1, eL (nI 0) eA 0)]) ++ [(u.2, eL (nI 0) eA 0)]) ∧ va_P D vwCl (((wup ws q (.inr (7, [.ref tn, .int (nI nu), .int (nI de), .ref u.1, .ref u.2]))) ++ [(u.1, eL (nI 0) eA 0)]) ++ [(u.2, eL (nI 0) eA 0)]) U9.heap) A) 2 6 A := by
  refine Met.ofW (cc := cX5_init) (maxL := 4) (ret := none) (by decide) rfl ?_
  intro p e s m args below meth c s₁ B hml hv
  obtain ⟨rfl, hP, hK, hG, hA⟩ := hv
  have hx := B.exec
  have hb := B.bytes
  have hr := B.returns
  have hts := atoms_spec (ws := wsX5_init) B.pre
  have hown : s.vm.findClass RX5 = some m.cls := findClass_of_methodNamed B.named
  have hlocks := B.notSynchronized
  have hin2 : meth.name = "<init>" := (name_of_methodNamed B.named B.method).1
  have hin_Jx4a65c : ∀ w ∈ wsJx4a65c0, w ∈ wsX5_init := fun w h => List.mem_cons_of_mem _ (List.mem_append_left _ (List.mem_append_right _ h))
  have hin_X5 : ∀ w ∈ wsX50, w ∈ wsX5_init := fun w h => List.mem_cons_of_mem _ (List.mem_append_right _ h)
  have l_12 := (hts (.fieldLink RX5 12 "TenderHall$Lot" "bids" "Ljava/util/ArrayList;") (List.mem_of_getElem? (i := 7) rfl))
  have l_18 := (hts (.fieldLink RX5 18 "TenderHall$Lot" "changes" "Ljava/util/ArrayList;") (List.mem_of_getElem? (i := 8) rfl))
  have l_21 := (hts (.fieldLink RX5 21 "TenderHall$Lot" "tender" "LTenderHall$Tender;") (List.mem_of_getElem? (i := 9) rfl))
  have l_25 := (hts (.fieldLink RX5 25 "TenderHall$Lot" "number" "I") (List.mem_of_getElem? (i := 10) rfl))
  have l_29 := (hts (.fieldLink RX5 29 "TenderHall$Lot" "deposit" "I") (List.mem_of_getElem? (i := 11) rfl))
  have hS : va_S A s.heap s.heap [] := va_S.rf
  have hD0 := hD
  have hl := lv_entry ([.ref q, .ref tn, .int (nI nu), .int (nI de)]) (n := 4) (Nat.le_of_ble_eq_true rfl)
  rw [lg_entry_eq]
  generalize (lg_sl ([.ref q, .ref tn, .int (nI nu), .int (nI de)]) ++ List.replicate (4 - (lg_sl ([.ref q, .ref tn, .int (nI nu), .int (nI de)])).length) Slot.unset).toArray = ls at hl ⊢
  have hl : lv_has ls 4 [(0, .ref q), (1, .ref tn), (2, .int (nI nu)), (3, .int (nI de))] := hl
  refine lv_aload_n hx hb dX5_init_0 rfl (lv_at hl 0 rfl) ?_
  refine W.objInit hx hb hown (hts (.methodLink RX5 3 objectInit) (List.mem_of_getElem? (i := 1) rfl)) (hts (.instanceMethod objectInit) (List.mem_of_getElem? (i := 2) rfl)) (hts (.code objectInit ⟨#[0xb1]⟩ 1 none) (List.mem_of_getElem? (i := 3) rfl)) rfl (hl.1.trans hml.symm) rfl dX5_init_1 (Nat.le_of_ble_eq_true rfl) (Nat.le_of_ble_eq_true rfl) ?_
  refine lv_aload_n hx hb dX5_init_4 rfl (lv_at hl 0 rfl) ?_
  have hm_1 : (q, .inr (7, [.null, .int (nI 0), .int (nI 0), .null, .null])) ∈ ws := ha
  refine va_new (ci := 1) (fs := [.int (nI 0), .null, .int (nI 0)]) hx hb hts hin_Jx4a65c tyJx4a65c tyJx4a65c_ok hown (hts (.classLink RX5 9 RJx4a65c) (List.mem_of_getElem? (i := 4) rfl)) (hts (.instantiable RJx4a65c 3) (List.mem_of_getElem? (i := 5) rfl)) (hts (.initialized RJx4a65c) (List.mem_of_getElem? (i := 6) rfl)) hK hP hD hS hA rfl (fun j9 h9 => by rcases j9 with _ | _ | _ | j9 <;> first | rfl | omega) (Nat.le_of_ble_eq_true rfl) (Nat.le_of_ble_eq_true rfl) dX5_init_5 (fun r1 H hP hD hS => ?_)
  have hne_r1 : q ≠ r1 := w_new hD hm_1
  refine lv_dup hx hb dX5_init_8 rfl ?_
  refine va_callv (va_runI (As := []) (rest := [.ref r1, .ref q]) ⟨hx, hb, hml, hown, hts⟩ (cl_init l D cI cO cb eA mi st (ws ++ [(r1, .inr (1, [.int (nI 0), .null, .int (nI 0)]))]) hD r1 (List.mem_append_right _ (List.mem_singleton.mpr rfl))) (cwI 0 hts ggX5_init_Jx4a65c_init_da8c8 rfl rfl rfl (hts (.initialized RJx4a65c) (List.mem_of_getElem? (i := 6) rfl)) (hts (.methodLink RX5 11 yJx4a65c_init_da8c8) (List.mem_of_getElem? (i := 12) rfl)) (hts (.instanceMethod yJx4a65c_init_da8c8) (List.mem_of_getElem? (i := 13) rfl)) rfl kd_Jx4a65c_init_da8c8 ⟨Nat.le_of_ble_eq_true rfl, Nat.le_of_ble_eq_true rfl⟩) ⟨cB_blind, cB_pre hK hG hA hS hP _⟩ rfl rfl hl.1 rfl (lv_room (Nat.le_of_ble_eq_true rfl)) dX5_init_9 ⟨Nat.le_of_ble_eq_true rfl, Nat.le_of_ble_eq_true rfl⟩) hS (fun _ _ h => h) (fun _ h => h) (fun u U8 H1 locs1 ht hvm hu hB hz1 hk1 hS1 => ?_)
  obtain ⟨hD1, hB⟩ := hB
  rw [ht] at hB
  clear hS
  have hS := hS1
  replace hP := hB
  replace hD := hD1
  generalize H1 = H at hP hS ⊢
  rw [wup_app hD] at hP hD
  have hm_2 : (q, .inr (7, [.null, .int (nI 0), .int (nI 0), .null, .null])) ∈ ws ++ [(r1, eL (nI 0) eA 0)] := (List.mem_append_left _ ha)
  refine c_putF (C := RX5) (T := TX5) (N := 5) (v := .ref r1) (ty := (.object "java/util/ArrayList")) (fs2 := [.null, .int (nI 0), .int (nI 0), .ref r1, .null]) hx hb hts hin_X5 tyX5 tyX5_ok nmX5 hown hK hP hD hS hm_2 rfl 3 (by decide) l_12 (fun _ h9 => h9) rfl hin2 rfl (by decide +kernel) rfl rfl (Nat.le_of_ble_eq_true rfl) rfl dX5_init_12 (fun H locs hP hD hS => ?_)
  rw [wup_snoc hne_r1] at hP hD
  refine lv_aload_n hx hb dX5_init_15 rfl (lv_at hl 0 rfl) ?_
  have hm_3 : (q, .inr (7, [.null, .int (nI 0), .int (nI 0), .ref r1, .null])) ∈ (wup ws q (.inr (7, [.null, .int (nI 0), .int (nI 0), .ref r1, .null]))) ++ [(r1, eL (nI 0) eA 0)] := (List.mem_append_left _ (wup_eq ha))
  refine va_new (ci := 1) (fs := [.int (nI 0), .null, .int (nI 0)]) hx hb hts hin_Jx4a65c tyJx4a65c tyJx4a65c_ok hown (hts (.classLink RX5 9 RJx4a65c) (List.mem_of_getElem? (i := 4) rfl)) (hts (.instantiable RJx4a65c 3) (List.mem_of_getElem? (i := 5) rfl)) (hts (.initialized RJx4a65c) (List.mem_of_getElem? (i := 6) rfl)) hK hP hD hS hA rfl (fun j9 h9 => by rcases j9 with _ | _ | _ | j9 <;> first | rfl | omega) (Nat.le_of_ble_eq_true rfl) (Nat.le_of_ble_eq_true rfl) dX5_init_16 (fun r2 H hP hD hS => ?_)
  have hne_r2 : q ≠ r2 := w_new hD hm_3
  refine lv_dup hx hb dX5_init_19 rfl ?_
  refine va_callv (va_runI (As := []) (rest := [.ref r2, .ref q]) ⟨hx, hb, hml, hown, hts⟩ (cl_init l D cI cO cb eA mi st (((wup ws q (.inr (7, [.null, .int (nI 0), .int (nI 0), .ref r1, .null]))) ++ [(r1, eL (nI 0) eA 0)]) ++ [(r2, .inr (1, [.int (nI 0), .null, .int (nI 0)]))]) hD r2 (List.mem_append_right _ (List.mem_singleton.mpr rfl))) (cwI 0 hts ggX5_init_Jx4a65c_init_da8c8 rfl rfl rfl (hts (.initialized RJx4a65c) (List.mem_of_getElem? (i := 6) rfl)) (hts (.methodLink RX5 11 yJx4a65c_init_da8c8) (List.mem_of_getElem? (i := 12) rfl)) (hts (.instanceMethod yJx4a65c_init_da8c8) (List.mem_of_getElem? (i := 13) rfl)) rfl kd_Jx4a65c_init_da8c8 ⟨Nat.le_of_ble_eq_true rfl, Nat.le_of_ble_eq_true rfl⟩) ⟨cB_blind, cB_pre hK hG hA hS hP _⟩ rfl rfl hl.1 rfl (lv_room (Nat.le_of_ble_eq_true rfl)) dX5_init_20 ⟨Nat.le_of_ble_eq_true rfl, Nat.le_of_ble_eq_true rfl⟩) hS (fun _ _ h => h) (fun _ h => h) (fun u U8 H1 locs1 ht hvm hu hB hz1 hk1 hS1 => ?_)
  obtain ⟨hD1, hB⟩ := hB
  rw [ht] at hB
  clear hS
  have hS := hS1
  replace hP := hB
  replace hD := hD1
  generalize H1 = H at hP hS ⊢
  rw [wup_app hD] at hP hD
  have hm_4 : (q, .inr (7, [.null, .int (nI 0), .int (nI 0), .ref r1, .null])) ∈ ((wup ws q (.inr (7, [.null, .int (nI 0), .int (nI 0), .ref r1, .null]))) ++ [(r1, eL (nI 0) eA 0)]) ++ [(r2, eL (nI 0) eA 0)] := (List.mem_append_left _ (List.mem_append_left _ (wup_eq ha)))
  refine c_putF (C := RX5) (T := TX5) (N := 5) (v := .ref r2) (ty := (.object "java/util/ArrayList")) (fs2 := [.null, .int (nI 0), .int (nI 0), .ref r1, .ref r2]) hx hb hts hin_X5 tyX5 tyX5_ok nmX5 hown hK hP hD hS hm_4 rfl 4 (by decide) l_18 (fun _ h9 => h9) rfl hin2 rfl (by decide +kernel) rfl rfl (Nat.le_of_ble_eq_true rfl) rfl dX5_init_23 (fun H locs hP hD hS => ?_)
  rw [wup_snoc hne_r2, wup_snoc hne_r1, wup_wup] at hP hD
  refine lv_aload_n hx hb dX5_init_26 rfl (lv_at hl 0 rfl) ?_
  refine lv_aload_n hx hb dX5_init_27 rfl (lv_at hl 1 rfl) ?_
  have hm_5 : (q, .inr (7, [.null, .int (nI 0), .int (nI 0), .ref r1, .ref r2])) ∈ ((wup ws q (.inr (7, [.null, .int (nI 0), .int (nI 0), .ref r1, .ref r2]))) ++ [(r1, eL (nI 0) eA 0)]) ++ [(r2, eL (nI 0) eA 0)] := (List.mem_append_left _ (List.mem_append_left _ (wup_eq ha)))
  refine c_putF (C := RX5) (T := TX5) (N := 5) (v := .ref tn) (ty := (.object "TenderHall$Tender")) (fs2 := [.ref tn, .int (nI 0), .int (nI 0), .ref r1, .ref r2]) hx hb hts hin_X5 tyX5 tyX5_ok nmX5 hown hK hP hD hS hm_5 rfl 0 (by decide) l_21 (fun _ h9 => h9) rfl hin2 rfl (by decide +kernel) rfl rfl (Nat.le_of_ble_eq_true rfl) rfl dX5_init_28 (fun H locs hP hD hS => ?_)
  rw [wup_snoc hne_r2, wup_snoc hne_r1, wup_wup] at hP hD
  refine lv_aload_n hx hb dX5_init_31 rfl (lv_at hl 0 rfl) ?_
  refine lv_iload_n hx hb dX5_init_32 rfl (lv_at hl 2 rfl) ?_
  have hm_6 : (q, .inr (7, [.ref tn, .int (nI 0), .int (nI 0), .ref r1, .ref r2])) ∈ ((wup ws q (.inr (7, [.ref tn, .int (nI 0), .int (nI 0), .ref r1, .ref r2]))) ++ [(r1, eL (nI 0) eA 0)]) ++ [(r2, eL (nI 0) eA 0)] := (List.mem_append_left _ (List.mem_append_left _ (wup_eq ha)))
  refine c_putF (C := RX5) (T := TX5) (N := 5) (v := .int (nI nu)) (ty := .int) (fs2 := [.ref tn, .int (nI nu), .int (nI 0), .ref r1, .ref r2]) hx hb hts hin_X5 tyX5 tyX5_ok nmX5 hown hK hP hD hS hm_6 rfl 1 (by decide) l_25 (fun _ h9 => h9) rfl hin2 rfl (by decide +kernel) rfl rfl (Nat.le_of_ble_eq_true rfl) rfl dX5_init_33 (fun H locs hP hD hS => ?_)
  rw [wup_snoc hne_r2, wup_snoc hne_r1, wup_wup] at hP hD
  refine lv_aload_n hx hb dX5_init_36 rfl (lv_at hl 0 rfl) ?_
  refine lv_iload_n hx hb dX5_init_37 rfl (lv_at hl 3 rfl) ?_
  have hm_7 : (q, .inr (7, [.ref tn, .int (nI nu), .int (nI 0), .ref r1, .ref r2])) ∈ ((wup ws q (.inr (7, [.ref tn, .int (nI nu), .int (nI 0), .ref r1, .ref r2]))) ++ [(r1, eL (nI 0) eA 0)]) ++ [(r2, eL (nI 0) eA 0)] := (List.mem_append_left _ (List.mem_append_left _ (wup_eq ha)))
  refine c_putF (C := RX5) (T := TX5) (N := 5) (v := .int (nI de)) (ty := .int) (fs2 := [.ref tn, .int (nI nu), .int (nI de), .ref r1, .ref r2]) hx hb hts hin_X5 tyX5 tyX5_ok nmX5 hown hK hP hD hS hm_7 rfl 2 (by decide) l_29 (fun _ h9 => h9) rfl hin2 rfl (by decide +kernel) rfl rfl (Nat.le_of_ble_eq_true rfl) rfl dX5_init_38 (fun H locs hP hD hS => ?_)
  rw [wup_snoc hne_r2, wup_snoc hne_r1, wup_wup] at hP hD
  exact W.vret hx hb hr (fun U9 ht hW9 => ⟨⟨(r1, r2), rfl, trivial, ⟨hD, by rw [ht]; exact hP⟩⟩, hS.F ht⟩) hS.2.2 dX5_init_41
set_option maxHeartbeats 4000000 in
set_option maxRecDepth 100000 in
theorem cm_addTender (l : Launch) (hst : l.stackTraces = false) (D : va_G) (cI cO cb : ClassId) (eA mi : Nat) (st : Nat → Nat) {A : Nat → Prop} (ws : va_W) (hD : va_D A ws) {own kd : Nat → Nat} {F : Nat → Nat → Nat} {L : Nat → List Nat} (hC : CW cI cO eA st own kd F L ws) (hW : WF kd F L) (hs : sInj st)  (h : Nat) (hk_h : kd h = 9) (cl : Int32) (pa : Int32) (we : Int32) (sd : Int32) : vx_Met l yX8_addTender wsX8_addTender ({ frames := 7, cells := 4, slots := 114, locals := 191 }) (va_Pc [.ref h, .int cl, .int pa, .int we, .int sd] (cB D cI cO cb eA mi st A ws)) (va_Qi (fun (ri : Int32) (u : va_W × (Nat → Nat) × Nat × Nat) => ks (kArg cl (nI 1) (nI 1000)) (ks (if cl.toNatClampNeg ≤ F 5 h then 2 else 0) (ks (kArg pa (nI 0) (nI 63)) (ks (kArg we (nI 0) (nI 100)) (ks (kArg sd (nI 0) (nI 30)) (if (L (F 1 h)).length < 6 then 0 else 3))))) = 0 ∧ ri = nI ((L (F 1 h)).length) ∧ CW cI cO eA st u.2.1 (kdN (kdN kd u.2.2.2 27) u.2.2.1 8) (FN F u.2.2.1 [(L (F 1 h)).length, cl.toNatClampNeg, pa.toNatClampNeg, we.toNatClampNeg, sd.toNatClampNeg, u.2.2.2]) (upL (upL L u.2.2.2 []) (F 1 h) ((upL L u.2.2.2 []) (F 1 h) ++ [u.2.2.1])) u.1 ∧ WF (kdN (kdN kd u.2.2.2 27) u.2.2.1 8) (FN F u.2.2.1 [(L (F 1 h)).length, cl.toNatClampNeg, pa.toNatClampNeg, we.toNatClampNeg, sd.toNatClampNeg, u.2.2.2]) (upL (upL L u.2.2.2 []) (F 1 h) ((upL L u.2.2.2 []) (F 1 h) ++ [u.2.2.1])) ∧ kd u.2.2.1 = 0 ∧ kd u.2.2.2 = 0 ∧ u.2.2.1 ≠ u.2.2.2 ∧ va_D A u.1) (fun u U9 => va_P D vwCl u.1 U9.heap) A) (XK D ws A (ks (kArg cl (nI 1) (nI 1000)) (ks (if cl.toNatClampNeg ≤ F 5 h then 2 else 0) (ks (kArg pa (nI 0) (nI 63)) (ks (kArg we (nI 0) (nI 100)) (ks (kArg sd (nI 0) (nI 30)) (if (L (F 1 h)).length < 6 then 0 else 3))))))) 4 114 A := by
  refine vx_ofW (cc := cX8_addTender) (maxL := 6) (ret := (some .int)) (by decide) rfl ?_
  intro p e s m args below meth c s₁ B hml htab hv
  obtain ⟨rfl, hP, hK, hG, hA⟩ := hv
  have hx := B.exec
  have hb := B.bytes
  have hr := B.returns
  have hts := atoms_spec (ws := wsX8_addTender) B.pre
  have hown : s.vm.findClass RX8 = some m.cls := findClass_of_methodNamed B.named
  have hlocks := B.notSynchronized
  have hin_X7 : ∀ w ∈ wsX70, w ∈ wsX8_addTender := fun w h => List.mem_cons_of_mem _ (List.mem_append_left _ (List.mem_append_left _ (List.mem_append_left _ (List.mem_append_right _ h))))
  have hin_X8 : ∀ w ∈ wsX80, w ∈ wsX8_addTender := fun w h => List.mem_cons_of_mem _ (List.mem_append_left _ (List.mem_append_left _ (List.mem_append_left _ (List.mem_append_left _ (List.mem_append_right _ h)))))
  have l_29 := (hts (.fieldLink RX8 29 "TenderHall" "day" "I") (List.mem_of_getElem? (i := 5) rfl))
  have l_16 := (hts (.fieldLink RX8 16 "TenderHall" "tenders" "Ljava/util/ArrayList;") (List.mem_of_getElem? (i := 6) rfl))
  have hS : va_S A s.heap s.heap [] := va_S.rf
  have hD0 := hD
  have hl := lv_entry ([.ref h, .int cl, .int pa, .int we, .int sd]) (n := 6) (Nat.le_of_ble_eq_true rfl)
  rw [lg_entry_eq]
  generalize (lg_sl ([.ref h, .int cl, .int pa, .int we, .int sd]) ++ List.replicate (6 - (lg_sl ([.ref h, .int cl, .int pa, .int we, .int sd])).length) Slot.unset).toArray = ls at hl ⊢
  have hl : lv_has ls 6 [(0, .ref h), (1, .int cl), (2, .int pa), (3, .int we), (4, .int sd)] := hl
  have hW0 := hW
  refine lv_iload_n hx hb dX8_addTender_0 rfl (lv_at hl 1 rfl) ?_
  refine lv_iconst (v := nI 1) hx hb dX8_addTender_1 (by decide) ?_
  refine lv_sipush (v := nI 1000) hx hb dX8_addTender_2 (by decide) ?_
  refine vp_callSi (W.runS (As := [.int cl, .int (nI 1), .int (nI 1000)]) (rest := []) ⟨hx, hb, hml, hown, hts⟩ (ck_isOutside l cl (nI 1) (nI 1000)) (va_cwS 3 hts gX8_addTender_X8_isOutside rfl rfl rfl kd_X8_isOutside ⟨Nat.le_of_ble_eq_true rfl, Nat.le_of_ble_eq_true rfl⟩) ⟨fun _ _ _ _ q => q, fun U hU hW => ⟨rfl, trivial⟩⟩ rfl rfl hl.1 rfl (lv_room (Nat.le_of_ble_eq_true rfl)) dX8_addTender_5 ⟨Nat.le_of_ble_eq_true rfl, Nat.le_of_ble_eq_true rfl⟩) (fun r_1 hr_1 => ?_)
  subst hr_1
  refine b_if_ne (tgt := 50) hx hb dX8_addTender_8 (by decide)  (fun c_2 => ?_) (fun c_2 => ?_)
  · have dd_c_2 := of_decide_eq_true c_2
    have hkx : ks (kArg cl (nI 1) (nI 1000)) (ks (if cl.toNatClampNeg ≤ F 5 h then 2 else 0) (ks (kArg pa (nI 0) (nI 63)) (ks (kArg we (nI 0) (nI 100)) (ks (kArg sd (nI 0) (nI 30)) (if (L (F 1 h)).length < 6 then 0 else 3))))) = 2 := by first | exact (ks_l (by rw [kArg, if_pos dd_c_2]; decide)).trans (if_pos dd_c_2) | exact (ks_r (if_neg dd_c_2)).trans ((ks_l (by rw [if_pos (by omega)]; decide)).trans (if_pos (by omega))) | exact (ks_r (if_neg dd_c_2)).trans ((ks_r (if_neg (by omega))).trans ((ks_l (by rw [kArg, if_pos rfl]; decide)).trans (if_pos rfl))) | exact (ks_r (if_neg dd_c_2)).trans ((ks_r (if_neg (by omega))).trans ((ks_r (if_neg rfl)).trans ((ks_l (by rw [kArg, if_pos rfl]; decide)).trans (if_pos rfl)))) | exact (ks_r (if_neg dd_c_2)).trans ((ks_r (if_neg (by omega))).trans ((ks_r (if_neg rfl)).trans ((ks_r (if_neg rfl)).trans ((ks_l (by rw [kArg, if_pos rfl]; decide)).trans (if_pos rfl)))))
    exact vx_throw0 (A := A) (own := RX8) (cls := "java/lang/IllegalArgumentException") (names := ["java/lang/RuntimeException", "java/lang/Exception"]) (ik := 37) (ic := 39) hx hb hst hown (by decide +kernel) (by decide +kernel) (hts (.classLink RX8 37 "java/lang/IllegalArgumentException") (List.mem_of_getElem? (i := 1) rfl)) (hts (.initialized "java/lang/IllegalArgumentException") (List.mem_of_getElem? (i := 2) rfl)) (vx_hat (L := vx_at0 RX8 39 "java/lang/IllegalArgumentException" ["java/lang/RuntimeException", "java/lang/Exception"]) (fun w9 h9 => hts w9 (List.mem_cons_of_mem _ (List.mem_append_left _ (List.mem_append_right _ h9)))) gB2 (gB_of (by decide +kernel) hG.2.2.2.2.2.2.1)) (by decide +kernel) hG.1 hG.2.1 hS (hl.1.trans hml.symm) dX8_addTender_50 dX8_addTender_53 dX8_addTender_54 dX8_addTender_57 (fun z9 h9 => (htab z9 h9).elim) (by decide) (Nat.le_of_ble_eq_true rfl) (Nat.le_of_ble_eq_true rfl) (Nat.le_of_ble_eq_true rfl) hlocks (fun t9 _ g2 g3 => ⟨(), trivial, ⟨by rw [hkx]; rfl, by rw [hkx]; decide, (x_keep hS hP g2 g3).1⟩, (x_keep hS hP g2 g3).2⟩) hS.2.2 (Nat.le_of_ble_eq_true rfl) (Nat.le_of_ble_eq_true rfl)
  · have dd_c_2 := of_decide_eq_false c_2
    obtain ⟨x1, hlo_x1, hhi_x1, rfl⟩ := out_nat (by decide) (by decide) dd_c_2
    have hcl_x1 : (nI x1).toNatClampNeg = x1 := nI_clamp (by omega)
    rw [hcl_x1]
    refine lv_iload_n hx hb dX8_addTender_11 rfl (lv_at hl 1 rfl) ?_
    refine lv_aload_n hx hb dX8_addTender_12 rfl (lv_at hl 0 rfl) ?_
    have hm_3 : (h, .inr (9, [.ref (F 0 h), .ref (F 1 h), .ref (F 2 h), .ref (F 3 h), .ref (F 4 h), .int (nI (F 5 h))])) ∈ ws := hC.at hk_h (by decide) (by decide)
    refine c_get (C := RX8) (T := TX8) (N := 6) hx hb hts hin_X8 hown hK hP hm_3 rfl 5 (by decide) l_29 (fun _ h9 => h9) rfl dX8_addTender_13 ?_
    have hn_4 : F 5 h < 2001 := hW.num (f := 5) hk_h rfl (by decide)
    refine n_icmp_le (tgt := 50) hx hb dX8_addTender_16 (by decide) (by omega) (by omega) (fun c_5 => ?_) (fun c_5 => ?_)
    · have hkx : ks (kArg (nI x1) (nI 1) (nI 1000)) (ks (if x1 ≤ F 5 h then 2 else 0) (ks (kArg pa (nI 0) (nI 63)) (ks (kArg we (nI 0) (nI 100)) (ks (kArg sd (nI 0) (nI 30)) (if (L (F 1 h)).length < 6 then 0 else 3))))) = 2 := by first | exact (ks_l (by rw [kArg, if_pos dd_c_2]; decide)).trans (if_pos dd_c_2) | exact (ks_r (if_neg dd_c_2)).trans ((ks_l (by rw [if_pos (by omega)]; decide)).trans (if_pos (by omega))) | exact (ks_r (if_neg dd_c_2)).trans ((ks_r (if_neg (by omega))).trans ((ks_l (by rw [kArg, if_pos rfl]; decide)).trans (if_pos rfl))) | exact (ks_r (if_neg dd_c_2)).trans ((ks_r (if_neg (by omega))).trans ((ks_r (if_neg rfl)).trans ((ks_l (by rw [kArg, if_pos rfl]; decide)).trans (if_pos rfl)))) | exact (ks_r (if_neg dd_c_2)).trans ((ks_r (if_neg (by omega))).trans ((ks_r (if_neg rfl)).trans ((ks_r (if_neg rfl)).trans ((ks_l (by rw [kArg, if_pos rfl]; decide)).trans (if_pos rfl)))))
      exact vx_throw0 (A := A) (own := RX8) (cls := "java/lang/IllegalArgumentException") (names := ["java/lang/RuntimeException", "java/lang/Exception"]) (ik := 37) (ic := 39) hx hb hst hown (by decide +kernel) (by decide +kernel) (hts (.classLink RX8 37 "java/lang/IllegalArgumentException") (List.mem_of_getElem? (i := 1) rfl)) (hts (.initialized "java/lang/IllegalArgumentException") (List.mem_of_getElem? (i := 2) rfl)) (vx_hat (L := vx_at0 RX8 39 "java/lang/IllegalArgumentException" ["java/lang/RuntimeException", "java/lang/Exception"]) (fun w9 h9 => hts w9 (List.mem_cons_of_mem _ (List.mem_append_left _ (List.mem_append_right _ h9)))) gB2 (gB_of (by decide +kernel) hG.2.2.2.2.2.2.1)) (by decide +kernel) hG.1 hG.2.1 hS (hl.1.trans hml.symm) dX8_addTender_50 dX8_addTender_53 dX8_addTender_54 dX8_addTender_57 (fun z9 h9 => (htab z9 h9).elim) (by decide) (Nat.le_of_ble_eq_true rfl) (Nat.le_of_ble_eq_true rfl) (Nat.le_of_ble_eq_true rfl) hlocks (fun t9 _ g2 g3 => ⟨(), trivial, ⟨by rw [hkx]; rfl, by rw [hkx]; decide, (x_keep hS hP g2 g3).1⟩, (x_keep hS hP g2 g3).2⟩) hS.2.2 (Nat.le_of_ble_eq_true rfl) (Nat.le_of_ble_eq_true rfl)
    · refine lv_iload_n hx hb dX8_addTender_19 rfl (lv_at hl 2 rfl) ?_
      refine lv_iconst (v := nI 0) hx hb dX8_addTender_20 (by decide) ?_
      refine lv_bipush (v := nI 63) hx hb dX8_addTender_21 (by decide) ?_
      refine vp_callSi (W.runS (As := [.int pa, .int (nI 0), .int (nI 63)]) (rest := []) ⟨hx, hb, hml, hown, hts⟩ (ck_isOutside l pa (nI 0) (nI 63)) (va_cwS 3 hts gX8_addTender_X8_isOutside rfl rfl rfl kd_X8_isOutside ⟨Nat.le_of_ble_eq_true rfl, Nat.le_of_ble_eq_true rfl⟩) ⟨fun _ _ _ _ q => q, fun U hU hW => ⟨rfl, trivial⟩⟩ rfl rfl hl.1 rfl (lv_room (Nat.le_of_ble_eq_true rfl)) dX8_addTender_23 ⟨Nat.le_of_ble_eq_true rfl, Nat.le_of_ble_eq_true rfl⟩) (fun r_6 hr_6 => ?_)
      subst hr_6
      refine b_if_ne (tgt := 50) hx hb dX8_addTender_26 (by decide)  (fun c_7 => ?_) (fun c_7 => ?_)
      · have dd_c_7 := of_decide_eq_true c_7
        have hkx : ks (kArg (nI x1) (nI 1) (nI 1000)) (ks (if x1 ≤ F 5 h then 2 else 0) (ks (kArg pa (nI 0) (nI 63)) (ks (kArg we (nI 0) (nI 100)) (ks (kArg sd (nI 0) (nI 30)) (if (L (F 1 h)).length < 6 then 0 else 3))))) = 2 := by first | exact (ks_l (by rw [kArg, if_pos dd_c_2]; decide)).trans (if_pos dd_c_2) | exact (ks_r (if_neg dd_c_2)).trans ((ks_l (by rw [if_pos (by omega)]; decide)).trans (if_pos (by omega))) | exact (ks_r (if_neg dd_c_2)).trans ((ks_r (if_neg (by omega))).trans ((ks_l (by rw [kArg, if_pos dd_c_7]; decide)).trans (if_pos dd_c_7))) | exact (ks_r (if_neg dd_c_2)).trans ((ks_r (if_neg (by omega))).trans ((ks_r (if_neg dd_c_7)).trans ((ks_l (by rw [kArg, if_pos rfl]; decide)).trans (if_pos rfl)))) | exact (ks_r (if_neg dd_c_2)).trans ((ks_r (if_neg (by omega))).trans ((ks_r (if_neg dd_c_7)).trans ((ks_r (if_neg rfl)).trans ((ks_l (by rw [kArg, if_pos rfl]; decide)).trans (if_pos rfl)))))
        exact vx_throw0 (A := A) (own := RX8) (cls := "java/lang/IllegalArgumentException") (names := ["java/lang/RuntimeException", "java/lang/Exception"]) (ik := 37) (ic := 39) hx hb hst hown (by decide +kernel) (by decide +kernel) (hts (.classLink RX8 37 "java/lang/IllegalArgumentException") (List.mem_of_getElem? (i := 1) rfl)) (hts (.initialized "java/lang/IllegalArgumentException") (List.mem_of_getElem? (i := 2) rfl)) (vx_hat (L := vx_at0 RX8 39 "java/lang/IllegalArgumentException" ["java/lang/RuntimeException", "java/lang/Exception"]) (fun w9 h9 => hts w9 (List.mem_cons_of_mem _ (List.mem_append_left _ (List.mem_append_right _ h9)))) gB2 (gB_of (by decide +kernel) hG.2.2.2.2.2.2.1)) (by decide +kernel) hG.1 hG.2.1 hS (hl.1.trans hml.symm) dX8_addTender_50 dX8_addTender_53 dX8_addTender_54 dX8_addTender_57 (fun z9 h9 => (htab z9 h9).elim) (by decide) (Nat.le_of_ble_eq_true rfl) (Nat.le_of_ble_eq_true rfl) (Nat.le_of_ble_eq_true rfl) hlocks (fun t9 _ g2 g3 => ⟨(), trivial, ⟨by rw [hkx]; rfl, by rw [hkx]; decide, (x_keep hS hP g2 g3).1⟩, (x_keep hS hP g2 g3).2⟩) hS.2.2 (Nat.le_of_ble_eq_true rfl) (Nat.le_of_ble_eq_true rfl)
      · have dd_c_7 := of_decide_eq_false c_7
        obtain ⟨x2, hlo_x2, hhi_x2, rfl⟩ := out_nat (by decide) (by decide) dd_c_7
        have hcl_x2 : (nI x2).toNatClampNeg = x2 := nI_clamp (by omega)
        rw [hcl_x2]
        refine lv_iload_n hx hb dX8_addTender_29 rfl (lv_at hl 3 rfl) ?_
        refine lv_iconst (v := nI 0) hx hb dX8_addTender_30 (by decide) ?_
        refine lv_bipush (v := nI 100) hx hb dX8_addTender_31 (by decide) ?_
        refine vp_callSi (W.runS (As := [.int we, .int (nI 0), .int (nI 100)]) (rest := []) ⟨hx, hb, hml, hown, hts⟩ (ck_isOutside l we (nI 0) (nI 100)) (va_cwS 3 hts gX8_addTender_X8_isOutside rfl rfl rfl kd_X8_isOutside ⟨Nat.le_of_ble_eq_true rfl, Nat.le_of_ble_eq_true rfl⟩) ⟨fun _ _ _ _ q => q, fun U hU hW => ⟨rfl, trivial⟩⟩ rfl rfl hl.1 rfl (lv_room (Nat.le_of_ble_eq_true rfl)) dX8_addTender_33 ⟨Nat.le_of_ble_eq_true rfl, Nat.le_of_ble_eq_true rfl⟩) (fun r_8 hr_8 => ?_)
        subst hr_8
        refine b_if_ne (tgt := 50) hx hb dX8_addTender_36 (by decide)  (fun c_9 => ?_) (fun c_9 => ?_)
        · have dd_c_9 := of_decide_eq_true c_9
          have hkx : ks (kArg (nI x1) (nI 1) (nI 1000)) (ks (if x1 ≤ F 5 h then 2 else 0) (ks (kArg (nI x2) (nI 0) (nI 63)) (ks (kArg we (nI 0) (nI 100)) (ks (kArg sd (nI 0) (nI 30)) (if (L (F 1 h)).length < 6 then 0 else 3))))) = 2 := by first | exact (ks_l (by rw [kArg, if_pos dd_c_2]; decide)).trans (if_pos dd_c_2) | exact (ks_r (if_neg dd_c_2)).trans ((ks_l (by rw [if_pos (by omega)]; decide)).trans (if_pos (by omega))) | exact (ks_r (if_neg dd_c_2)).trans ((ks_r (if_neg (by omega))).trans ((ks_l (by rw [kArg, if_pos dd_c_7]; decide)).trans (if_pos dd_c_7))) | exact (ks_r (if_neg dd_c_2)).trans ((ks_r (if_neg (by omega))).trans ((ks_r (if_neg dd_c_7)).trans ((ks_l (by rw [kArg, if_pos dd_c_9]; decide)).trans (if_pos dd_c_9)))) | exact (ks_r (if_neg dd_c_2)).trans ((ks_r (if_neg (by omega))).trans ((ks_r (if_neg dd_c_7)).trans ((ks_r (if_neg dd_c_9)).trans ((ks_l (by rw [kArg, if_pos rfl]; decide)).trans (if_pos rfl)))))
          exact vx_throw0 (A := A) (own := RX8) (cls := "java/lang/IllegalArgumentException") (names := ["java/lang/RuntimeException", "java/lang/Exception"]) (ik := 37) (ic := 39) hx hb hst hown (by decide +kernel) (by decide +kernel) (hts (.classLink RX8 37 "java/lang/IllegalArgumentException") (List.mem_of_getElem? (i := 1) rfl)) (hts (.initialized "java/lang/IllegalArgumentException") (List.mem_of_getElem? (i := 2) rfl)) (vx_hat (L := vx_at0 RX8 39 "java/lang/IllegalArgumentException" ["java/lang/RuntimeException", "java/lang/Exception"]) (fun w9 h9 => hts w9 (List.mem_cons_of_mem _ (List.mem_append_left _ (List.mem_append_right _ h9)))) gB2 (gB_of (by decide +kernel) hG.2.2.2.2.2.2.1)) (by decide +kernel) hG.1 hG.2.1 hS (hl.1.trans hml.symm) dX8_addTender_50 dX8_addTender_53 dX8_addTender_54 dX8_addTender_57 (fun z9 h9 => (htab z9 h9).elim) (by decide) (Nat.le_of_ble_eq_true rfl) (Nat.le_of_ble_eq_true rfl) (Nat.le_of_ble_eq_true rfl) hlocks (fun t9 _ g2 g3 => ⟨(), trivial, ⟨by rw [hkx]; rfl, by rw [hkx]; decide, (x_keep hS hP g2 g3).1⟩, (x_keep hS hP g2 g3).2⟩) hS.2.2 (Nat.le_of_ble_eq_true rfl) (Nat.le_of_ble_eq_true rfl)
        · have dd_c_9 := of_decide_eq_false c_9
          obtain ⟨x3, hlo_x3, hhi_x3, rfl⟩ := out_nat (by decide) (by decide) dd_c_9
          have hcl_x3 : (nI x3).toNatClampNeg = x3 := nI_clamp (by omega)
          rw [hcl_x3]
          refine lv_iload hx hb dX8_addTender_39 (lv_at hl 4 rfl) ?_
          refine lv_iconst (v := nI 0) hx hb dX8_addTender_41 (by decide) ?_
          refine lv_bipush (v := nI 30) hx hb dX8_addTender_42 (by decide) ?_
          refine vp_callSi (W.runS (As := [.int sd, .int (nI 0), .int (nI 30)]) (rest := []) ⟨hx, hb, hml, hown, hts⟩ (ck_isOutside l sd (nI 0) (nI 30)) (va_cwS 3 hts gX8_addTender_X8_isOutside rfl rfl rfl kd_X8_isOutside ⟨Nat.le_of_ble_eq_true rfl, Nat.le_of_ble_eq_true rfl⟩) ⟨fun _ _ _ _ q => q, fun U hU hW => ⟨rfl, trivial⟩⟩ rfl rfl hl.1 rfl (lv_room (Nat.le_of_ble_eq_true rfl)) dX8_addTender_44 ⟨Nat.le_of_ble_eq_true rfl, Nat.le_of_ble_eq_true rfl⟩) (fun r_10 hr_10 => ?_)
          subst hr_10
          refine b_if_eq (tgt := 58) hx hb dX8_addTender_47 (by decide)  (fun c_11 => ?_) (fun c_11 => ?_)
          · have dd_c_11 := of_decide_eq_false c_11
            obtain ⟨x4, hlo_x4, hhi_x4, rfl⟩ := out_nat (by decide) (by decide) dd_c_11
            have hcl_x4 : (nI x4).toNatClampNeg = x4 := nI_clamp (by omega)
            rw [hcl_x4]
            refine lv_aload_n hx hb dX8_addTender_58 rfl (lv_at hl 0 rfl) ?_
            refine c_get (C := RX8) (T := TX8) (N := 6) hx hb hts hin_X8 hown hK hP hm_3 rfl 1 (by decide) l_16 (fun _ h9 => h9) rfl dX8_addTender_59 ?_
            have hk_12 : kd (F 1 h) = 28 := hW.ref (f := 1) hk_h rfl (by decide)
            have hl_13 : (L (F 1 h)).length ≤ 60 := hW.len hk_12 (by decide)
            obtain ⟨fs_hm_14, hm_14⟩ := hC.obj hk_12 (by decide)
            refine vp_callSi (W.runV (As := []) (rest := []) ⟨hx, hb, hml, hown, hts⟩ ((cl_size l D cI cO cb eA mi st ws hD (F 1 h) (L (F 1 h)) (hC.lst hk_12 (by decide)))) (cwV 0 hts gX8_addTender_Jx4a65c_size_8abf5 rfl rfl rfl kd_Jx4a65c_size_8abf5 ⟨Nat.le_of_ble_eq_true rfl, Nat.le_of_ble_eq_true rfl⟩) ⟨cB_blind, c_recv hK hP rfl hm_14, cB_pre hK hG hA hS hP _⟩ rfl rfl hl.1 rfl (lv_room (Nat.le_of_ble_eq_true rfl)) dX8_addTender_62 ⟨Nat.le_of_ble_eq_true rfl, Nat.le_of_ble_eq_true rfl⟩) (fun r_15 hr_15 => ?_)
            subst hr_15
            refine lv_istore (lv' := [(5, .int (nI ((L (F 1 h)).length))), (0, .ref h), (1, .int (nI x1)), (2, .int (nI x2)), (3, .int (nI x3)), (4, .int (nI x4))]) hx hb dX8_addTender_65 hl (by decide) rfl (fun ls hl => ?_)
            refine lv_iload hx hb dX8_addTender_67 (lv_at hl 0 rfl) ?_
            refine lv_bipush (v := nI 6) hx hb dX8_addTender_69 (by decide) ?_
            refine n_icmp_lt (tgt := 82) hx hb dX8_addTender_71 (by decide) (by omega) (by decide) (fun c_16 => ?_) (fun c_16 => ?_)
            · refine lv_aload_n hx hb dX8_addTender_82 rfl (lv_at hl 1 rfl) ?_
              refine c_get (C := RX8) (T := TX8) (N := 6) hx hb hts hin_X8 hown hK hP hm_3 rfl 1 (by decide) l_16 (fun _ h9 => h9) rfl dX8_addTender_83 ?_
              have hC0 := hC
              refine va_new (ci := 8) (fs := [.int (nI 0), .int (nI 0), .int (nI 0), .int (nI 0), .int (nI 0), .null]) hx hb hts hin_X7 tyX7 tyX7_ok hown (hts (.classLink RX8 47 RX7) (List.mem_of_getElem? (i := 7) rfl)) (hts (.instantiable RX7 6) (List.mem_of_getElem? (i := 8) rfl)) (hts (.initialized RX7) (List.mem_of_getElem? (i := 9) rfl)) hK hP hD hS hA rfl (fun j9 h9 => by rcases j9 with _ | _ | _ | _ | _ | _ | j9 <;> first | rfl | omega) (Nat.le_of_ble_eq_true rfl) (Nat.le_of_ble_eq_true rfl) dX8_addTender_86 (fun q H hP hD hS => ?_)
              have hq0 := hC0.fresh hD
              have hC := hC0.app (ws2 := [(q, .inr (8, [.int (nI 0), .int (nI 0), .int (nI 0), .int (nI 0), .int (nI 0), .null]))])
              have hq1 : (q, .inr (8, [.int (nI 0), .int (nI 0), .int (nI 0), .int (nI 0), .int (nI 0), .null])) ∈ (ws ++ [(q, .inr (8, [.int (nI 0), .int (nI 0), .int (nI 0), .int (nI 0), .int (nI 0), .null]))]) := List.mem_append_right _ (List.mem_singleton.mpr rfl)
              have hDq := hD
              refine lv_dup hx hb dX8_addTender_89 rfl ?_
              refine lv_iload hx hb dX8_addTender_90 (lv_at hl 0 rfl) ?_
              refine lv_iload_n hx hb dX8_addTender_92 rfl (lv_at hl 2 rfl) ?_
              refine lv_iload_n hx hb dX8_addTender_93 rfl (lv_at hl 3 rfl) ?_
              refine lv_iload_n hx hb dX8_addTender_94 rfl (lv_at hl 4 rfl) ?_
              refine lv_iload hx hb dX8_addTender_95 (lv_at hl 5 rfl) ?_
              refine va_callv (va_runI (As := [.int (nI ((L (F 1 h)).length)), .int (nI x1), .int (nI x2), .int (nI x3), .int (nI x4)]) (rest := [.ref q, .ref (F 1 h)]) ⟨hx, hb, hml, hown, hts⟩ (ci_X7 l D cI cO cb eA mi st (ws ++ [(q, .inr (8, [.int (nI 0), .int (nI 0), .int (nI 0), .int (nI 0), .int (nI 0), .null]))]) hD q hq1 ((L (F 1 h)).length) x1 x2 x3 x4) (cwI 5 hts ggX8_addTender_X7_init rfl rfl rfl (hts (.initialized RX7) (List.mem_of_getElem? (i := 9) rfl)) (hts (.methodLink RX8 49 yX7_init) (List.mem_of_getElem? (i := 20) rfl)) (hts (.instanceMethod yX7_init) (List.mem_of_getElem? (i := 21) rfl)) rfl kd_X7_init ⟨Nat.le_of_ble_eq_true rfl, Nat.le_of_ble_eq_true rfl⟩) ⟨cB_blind, cB_pre hK hG hA hS hP _⟩ rfl rfl hl.1 rfl (lv_room (Nat.le_of_ble_eq_true rfl)) dX8_addTender_97 ⟨Nat.le_of_ble_eq_true rfl, Nat.le_of_ble_eq_true rfl⟩) hS (fun _ _ h => h) (fun _ h => h) (fun un U8 H1 locs1 ht hvm hu hB hz1 hk1 hS1 => ?_)
              obtain ⟨hD1, hB⟩ := hB
              rw [ht] at hB
              clear hS
              have hS := hS1
              replace hP := hB
              replace hD := hD1
              generalize H1 = H at hP hS ⊢
              obtain ⟨r1, hr1⟩ : ∃ r1, r1 = un := ⟨_, rfl⟩
              rw [← hr1] at hP hD
              rw [wup_app2 hDq] at hP hD
              have hCq := hC0.app (ws2 := [(q, .inr (8, [.int (nI ((L (F 1 h)).length)), .int (nI x1), .int (nI x2), .int (nI x3), .int (nI x4), .ref r1]))])
              have hr0 : kd r1 = 0 := hCq.fresh hD
              have hqr1 : q ≠ r1 := w_new hD (List.mem_append_right _ (List.mem_singleton.mpr rfl))
              have hqB : (kdN kd r1 27) q = 0 := (kdN_ne hqr1).trans hq0
              have hC := ((hC0.newL2 (q := r1) (k := 27) (mc := nI 0) (by decide)).new2 (q := q) (k := 8) (vals := [(L (F 1 h)).length, x1, x2, x3, x4, r1]) (x := .inr (8, [.int (nI ((L (F 1 h)).length)), .int (nI x1), .int (nI x2), .int (nI x3), .int (nI x4), .ref r1])) (by decide) (by simp [ent, FN])).mono mem_sw
              have hr9 : ∀ f9, rg 8 f9 = 0 ∨ ([(L (F 1 h)).length, x1, x2, x3, x4, r1] : List Nat).getD f9 0 < rg 8 f9 := by
                intro f9
                rcases f9 with _ | _ | _ | _ | _ | _ | f9
                · exact Or.inr (show (L (F 1 h)).length < 6 by omega)
                · exact Or.inr (show x1 < 1001 by omega)
                · exact Or.inr (show x2 < 64 by omega)
                · exact Or.inr (show x3 < 101 by omega)
                · exact Or.inr (show x4 < 31 by omega)
                · exact Or.inl rfl
                · exact Or.inl rfl
              have hr8 : ∀ f9, rk 8 f9 = 0 ∨ (kdN kd r1 27) (([(L (F 1 h)).length, x1, x2, x3, x4, r1] : List Nat).getD f9 0) = rk 8 f9 := by
                intro f9
                rcases f9 with _ | _ | _ | _ | _ | _ | f9
                · exact Or.inl rfl
                · exact Or.inl rfl
                · exact Or.inl rfl
                · exact Or.inl rfl
                · exact Or.inl rfl
                · exact Or.inr (show (kdN kd r1 27) (r1) = 27 from kdN_eq)
                · exact Or.inl rfl
              have hW := (hW.newL (k := 27) hr0 (by decide) (by decide)).new (k := 8) hqB (by decide) hr9 hr8
              have eLL : (upL L r1 []) (F 1 h) = L (F 1 h) := upL_ne (ne_q hr0 (hW0.ref hk_h rfl (by decide) : kd (F 1 h) = 28) (by decide))
              have hll : ((upL L r1 []) (F 1 h)).length < 6 := by rw [eLL]; omega
              obtain ⟨fs_hm_17, hm_17⟩ := hC.obj (kdN_old hqB (kdN_old hr0 hk_12 (by decide)) (by decide)) (by decide)
              refine va_calli (va_runV (As := [.ref q]) (rest := []) ⟨hx, hb, hml, hown, hts⟩ (cl_add l D cI cO cb eA mi st ((ws ++ [(q, .inr (8, [.int (nI ((L (F 1 h)).length)), .int (nI x1), .int (nI x2), .int (nI x3), .int (nI x4), .ref r1]))]) ++ [(r1, eL (nI 0) eA 0)]) hD (F 1 h) ((upL L r1 []) (F 1 h)) q (hC.lst (kdN_old hqB (kdN_old hr0 hk_12 (by decide)) (by decide)) (by decide)) (hC.els hW (kdN_old hqB (kdN_old hr0 hk_12 (by decide)) (by decide)) (by decide)) (hC.elt (by rw [kdN_eq]; decide) (by rw [kdN_eq]; decide)) (by omega)) (cwV 1 hts gX8_addTender_Jx4a65c_add_9ea2d rfl rfl rfl kd_Jx4a65c_add_9ea2d ⟨Nat.le_of_ble_eq_true rfl, Nat.le_of_ble_eq_true rfl⟩) ⟨cB_blind, c_recv hK hP rfl hm_17, cB_pre hK hG hA hS hP _⟩ rfl rfl hl.1 rfl (lv_room (Nat.le_of_ble_eq_true rfl)) dX8_addTender_100 ⟨Nat.le_of_ble_eq_true rfl, Nat.le_of_ble_eq_true rfl⟩) hS (fun _ _ h => h) (fun _ h => h) (fun ri u U8 H1 locs1 ht hvm hu hB hz1 hk1 hS1 => ?_)
              obtain ⟨hri, hu1, hu2, hD⟩ := hu
              subst hri
              rw [ht] at hB
              clear hS
              have hS := hS1
              replace hP := hB
              generalize H1 = H at hP hS ⊢
              have hC := hC.setL hu2 hu1
              have hW := hW.setL (kdN_old hqB (kdN_old hr0 hk_12 (by decide)) (by decide)) (show ((upL L r1 []) (F 1 h) ++ [q]).length ≤ 60 by rw [List.length_append]; show _ + 1 ≤ 60; omega) (els_add (fun x9 h9 => by rw [(hW.2.2 _ (by rw [(kdN_old hqB (kdN_old hr0 hk_12 (by decide)) (by decide))]; decide)).2.2.2 x9 h9]; exact (kdN_old hqB (kdN_old hr0 hk_12 (by decide)) (by decide))) (by rw [kdN_eq]))
              refine lv_pop hx hb dX8_addTender_103 rfl ?_
              refine lv_iload hx hb dX8_addTender_104 (lv_at hl 0 rfl) ?_
              refine W.widen (k := 4) (n := 114) (by omega) (by omega) ?_
              refine vx_ret ?_
              have hk9 : ks (kArg (nI x1) (nI 1) (nI 1000)) (ks (if x1 ≤ F 5 h then 2 else 0) (ks (kArg (nI x2) (nI 0) (nI 63)) (ks (kArg (nI x3) (nI 0) (nI 100)) (ks (kArg (nI x4) (nI 0) (nI 30)) (if (L (F 1 h)).length < 6 then 0 else 3))))) = 0 := by exact (ks_r (if_neg dd_c_2)).trans ((ks_r (if_neg (by omega))).trans ((ks_r (if_neg dd_c_7)).trans ((ks_r (if_neg dd_c_9)).trans ((ks_r (if_neg dd_c_11)).trans (if_pos (by omega))))))
              exact W.iret (v := nI ((L (F 1 h)).length)) hx hb hr (fun U9 ht hW9 => ⟨⟨_, (u.1, u.2, q, r1), rfl, ⟨hk9, rfl, hC, hW, hq0, hr0, hqr1, hD⟩, by show va_P D vwCl _ U9.heap; rw [ht]; exact hP⟩, hS.F ht⟩) hS.2.2 dX8_addTender_106
            · have hkx : ks (kArg (nI x1) (nI 1) (nI 1000)) (ks (if x1 ≤ F 5 h then 2 else 0) (ks (kArg (nI x2) (nI 0) (nI 63)) (ks (kArg (nI x3) (nI 0) (nI 100)) (ks (kArg (nI x4) (nI 0) (nI 30)) (if (L (F 1 h)).length < 6 then 0 else 3))))) = 3 := by exact (ks_r (if_neg dd_c_2)).trans ((ks_r (if_neg (by omega))).trans ((ks_r (if_neg dd_c_7)).trans ((ks_r (if_neg dd_c_9)).trans ((ks_r (if_neg dd_c_11)).trans (if_neg (by omega))))))
              exact vx_throw0 (A := A) (own := RX8) (cls := "java/lang/IllegalStateException") (names := ["java/lang/RuntimeException", "java/lang/Exception"]) (ik := 44) (ic := 46) hx hb hst hown (by decide +kernel) (by decide +kernel) (hts (.classLink RX8 44 "java/lang/IllegalStateException") (List.mem_of_getElem? (i := 3) rfl)) (hts (.initialized "java/lang/IllegalStateException") (List.mem_of_getElem? (i := 4) rfl)) (vx_hat (L := vx_at0 RX8 46 "java/lang/IllegalStateException" ["java/lang/RuntimeException", "java/lang/Exception"]) (fun w9 h9 => hts w9 (List.mem_cons_of_mem _ (List.mem_append_right _ h9))) gB3 (gB_of (by decide +kernel) hG.2.2.2.2.2.2.1)) (by decide +kernel) hG.1 hG.2.1 hS (hl.1.trans hml.symm) dX8_addTender_74 dX8_addTender_77 dX8_addTender_78 dX8_addTender_81 (fun z9 h9 => (htab z9 h9).elim) (by decide) (Nat.le_of_ble_eq_true rfl) (Nat.le_of_ble_eq_true rfl) (Nat.le_of_ble_eq_true rfl) hlocks (fun t9 _ g2 g3 => ⟨(), trivial, ⟨by rw [hkx]; rfl, by rw [hkx]; decide, (x_keep hS hP g2 g3).1⟩, (x_keep hS hP g2 g3).2⟩) hS.2.2 (Nat.le_of_ble_eq_true rfl) (Nat.le_of_ble_eq_true rfl)
          · have dd_c_11 := of_decide_eq_true c_11
            have hkx : ks (kArg (nI x1) (nI 1) (nI 1000)) (ks (if x1 ≤ F 5 h then 2 else 0) (ks (kArg (nI x2) (nI 0) (nI 63)) (ks (kArg (nI x3) (nI 0) (nI 100)) (ks (kArg sd (nI 0) (nI 30)) (if (L (F 1 h)).length < 6 then 0 else 3))))) = 2 := by first | exact (ks_l (by rw [kArg, if_pos dd_c_2]; decide)).trans (if_pos dd_c_2) | exact (ks_r (if_neg dd_c_2)).trans ((ks_l (by rw [if_pos (by omega)]; decide)).trans (if_pos (by omega))) | exact (ks_r (if_neg dd_c_2)).trans ((ks_r (if_neg (by omega))).trans ((ks_l (by rw [kArg, if_pos dd_c_7]; decide)).trans (if_pos dd_c_7))) | exact (ks_r (if_neg dd_c_2)).trans ((ks_r (if_neg (by omega))).trans ((ks_r (if_neg dd_c_7)).trans ((ks_l (by rw [kArg, if_pos dd_c_9]; decide)).trans (if_pos dd_c_9)))) | exact (ks_r (if_neg dd_c_2)).trans ((ks_r (if_neg (by omega))).trans ((ks_r (if_neg dd_c_7)).trans ((ks_r (if_neg dd_c_9)).trans ((ks_l (by rw [kArg, if_pos dd_c_11]; decide)).trans (if_pos dd_c_11)))))
            exact vx_throw0 (A := A) (own := RX8) (cls := "java/lang/IllegalArgumentException") (names := ["java/lang/RuntimeException", "java/lang/Exception"]) (ik := 37) (ic := 39) hx hb hst hown (by decide +kernel) (by decide +kernel) (hts (.classLink RX8 37 "java/lang/IllegalArgumentException") (List.mem_of_getElem? (i := 1) rfl)) (hts (.initialized "java/lang/IllegalArgumentException") (List.mem_of_getElem? (i := 2) rfl)) (vx_hat (L := vx_at0 RX8 39 "java/lang/IllegalArgumentException" ["java/lang/RuntimeException", "java/lang/Exception"]) (fun w9 h9 => hts w9 (List.mem_cons_of_mem _ (List.mem_append_left _ (List.mem_append_right _ h9)))) gB2 (gB_of (by decide +kernel) hG.2.2.2.2.2.2.1)) (by decide +kernel) hG.1 hG.2.1 hS (hl.1.trans hml.symm) dX8_addTender_50 dX8_addTender_53 dX8_addTender_54 dX8_addTender_57 (fun z9 h9 => (htab z9 h9).elim) (by decide) (Nat.le_of_ble_eq_true rfl) (Nat.le_of_ble_eq_true rfl) (Nat.le_of_ble_eq_true rfl) hlocks (fun t9 _ g2 g3 => ⟨(), trivial, ⟨by rw [hkx]; rfl, by rw [hkx]; decide, (x_keep hS hP g2 g3).1⟩, (x_keep hS hP g2 g3).2⟩) hS.2.2 (Nat.le_of_ble_eq_true rfl) (Nat.le_of_ble_eq_true rfl)
set_option maxHeartbeats 4000000 in
set_option maxRecDepth 100000 in
theorem cm_addLot (l : Launch) (hst : l.stackTraces = false) (D : va_G) (cI cO cb : ClassId) (eA mi : Nat) (st : Nat → Nat) {A : Nat → Prop} (ws : va_W) (hD : va_D A ws) {own kd : Nat → Nat} {F : Nat → Nat → Nat} {L : Nat → List Nat} (hC : CW cI cO eA st own kd F L ws) (hW : WF kd F L) (hs : sInj st)  (h : Nat) (hk_h : kd h = 9) (t : Int32) (de : Int32) : vx_Met l yX8_addLot wsX8_addLot ({ frames := 7, cells := 6, slots := 126, locals := 191 }) (va_Pc [.ref h, .int t, .int de] (cB D cI cO cb eA mi st A ws)) (va_Qi (fun (ri : Int32) (u : va_W × (Nat → Nat) × Nat × Nat × Nat) => ks (kIx t (L (F 1 h)).length) (ks (kArg de (nI 0) (nI 10000)) (if (L (F 5 (ga (L (F 1 h)) t))).length < 3 ∧ ¬ F 1 (ga (L (F 1 h)) t) ≤ F 5 h then 0 else 3)) = 0 ∧ ri = nI ((L (F 5 (ga (L (F 1 h)) t))).length) ∧ CW cI cO eA st u.2.1 (kdN (kdN (kdN kd u.2.2.2.1 23) u.2.2.2.2 24) u.2.2.1 7) (FN F u.2.2.1 [ga (L (F 1 h)) t, (L (F 5 (ga (L (F 1 h)) t))).length, de.toNatClampNeg, u.2.2.2.1, u.2.2.2.2]) (upL (upL (upL L u.2.2.2.1 []) u.2.2.2.2 []) (F 5 (ga (L (F 1 h)) t)) ((upL (upL L u.2.2.2.1 []) u.2.2.2.2 []) (F 5 (ga (L (F 1 h)) t)) ++ [u.2.2.1])) u.1 ∧ WF (kdN (kdN (kdN kd u.2.2.2.1 23) u.2.2.2.2 24) u.2.2.1 7) (FN F u.2.2.1 [ga (L (F 1 h)) t, (L (F 5 (ga (L (F 1 h)) t))).length, de.toNatClampNeg, u.2.2.2.1, u.2.2.2.2]) (upL (upL (upL L u.2.2.2.1 []) u.2.2.2.2 []) (F 5 (ga (L (F 1 h)) t)) ((upL (upL L u.2.2.2.1 []) u.2.2.2.2 []) (F 5 (ga (L (F 1 h)) t)) ++ [u.2.2.1])) ∧ kd u.2.2.1 = 0 ∧ kd u.2.2.2.1 = 0 ∧ kd u.2.2.2.2 = 0 ∧ u.2.2.1 ≠ u.2.2.2.1 ∧ u.2.2.1 ≠ u.2.2.2.2 ∧ u.2.2.2.1 ≠ u.2.2.2.2 ∧ va_D A u.1) (fun u U9 => va_P D vwCl u.1 U9.heap) A) (XK D ws A (ks (kIx t (L (F 1 h)).length) (ks (kArg de (nI 0) (nI 10000)) (if (L (F 5 (ga (L (F 1 h)) t))).length < 3 ∧ ¬ F 1 (ga (L (F 1 h)) t) ≤ F 5 h then 0 else 3)))) 6 126 A := by
  refine vx_ofW (cc := cX8_addLot) (maxL := 5) (ret := (some .int)) (by decide) rfl ?_
  intro p e s m args below meth c s₁ B hml htab hv
  obtain ⟨rfl, hP, hK, hG, hA⟩ := hv
  have hx := B.exec
  have hb := B.bytes
  have hr := B.returns
  have hts := atoms_spec (ws := wsX8_addLot) B.pre
  have hown : s.vm.findClass RX8 = some m.cls := findClass_of_methodNamed B.named
  have hlocks := B.notSynchronized
  have hin_X5 : ∀ w ∈ wsX50, w ∈ wsX8_addLot := fun w h => List.mem_cons_of_mem _ (List.mem_append_left _ (List.mem_append_left _ (List.mem_append_left _ (List.mem_append_left _ (List.mem_append_left _ (List.mem_append_right _ h))))))
  have hin_X7 : ∀ w ∈ wsX70, w ∈ wsX8_addLot := fun w h => List.mem_cons_of_mem _ (List.mem_append_left _ (List.mem_append_left _ (List.mem_append_left _ (List.mem_append_left _ (List.mem_append_left _ (List.mem_append_left _ (List.mem_append_right _ h)))))))
  have l_60 := (hts (.fieldLink RX8 60 "TenderHall$Tender" "lots" "Ljava/util/ArrayList;") (List.mem_of_getElem? (i := 5) rfl))
  have hS : va_S A s.heap s.heap [] := va_S.rf
  have hD0 := hD
  have hl := lv_entry ([.ref h, .int t, .int de]) (n := 5) (Nat.le_of_ble_eq_true rfl)
  rw [lg_entry_eq]
  generalize (lg_sl ([.ref h, .int t, .int de]) ++ List.replicate (5 - (lg_sl ([.ref h, .int t, .int de])).length) Slot.unset).toArray = ls at hl ⊢
  have hl : lv_has ls 5 [(0, .ref h), (1, .int t), (2, .int de)] := hl
  have hW0 := hW
  refine lv_aload_n hx hb dX8_addLot_0 rfl (lv_at hl 0 rfl) ?_
  refine lv_iload_n hx hb dX8_addLot_1 rfl (lv_at hl 1 rfl) ?_
  have hm_1 : (h, .inr (9, [.ref (F 0 h), .ref (F 1 h), .ref (F 2 h), .ref (F 3 h), .ref (F 4 h), .int (nI (F 5 h))])) ∈ ws := hC.at hk_h (by decide) (by decide)
  refine vx_callr (vx_runV (As := [.int t]) (rest := []) ⟨hx, hb, hml, hown, hts⟩ (cx_tenderAt l hst D cI cO cb eA mi st ws hD hC hW hs h hk_h t) (cwV 1 hts gX8_addLot_X8_tenderAt rfl rfl rfl kd_X8_tenderAt ⟨Nat.le_of_ble_eq_true rfl, Nat.le_of_ble_eq_true rfl⟩) ⟨cB_blind, c_recv hK hP rfl hm_1, cB_pre hK hG hA hS hP _⟩ rfl rfl hl.1 rfl (lv_room (Nat.le_of_ble_eq_true rfl)) dX8_addLot_2 ⟨Nat.le_of_ble_eq_true rfl, Nat.le_of_ble_eq_true rfl⟩) hS (fun _ _ h => h) (fun _ h => h) (fun _ _ h => h) (fun E9 ce9 q9 u U8 H1 locs1 ht hvm hu hB hz1 hk1 hS1 hc1 hc2 hc3 => ?_) (fun u ra U8 H1 locs1 ht hvm hu hB hz1 hk1 hS1 => ?_)
  · obtain ⟨hB1, hB2, hB3⟩ := hB
    rw [ht] at hB3
    have hkx : ks (kIx t (L (F 1 h)).length) (ks (kArg de (nI 0) (nI 10000)) (if (L (F 5 (ga (L (F 1 h)) t))).length < 3 ∧ ¬ F 1 (ga (L (F 1 h)) t) ≤ F 5 h then 0 else 3)) = (kIx t (L (F 1 h)).length) := by exact ks_l hB2
    exact vx_out (fun z9 h9 => (htab z9 h9).elim) hlocks hc1 hc2 hc3 (fun t9 g1 g2 => ⟨(), trivial, ⟨by rw [hkx]; exact hB1, by rw [hkx]; exact hB2, by rw [g1]; exact hB3⟩, hS1.F g1⟩) hS1.2.2 (Nat.le_of_ble_eq_true rfl) (Nat.le_of_ble_eq_true rfl)
  · have hk0_2 : (kIx t (L (F 1 h)).length) = 0 := hu
    obtain ⟨hra, hB2⟩ := hB
    subst hra
    replace hB2 : va_P D vwCl ws U8.heap := hB2
    rw [ht] at hB2
    clear hS
    have hS := hS1
    replace hP := hB2
    generalize H1 = H at hP hS ⊢
    have hk_3 : kd (ga (L (F 1 h)) t) = 8 := hW.ela (hW.ref hk_h rfl (by decide)) hk0_2
    refine lv_astore_n (lv' := [(3, .ref (ga (L (F 1 h)) t)), (0, .ref h), (1, .int t), (2, .int de)]) hx hb dX8_addLot_5 rfl hl (by decide) rfl (fun ls hl => ?_)
    refine lv_iload_n hx hb dX8_addLot_6 rfl (lv_at hl 3 rfl) ?_
    refine lv_iconst (v := nI 0) hx hb dX8_addLot_7 (by decide) ?_
    refine lv_sipush (v := nI 10000) hx hb dX8_addLot_8 (by decide) ?_
    refine vp_callSi (W.runS (As := [.int de, .int (nI 0), .int (nI 10000)]) (rest := []) ⟨hx, hb, hml, hown, hts⟩ (ck_isOutside l de (nI 0) (nI 10000)) (va_cwS 3 hts gX8_addLot_X8_isOutside rfl rfl rfl kd_X8_isOutside ⟨Nat.le_of_ble_eq_true rfl, Nat.le_of_ble_eq_true rfl⟩) ⟨fun _ _ _ _ q => q, fun U hU hW => ⟨rfl, trivial⟩⟩ rfl rfl hl.1 rfl (lv_room (Nat.le_of_ble_eq_true rfl)) dX8_addLot_11 ⟨Nat.le_of_ble_eq_true rfl, Nat.le_of_ble_eq_true rfl⟩) (fun r_4 hr_4 => ?_)
    subst hr_4
    refine b_if_eq (tgt := 25) hx hb dX8_addLot_14 (by decide)  (fun c_5 => ?_) (fun c_5 => ?_)
    · have dd_c_5 := of_decide_eq_false c_5
      obtain ⟨x, hlo_x, hhi_x, rfl⟩ := out_nat (by decide) (by decide) dd_c_5
      have hcl_x : (nI x).toNatClampNeg = x := nI_clamp (by omega)
      rw [hcl_x]
      refine lv_aload_n hx hb dX8_addLot_25 rfl (lv_at hl 0 rfl) ?_
      have hm_6 : (ga (L (F 1 h)) t, .inr (8, [.int (nI (F 0 (ga (L (F 1 h)) t))), .int (nI (F 1 (ga (L (F 1 h)) t))), .int (nI (F 2 (ga (L (F 1 h)) t))), .int (nI (F 3 (ga (L (F 1 h)) t))), .int (nI (F 4 (ga (L (F 1 h)) t))), .ref (F 5 (ga (L (F 1 h)) t))])) ∈ ws := hC.at hk_3 (by decide) (by decide)
      refine c_get (C := RX7) (T := TX7) (N := 6) hx hb hts hin_X7 hown hK hP hm_6 rfl 5 (by decide) l_60 (fun _ h9 => h9) rfl dX8_addLot_26 ?_
      have hk_7 : kd (F 5 (ga (L (F 1 h)) t)) = 27 := hW.ref (f := 5) hk_3 rfl (by decide)
      have hl_8 : (L (F 5 (ga (L (F 1 h)) t))).length ≤ 60 := hW.len hk_7 (by decide)
      obtain ⟨fs_hm_9, hm_9⟩ := hC.obj hk_7 (by decide)
      refine vp_callSi (W.runV (As := []) (rest := []) ⟨hx, hb, hml, hown, hts⟩ ((cl_size l D cI cO cb eA mi st ws hD (F 5 (ga (L (F 1 h)) t)) (L (F 5 (ga (L (F 1 h)) t))) (hC.lst hk_7 (by decide)))) (cwV 0 hts gX8_addLot_Jx4a65c_size_8abf5 rfl rfl rfl kd_Jx4a65c_size_8abf5 ⟨Nat.le_of_ble_eq_true rfl, Nat.le_of_ble_eq_true rfl⟩) ⟨cB_blind, c_recv hK hP rfl hm_9, cB_pre hK hG hA hS hP _⟩ rfl rfl hl.1 rfl (lv_room (Nat.le_of_ble_eq_true rfl)) dX8_addLot_29 ⟨Nat.le_of_ble_eq_true rfl, Nat.le_of_ble_eq_true rfl⟩) (fun r_10 hr_10 => ?_)
      subst hr_10
      refine lv_istore (lv' := [(4, .int (nI ((L (F 5 (ga (L (F 1 h)) t))).length))), (3, .ref (ga (L (F 1 h)) t)), (0, .ref h), (1, .int t), (2, .int (nI x))]) hx hb dX8_addLot_32 hl (by decide) rfl (fun ls hl => ?_)
      refine lv_iload hx hb dX8_addLot_34 (lv_at hl 0 rfl) ?_
      refine lv_iconst (v := nI 3) hx hb dX8_addLot_36 (by decide) ?_
      refine n_icmp_ge (tgt := 48) hx hb dX8_addLot_37 (by decide) (by omega) (by decide) (fun c_11 => ?_) (fun c_11 => ?_)
      · have hkx : ks (kIx t (L (F 1 h)).length) (ks (kArg (nI x) (nI 0) (nI 10000)) (if (L (F 5 (ga (L (F 1 h)) t))).length < 3 ∧ ¬ F 1 (ga (L (F 1 h)) t) ≤ F 5 h then 0 else 3)) = 3 := by exact (ks_r hk0_2).trans ((ks_r (if_neg dd_c_5)).trans (if_neg (by rintro ⟨q1, q2⟩; omega)))
        exact vx_throw0 (A := A) (own := RX8) (cls := "java/lang/IllegalStateException") (names := ["java/lang/RuntimeException", "java/lang/Exception"]) (ik := 44) (ic := 46) hx hb hst hown (by decide +kernel) (by decide +kernel) (hts (.classLink RX8 44 "java/lang/IllegalStateException") (List.mem_of_getElem? (i := 3) rfl)) (hts (.initialized "java/lang/IllegalStateException") (List.mem_of_getElem? (i := 4) rfl)) (vx_hat (L := vx_at0 RX8 46 "java/lang/IllegalStateException" ["java/lang/RuntimeException", "java/lang/Exception"]) (fun w9 h9 => hts w9 (List.mem_cons_of_mem _ (List.mem_append_left _ (List.mem_append_right _ h9)))) gB3 (gB_of (by decide +kernel) hG.2.2.2.2.2.2.1)) (by decide +kernel) hG.1 hG.2.1 hS (hl.1.trans hml.symm) dX8_addLot_48 dX8_addLot_51 dX8_addLot_52 dX8_addLot_55 (fun z9 h9 => (htab z9 h9).elim) (by decide) (Nat.le_of_ble_eq_true rfl) (Nat.le_of_ble_eq_true rfl) (Nat.le_of_ble_eq_true rfl) hlocks (fun t9 _ g2 g3 => ⟨(), trivial, ⟨by rw [hkx]; rfl, by rw [hkx]; decide, (x_keep hS hP g2 g3).1⟩, (x_keep hS hP g2 g3).2⟩) hS.2.2 (Nat.le_of_ble_eq_true rfl) (Nat.le_of_ble_eq_true rfl)
      · refine lv_aload_n hx hb dX8_addLot_40 rfl (lv_at hl 2 rfl) ?_
        refine lv_aload_n hx hb dX8_addLot_41 rfl (lv_at hl 1 rfl) ?_
        refine vp_callSi (W.runV (As := [.ref (ga (L (F 1 h)) t)]) (rest := []) ⟨hx, hb, hml, hown, hts⟩ (ck_isOpened l D cI cO cb eA mi st ws hD hC hW hs h hk_h (ga (L (F 1 h)) t) hk_3) (cwV 1 hts gX8_addLot_X8_isOpened rfl rfl rfl kd_X8_isOpened ⟨Nat.le_of_ble_eq_true rfl, Nat.le_of_ble_eq_true rfl⟩) ⟨cB_blind, c_recv hK hP rfl hm_1, cB_pre hK hG hA hS hP _⟩ rfl rfl hl.1 rfl (lv_room (Nat.le_of_ble_eq_true rfl)) dX8_addLot_42 ⟨Nat.le_of_ble_eq_true rfl, Nat.le_of_ble_eq_true rfl⟩) (fun r_12 hr_12 => ?_)
        subst hr_12
        refine b_if_eq (tgt := 56) hx hb dX8_addLot_45 (by decide)  (fun c_13 => ?_) (fun c_13 => ?_)
        · have dd_c_13 := of_decide_eq_false c_13
          refine lv_aload_n hx hb dX8_addLot_56 rfl (lv_at hl 1 rfl) ?_
          refine c_get (C := RX7) (T := TX7) (N := 6) hx hb hts hin_X7 hown hK hP hm_6 rfl 5 (by decide) l_60 (fun _ h9 => h9) rfl dX8_addLot_57 ?_
          have hC0 := hC
          refine va_new (ci := 7) (fs := [.null, .int (nI 0), .int (nI 0), .null, .null]) hx hb hts hin_X5 tyX5 tyX5_ok hown (hts (.classLink RX8 67 RX5) (List.mem_of_getElem? (i := 6) rfl)) (hts (.instantiable RX5 5) (List.mem_of_getElem? (i := 7) rfl)) (hts (.initialized RX5) (List.mem_of_getElem? (i := 8) rfl)) hK hP hD hS hA rfl (fun j9 h9 => by rcases j9 with _ | _ | _ | _ | _ | j9 <;> first | rfl | omega) (Nat.le_of_ble_eq_true rfl) (Nat.le_of_ble_eq_true rfl) dX8_addLot_60 (fun q H hP hD hS => ?_)
          have hq0 := hC0.fresh hD
          have hC := hC0.app (ws2 := [(q, .inr (7, [.null, .int (nI 0), .int (nI 0), .null, .null]))])
          have hq1 : (q, .inr (7, [.null, .int (nI 0), .int (nI 0), .null, .null])) ∈ (ws ++ [(q, .inr (7, [.null, .int (nI 0), .int (nI 0), .null, .null]))]) := List.mem_append_right _ (List.mem_singleton.mpr rfl)
          have hDq := hD
          refine lv_dup hx hb dX8_addLot_63 rfl ?_
          refine lv_aload_n hx hb dX8_addLot_64 rfl (lv_at hl 1 rfl) ?_
          refine lv_iload hx hb dX8_addLot_65 (lv_at hl 0 rfl) ?_
          refine lv_iload_n hx hb dX8_addLot_67 rfl (lv_at hl 4 rfl) ?_
          refine va_callv (va_runI (As := [.ref (ga (L (F 1 h)) t), .int (nI ((L (F 5 (ga (L (F 1 h)) t))).length)), .int (nI x)]) (rest := [.ref q, .ref (F 5 (ga (L (F 1 h)) t))]) ⟨hx, hb, hml, hown, hts⟩ (ci_X5 l D cI cO cb eA mi st (ws ++ [(q, .inr (7, [.null, .int (nI 0), .int (nI 0), .null, .null]))]) hD q hq1 (ga (L (F 1 h)) t) ((L (F 5 (ga (L (F 1 h)) t))).length) x) (cwI 3 hts ggX8_addLot_X5_init rfl rfl rfl (hts (.initialized RX5) (List.mem_of_getElem? (i := 8) rfl)) (hts (.methodLink RX8 69 yX5_init) (List.mem_of_getElem? (i := 50) rfl)) (hts (.instanceMethod yX5_init) (List.mem_of_getElem? (i := 51) rfl)) rfl kd_X5_init ⟨Nat.le_of_ble_eq_true rfl, Nat.le_of_ble_eq_true rfl⟩) ⟨cB_blind, cB_pre hK hG hA hS hP _⟩ rfl rfl hl.1 rfl (lv_room (Nat.le_of_ble_eq_true rfl)) dX8_addLot_68 ⟨Nat.le_of_ble_eq_true rfl, Nat.le_of_ble_eq_true rfl⟩) hS (fun _ _ h => h) (fun _ h => h) (fun un U8 H1 locs1 ht hvm hu hB hz1 hk1 hS1 => ?_)
          obtain ⟨hD1, hB⟩ := hB
          rw [ht] at hB
          clear hS
          have hS := hS1
          replace hP := hB
          replace hD := hD1
          generalize H1 = H at hP hS ⊢
          obtain ⟨r1, r2⟩ := un
          rw [wup_app2 hDq] at hP hD
          have hCq := hC0.app (ws2 := [(q, .inr (7, [.ref (ga (L (F 1 h)) t), .int (nI ((L (F 5 (ga (L (F 1 h)) t))).length)), .int (nI x), .ref r1, .ref r2]))])
          have hr0 : kd r1 = 0 := hCq.fresh hD.init
          have hr02 : kd r2 = 0 := (hCq.app (ws2 := [(r1, eL (nI 0) eA 0)])).fresh hD
          have hr12 : r1 ≠ r2 := w_new hD (List.mem_append_right _ (List.mem_singleton.mpr rfl))
          have hqr2 : q ≠ r2 := w_new hD (List.mem_append_left _ (List.mem_append_right _ (List.mem_singleton.mpr rfl)))
          have hrB : kdN kd r1 23 r2 = 0 := (kdN_ne (Ne.symm hr12)).trans hr02
          have hqr1 : q ≠ r1 := w_new hD.init (List.mem_append_right _ (List.mem_singleton.mpr rfl))
          have hqB : (kdN (kdN kd r1 23) r2 24) q = 0 := (kdN_ne hqr2).trans ((kdN_ne hqr1).trans hq0)
          have hC := (((hC0.newL2 (q := r1) (k := 23) (mc := nI 0) (by decide)).newL2 (q := r2) (k := 24) (mc := nI 0) (by decide)).new2 (q := q) (k := 7) (vals := [ga (L (F 1 h)) t, (L (F 5 (ga (L (F 1 h)) t))).length, x, r1, r2]) (x := .inr (7, [.ref (ga (L (F 1 h)) t), .int (nI ((L (F 5 (ga (L (F 1 h)) t))).length)), .int (nI x), .ref r1, .ref r2])) (by decide) (by simp [ent, FN])).mono mem_sw3
          have hr9 : ∀ f9, rg 7 f9 = 0 ∨ ([ga (L (F 1 h)) t, (L (F 5 (ga (L (F 1 h)) t))).length, x, r1, r2] : List Nat).getD f9 0 < rg 7 f9 := by
            intro f9
            rcases f9 with _ | _ | _ | _ | _ | f9
            · exact Or.inl rfl
            · exact Or.inr (show (L (F 5 (ga (L (F 1 h)) t))).length < 3 by omega)
            · exact Or.inr (show x < 10001 by omega)
            · exact Or.inl rfl
            · exact Or.inl rfl
            · exact Or.inl rfl
          have hr8 : ∀ f9, rk 7 f9 = 0 ∨ (kdN (kdN kd r1 23) r2 24) (([ga (L (F 1 h)) t, (L (F 5 (ga (L (F 1 h)) t))).length, x, r1, r2] : List Nat).getD f9 0) = rk 7 f9 := by
            intro f9
            rcases f9 with _ | _ | _ | _ | _ | f9
            · exact Or.inr (show (kdN (kdN kd r1 23) r2 24) (ga (L (F 1 h)) t) = 8 from (kdN_old hrB (kdN_old hr0 hk_3 (by decide)) (by decide)))
            · exact Or.inl rfl
            · exact Or.inl rfl
            · exact Or.inr (show (kdN (kdN kd r1 23) r2 24) (r1) = 23 from ((kdN_ne hr12).trans kdN_eq))
            · exact Or.inr (show (kdN (kdN kd r1 23) r2 24) (r2) = 24 from kdN_eq)
            · exact Or.inl rfl
          have hW := ((hW.newL (k := 23) hr0 (by decide) (by decide)).newL (k := 24) hrB (by decide) (by decide)).new (k := 7) hqB (by decide) hr9 hr8
          have hkt : kd (F 5 (ga (L (F 1 h)) t)) = 27 := hW0.ref (hW0.ela (hW0.ref hk_h rfl (by decide) : kd (F 1 h) = 28) hk0_2) rfl (by decide)
          have eLL : (upL (upL L r1 []) r2 []) (F 5 (ga (L (F 1 h)) t)) = L (F 5 (ga (L (F 1 h)) t)) := (upL_ne (ne_q hr02 hkt (by decide))).trans (upL_ne (ne_q hr0 hkt (by decide)))
          have hll : ((upL (upL L r1 []) r2 []) (F 5 (ga (L (F 1 h)) t))).length < 3 := by rw [eLL]; omega
          obtain ⟨fs_hm_14, hm_14⟩ := hC.obj (kdN_old hqB (kdN_old hrB (kdN_old hr0 hk_7 (by decide)) (by decide)) (by decide)) (by decide)
          refine va_calli (va_runV (As := [.ref q]) (rest := []) ⟨hx, hb, hml, hown, hts⟩ (cl_add l D cI cO cb eA mi st (((ws ++ [(q, .inr (7, [.ref (ga (L (F 1 h)) t), .int (nI ((L (F 5 (ga (L (F 1 h)) t))).length)), .int (nI x), .ref r1, .ref r2]))]) ++ [(r1, eL (nI 0) eA 0)]) ++ [(r2, eL (nI 0) eA 0)]) hD (F 5 (ga (L (F 1 h)) t)) ((upL (upL L r1 []) r2 []) (F 5 (ga (L (F 1 h)) t))) q (hC.lst (kdN_old hqB (kdN_old hrB (kdN_old hr0 hk_7 (by decide)) (by decide)) (by decide)) (by decide)) (hC.els hW (kdN_old hqB (kdN_old hrB (kdN_old hr0 hk_7 (by decide)) (by decide)) (by decide)) (by decide)) (hC.elt (by rw [kdN_eq]; decide) (by rw [kdN_eq]; decide)) (by omega)) (cwV 1 hts gX8_addLot_Jx4a65c_add_9ea2d rfl rfl rfl kd_Jx4a65c_add_9ea2d ⟨Nat.le_of_ble_eq_true rfl, Nat.le_of_ble_eq_true rfl⟩) ⟨cB_blind, c_recv hK hP rfl hm_14, cB_pre hK hG hA hS hP _⟩ rfl rfl hl.1 rfl (lv_room (Nat.le_of_ble_eq_true rfl)) dX8_addLot_71 ⟨Nat.le_of_ble_eq_true rfl, Nat.le_of_ble_eq_true rfl⟩) hS (fun _ _ h => h) (fun _ h => h) (fun ri u U8 H1 locs1 ht hvm hu hB hz1 hk1 hS1 => ?_)
          obtain ⟨hri, hu1, hu2, hD⟩ := hu
          subst hri
          rw [ht] at hB
          clear hS
          have hS := hS1
          replace hP := hB
          generalize H1 = H at hP hS ⊢
          have hC := hC.setL hu2 hu1
          have hW := hW.setL (kdN_old hqB (kdN_old hrB (kdN_old hr0 hk_7 (by decide)) (by decide)) (by decide)) (show ((upL (upL L r1 []) r2 []) (F 5 (ga (L (F 1 h)) t)) ++ [q]).length ≤ 60 by rw [List.length_append]; show _ + 1 ≤ 60; omega) (els_add (fun x9 h9 => by rw [(hW.2.2 _ (by rw [(kdN_old hqB (kdN_old hrB (kdN_old hr0 hk_7 (by decide)) (by decide)) (by decide))]; decide)).2.2.2 x9 h9]; exact (kdN_old hqB (kdN_old hrB (kdN_old hr0 hk_7 (by decide)) (by decide)) (by decide))) (by rw [kdN_eq]))
          refine lv_pop hx hb dX8_addLot_74 rfl ?_
          refine lv_iload hx hb dX8_addLot_75 (lv_at hl 0 rfl) ?_
          refine W.widen (k := 6) (n := 126) (by omega) (by omega) ?_
          refine vx_ret ?_
          have hk9 : ks (kIx t (L (F 1 h)).length) (ks (kArg (nI x) (nI 0) (nI 10000)) (if (L (F 5 (ga (L (F 1 h)) t))).length < 3 ∧ ¬ F 1 (ga (L (F 1 h)) t) ≤ F 5 h then 0 else 3)) = 0 := by exact (ks_r hk0_2).trans ((ks_r (if_neg dd_c_5)).trans (if_pos ⟨by omega, by omega⟩))
          exact W.iret (v := nI ((L (F 5 (ga (L (F 1 h)) t))).length)) hx hb hr (fun U9 ht hW9 => ⟨⟨_, (u.1, u.2, q, r1, r2), rfl, ⟨hk9, rfl, hC, hW, hq0, hr0, hr02, hqr1, hqr2, hr12, hD⟩, by show va_P D vwCl _ U9.heap; rw [ht]; exact hP⟩, hS.F ht⟩) hS.2.2 dX8_addLot_77
        · have dd_c_13 := of_decide_eq_true c_13
          have hkx : ks (kIx t (L (F 1 h)).length) (ks (kArg (nI x) (nI 0) (nI 10000)) (if (L (F 5 (ga (L (F 1 h)) t))).length < 3 ∧ ¬ F 1 (ga (L (F 1 h)) t) ≤ F 5 h then 0 else 3)) = 3 := by exact (ks_r hk0_2).trans ((ks_r (if_neg dd_c_5)).trans (if_neg (by rintro ⟨q1, q2⟩; omega)))
          exact vx_throw0 (A := A) (own := RX8) (cls := "java/lang/IllegalStateException") (names := ["java/lang/RuntimeException", "java/lang/Exception"]) (ik := 44) (ic := 46) hx hb hst hown (by decide +kernel) (by decide +kernel) (hts (.classLink RX8 44 "java/lang/IllegalStateException") (List.mem_of_getElem? (i := 3) rfl)) (hts (.initialized "java/lang/IllegalStateException") (List.mem_of_getElem? (i := 4) rfl)) (vx_hat (L := vx_at0 RX8 46 "java/lang/IllegalStateException" ["java/lang/RuntimeException", "java/lang/Exception"]) (fun w9 h9 => hts w9 (List.mem_cons_of_mem _ (List.mem_append_left _ (List.mem_append_right _ h9)))) gB3 (gB_of (by decide +kernel) hG.2.2.2.2.2.2.1)) (by decide +kernel) hG.1 hG.2.1 hS (hl.1.trans hml.symm) dX8_addLot_48 dX8_addLot_51 dX8_addLot_52 dX8_addLot_55 (fun z9 h9 => (htab z9 h9).elim) (by decide) (Nat.le_of_ble_eq_true rfl) (Nat.le_of_ble_eq_true rfl) (Nat.le_of_ble_eq_true rfl) hlocks (fun t9 _ g2 g3 => ⟨(), trivial, ⟨by rw [hkx]; rfl, by rw [hkx]; decide, (x_keep hS hP g2 g3).1⟩, (x_keep hS hP g2 g3).2⟩) hS.2.2 (Nat.le_of_ble_eq_true rfl) (Nat.le_of_ble_eq_true rfl)
    · have dd_c_5 := of_decide_eq_true c_5
      have hkx : ks (kIx t (L (F 1 h)).length) (ks (kArg de (nI 0) (nI 10000)) (if (L (F 5 (ga (L (F 1 h)) t))).length < 3 ∧ ¬ F 1 (ga (L (F 1 h)) t) ≤ F 5 h then 0 else 3)) = 2 := by exact (ks_r hk0_2).trans ((ks_l (by rw [kArg, if_pos dd_c_5]; decide)).trans (if_pos dd_c_5))
      exact vx_throw0 (A := A) (own := RX8) (cls := "java/lang/IllegalArgumentException") (names := ["java/lang/RuntimeException", "java/lang/Exception"]) (ik := 37) (ic := 39) hx hb hst hown (by decide +kernel) (by decide +kernel) (hts (.classLink RX8 37 "java/lang/IllegalArgumentException") (List.mem_of_getElem? (i := 1) rfl)) (hts (.initialized "java/lang/IllegalArgumentException") (List.mem_of_getElem? (i := 2) rfl)) (vx_hat (L := vx_at0 RX8 39 "java/lang/IllegalArgumentException" ["java/lang/RuntimeException", "java/lang/Exception"]) (fun w9 h9 => hts w9 (List.mem_cons_of_mem _ (List.mem_append_left _ (List.mem_append_left _ (List.mem_append_right _ h9))))) gB2 (gB_of (by decide +kernel) hG.2.2.2.2.2.2.1)) (by decide +kernel) hG.1 hG.2.1 hS (hl.1.trans hml.symm) dX8_addLot_17 dX8_addLot_20 dX8_addLot_21 dX8_addLot_24 (fun z9 h9 => (htab z9 h9).elim) (by decide) (Nat.le_of_ble_eq_true rfl) (Nat.le_of_ble_eq_true rfl) (Nat.le_of_ble_eq_true rfl) hlocks (fun t9 _ g2 g3 => ⟨(), trivial, ⟨by rw [hkx]; rfl, by rw [hkx]; decide, (x_keep hS hP g2 g3).1⟩, (x_keep hS hP g2 g3).2⟩) hS.2.2 (Nat.le_of_ble_eq_true rfl) (Nat.le_of_ble_eq_true rfl)
