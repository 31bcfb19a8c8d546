/-! the library's lists: add, remove -/
theorem gt_erase {vs : List Nat} {i j : Nat} (hi : i < vs.length) (hj : j < (vs.eraseIdx i).length) : (vs.eraseIdx i)[j] = if h : j < i then vs[j]'(by omega) else vs[j + 1]'(by have := List.length_eraseIdx_of_lt hi; omega) := by
  rw [List.getElem_eraseIdx]
/-- the end of a removal: the array's cell behind the copy, the size, the last place -/
theorem rem_end {cO : ClassId} {eA : Nat} {own : Nat → Nat} {A : Nat → Prop} {ws : va_W} (hD : va_D A ws) {a r n i : Nat} {mc mc2 : Int32} {vs : List Nat} {f g : Nat → Option Nat} (h1 : (a, eL mc r vs.length) ∈ ws) (ho : own r = a) (h3 : (r, aO cO n f) ∈ ws) (h4 : vs.length ≤ n) (h10 : 10 ≤ n) (hn : n ≤ 100) (hf : ∀ i (h : i < vs.length), f i = some vs[i]) (hi : i < vs.length)
    {ws4 : va_W} (ha : (a, eL mc2 r (vs.length - 1)) ∈ ws4) (hr : (r, aO cO n g) ∈ ws4) (hg : ∀ j, j < vs.length - 1 → g j = if j < i then f j else f (j + 1)) : Lst cO eA own ws4 a (vs.eraseIdx i) := by
  have hl := List.length_eraseIdx_of_lt hi
  refine ⟨mc2, r, by rw [hl]; exact ha, Or.inr ⟨ho, n, g, hr, by omega, h10, hn, fun j hj => ?_⟩⟩
  rw [hg j (by omega), gt_erase hi hj]
  by_cases h : j < i
  · rw [if_pos h, dif_pos h]; exact hf j (by omega)
  · rw [if_neg h, dif_neg h]; exact hf (j + 1) (by omega)
theorem rem_g1 {n i : Nat} {f : Nat → Option Nat} (h : i < n) (j : Nat) (hj : j < n - 1) : va_up (va_cpy f f (i + 1) i (n - 1 - i)) (n - 1) none j = if j < i then f j else f (j + 1) := by
  show (if j = n - 1 then none else va_cpy f f (i + 1) i (n - 1 - i) j) = _
  rw [if_neg (by omega)]
  unfold va_cpy
  by_cases h2 : j < i
  · rw [if_neg (by omega), if_pos h2]
  · rw [if_pos (by omega), if_neg h2, show i + 1 + (j - i) = j + 1 by omega]
theorem rem_g2 {n i : Nat} {f : Nat → Option Nat} (h : i < n) (h2 : n - 1 ≤ i) (j : Nat) (hj : j < n - 1) : va_up f (n - 1) none j = if j < i then f j else f (j + 1) := by
  show (if j = n - 1 then none else f j) = _
  rw [if_neg (by omega), if_pos (by omega)]
theorem Keeps.arr2 {cO : ClassId} {eA a : Nat} {own : Nat → Nat} {ws : va_W} {A : Nat → Prop} (hD : va_D A ws) {r n : Nat} {f g : Nat → Option Nat} (ha : (r, aO cO n f) ∈ ws) (hr : own r = a) : Keeps cO eA own ws own (wup ws r (aO cO n g)) a := Keeps.arr hD ha hr
set_option maxHeartbeats 4000000 in
set_option maxRecDepth 100000 in
theorem cl_add (l : Launch) (D : va_G) (cI cO cb : ClassId) (eA mi : Nat) (st : Nat → Nat) {A : Nat → Prop} (ws : va_W) (hD : va_D A ws) {own : Nat → Nat} (a : Nat) (vs : List Nat) (z : Nat) (hL : Lst cO eA own ws a vs) (hel : ∀ y ∈ vs, Elt ws y) (hz : Elt ws z) (hv : vs.length ≤ 64) : Met l yJx4a65c_add_9ea2d wsJx4a65c_add_9ea2d ({ frames := 6, cells := 1, slots := 96, locals := 170 }) (va_Pc [.ref a, .ref z] (cB D cI cO cb eA mi st A ws)) (va_Qi (fun (ri : Int32) (u : va_W × (Nat → Nat)) => ri = nI 1 ∧ Lst cO eA u.2 u.1 a (vs ++ [z]) ∧ Keeps cO eA own ws u.2 u.1 a ∧ va_D A u.1) (fun u U9 => va_P D vwCl u.1 U9.heap) A) 1 96 A := by
  refine Met.ofW (cc := cJx4a65c_add_9ea2d) (maxL := 2) (ret := (some .boolean)) (by decide) rfl ?_
  intro p e s m args below meth c s₁ B hml hv
  obtain ⟨rfl, hP, hK, hG, hA⟩ := hv
  have hx := B.exec
  have hb := B.bytes
  have hr := B.returns
  have hts := atoms_spec (ws := wsJx4a65c_add_9ea2d) B.pre
  have hown : s.vm.findClass RJx4a65c = some m.cls := findClass_of_methodNamed B.named
  have hlocks := B.notSynchronized
  have hin_Jx4a65c : ∀ w ∈ wsJx4a65c0, w ∈ wsJx4a65c_add_9ea2d := fun w h => List.mem_cons_of_mem _ (List.mem_append_right _ h)
  have l_63 := (hts (.fieldLink RJx4a65c 63 "java/util/ArrayList" "modCount" "I") (List.mem_of_getElem? (i := 1) rfl))
  have l_9 := (hts (.fieldLink RJx4a65c 9 "java/util/ArrayList" "elementData" "[Ljava/lang/Object;") (List.mem_of_getElem? (i := 3) rfl))
  have l_48 := (hts (.fieldLink RJx4a65c 48 "java/util/ArrayList" "size" "I") (List.mem_of_getElem? (i := 4) rfl))
  have hS : va_S A s.heap s.heap [] := va_S.rf
  have hD0 := hD
  have hl := lv_entry ([.ref a, .ref z]) (n := 2) (Nat.le_of_ble_eq_true rfl)
  rw [lg_entry_eq]
  generalize (lg_sl ([.ref a, .ref z]) ++ List.replicate (2 - (lg_sl ([.ref a, .ref z])).length) Slot.unset).toArray = ls at hl ⊢
  have hl : lv_has ls 2 [(0, .ref a), (1, .ref z)] := hl
  obtain ⟨mc, r, h1, h2⟩ := hL
  refine lv_aload_n hx hb dJx4a65c_add_9ea2d_0 rfl (lv_at hl 0 rfl) ?_
  refine lv_dup hx hb dJx4a65c_add_9ea2d_1 rfl ?_
  refine c_get (C := RJx4a65c) (T := TJx4a65c) (N := 3) hx hb hts hin_Jx4a65c hown hK hP h1 rfl 0 (by decide) l_63 (u_same (hts (.sameField "java/util/ArrayList" "java/util/AbstractList" "modCount" "I") (List.mem_of_getElem? (i := 2) rfl))) rfl dJx4a65c_add_9ea2d_2 ?_
  refine lv_iconst (v := nI 1) hx hb dJx4a65c_add_9ea2d_5 (by decide) ?_
  refine lv_iadd hx hb dJx4a65c_add_9ea2d_6 ?_
  have hm_1 := wup_eq (x := .inr (1, [.int (mc + nI 1), .ref r, .int (nI vs.length)])) h1
  refine c_put (C := RJx4a65c) (T := TJx4a65c) (N := 3) (v := .int (mc + nI 1)) (ty := .int) (fs2 := [.int (mc + nI 1), .ref r, .int (nI vs.length)]) hx hb hts hin_Jx4a65c tyJx4a65c tyJx4a65c_ok nmJx4a65c hown hK hP hD hS h1 rfl 0 (by decide) l_63 (u_same (hts (.sameField "java/util/ArrayList" "java/util/AbstractList" "modCount" "I") (List.mem_of_getElem? (i := 2) rfl))) rfl (by decide +kernel) rfl rfl (Nat.le_of_ble_eq_true rfl) rfl dJx4a65c_add_9ea2d_7 (fun H locs hP hD hS => ?_)
  refine lv_aload_n hx hb dJx4a65c_add_9ea2d_10 rfl (lv_at hl 0 rfl) ?_
  refine lv_aload_n hx hb dJx4a65c_add_9ea2d_11 rfl (lv_at hl 1 rfl) ?_
  refine lv_aload_n hx hb dJx4a65c_add_9ea2d_12 rfl (lv_at hl 0 rfl) ?_
  refine c_get (C := RJx4a65c) (T := TJx4a65c) (N := 3) hx hb hts hin_Jx4a65c hown hK hP hm_1 rfl 1 (by decide) l_9 (fun _ h9 => h9) rfl dJx4a65c_add_9ea2d_13 ?_
  refine lv_aload_n hx hb dJx4a65c_add_9ea2d_16 rfl (lv_at hl 0 rfl) ?_
  refine c_get (C := RJx4a65c) (T := TJx4a65c) (N := 3) hx hb hts hin_Jx4a65c hown hK hP hm_1 rfl 2 (by decide) l_48 (fun _ h9 => h9) rfl dJx4a65c_add_9ea2d_17 ?_
  have h2' : (vs = [] ∧ r = eA) ∨ (own r = a ∧ ∃ (n : Nat) (f : Nat → Option Nat), (r, aO cO n f) ∈ wup ws a (.inr (1, [.int (mc + nI 1), .ref r, .int (nI vs.length)])) ∧ vs.length ≤ n ∧ 10 ≤ n ∧ n ≤ 100 ∧ ∀ i (h : i < vs.length), f i = some vs[i]) := by
    rcases h2 with h2 | ⟨ho, n, f, h3, h4⟩
    · exact Or.inl h2
    · exact Or.inr ⟨ho, n, f, wup_ne h3 (w_ne hD0 h3 h1 (fun q => by cases q)), h4⟩
  refine va_callv (va_runV (As := [.ref z, .ref r, .int (nI vs.length)]) (rest := []) ⟨hx, hb, hml, hown, hts⟩ (cl_add3 l D cI cO cb eA mi st (wup ws a (.inr (1, [.int (mc + nI 1), .ref r, .int (nI vs.length)]))) hD a vs (mc + nI 1) r z hm_1 h2' (fun y hy => (hel y hy).up hD0 h1 (fun h => h rfl)) (hz.up hD0 h1 (fun h => h rfl)) hv) (cwV 3 hts gJx4a65c_add_9ea2d_Jx4a65c_add_72be8 rfl rfl rfl kd_Jx4a65c_add_72be8 ⟨Nat.le_of_ble_eq_true rfl, Nat.le_of_ble_eq_true rfl⟩) ⟨cB_blind, c_recv hK hP rfl hm_1, cB_pre hK hG hA hS hP _⟩ rfl rfl hl.1 rfl (lv_room (Nat.le_of_ble_eq_true rfl)) dJx4a65c_add_9ea2d_20 ⟨Nat.le_of_ble_eq_true rfl, Nat.le_of_ble_eq_true rfl⟩) hS (fun _ _ h => h) (fun _ h => h) (fun u U8 H1 locs1 ht hvm hu hB hz1 hk1 hS1 => ?_)
  obtain ⟨hu1, hu2, hD⟩ := hu
  rw [ht] at hB
  clear hS
  have hS := hS1
  replace hP := hB
  generalize H1 = H at hP hS ⊢
  refine lv_iconst (v := nI 1) hx hb dJx4a65c_add_9ea2d_23 (by decide) ?_
  exact W.zret (v := nI 1) hx hb hr rfl (fun U9 ht hW => ⟨⟨_, u, rfl, ⟨rfl, hu1, (Keeps.obj hD0 h1).trans hu2, hD⟩, by show va_P D vwCl u.1 U9.heap; rw [ht]; exact hP⟩, hS.F ht⟩) hS.2.2 dJx4a65c_add_9ea2d_24
set_option maxHeartbeats 4000000 in
set_option maxRecDepth 100000 in
theorem cl_fastRemove (l : Launch) (D : va_G) (cI cO cb : ClassId) (eA mi : Nat) (st : Nat → Nat) {A : Nat → Prop} (ws : va_W) (hD : va_D A ws) {own : Nat → Nat} (a : Nat) (vs : List Nat) (mc : Int32) (r n i : Nat) (f : Nat → Option Nat) (h1 : (a, eL mc r vs.length) ∈ ws) (ho : own r = a) (h3 : (r, aO cO n f) ∈ ws) (h4 : vs.length ≤ n) (h10 : 10 ≤ n) (hn : n ≤ 100) (hf : ∀ i (h : i < vs.length), f i = some vs[i]) (hi : i < vs.length) (hel : ∀ y ∈ vs, Elt ws y) : Met l yJx4a65c_fastRemove_b59b0 wsJx4a65c_fastRemove_b59b0 ({ frames := 1, cells := 0, slots := 0, locals := 60 }) (va_Pc [.ref a, .ref r, .int (nI i)] (cB D cI cO cb eA mi st A ws)) (va_Qv (fun u : va_W => Lst cO eA own u a (vs.eraseIdx i) ∧ Keeps cO eA own ws own u a ∧ va_D A u) (fun u U9 => va_P D vwCl u U9.heap) A) 0 0 A := by
  refine Met.ofW (cc := cJx4a65c_fastRemove_b59b0) (maxL := 4) (ret := none) (by decide) rfl ?_
  intro p e s m args below meth c s₁ B hml hv
  obtain ⟨rfl, hP, hK, hG, hA⟩ := hv
  have hx := B.exec
  have hb := B.bytes
  have hr := B.returns
  have hts := atoms_spec (ws := wsJx4a65c_fastRemove_b59b0) B.pre
  have hown : s.vm.findClass RJx4a65c = some m.cls := findClass_of_methodNamed B.named
  have hlocks := B.notSynchronized
  have hin_Jx4a65c : ∀ w ∈ wsJx4a65c0, w ∈ wsJx4a65c_fastRemove_b59b0 := fun w h => List.mem_cons_of_mem _ (List.mem_append_right _ h)
  have l_63 := (hts (.fieldLink RJx4a65c 63 "java/util/ArrayList" "modCount" "I") (List.mem_of_getElem? (i := 1) rfl))
  have l_48 := (hts (.fieldLink RJx4a65c 48 "java/util/ArrayList" "size" "I") (List.mem_of_getElem? (i := 3) rfl))
  have hS : va_S A s.heap s.heap [] := va_S.rf
  have hD0 := hD
  have hl := lv_entry ([.ref a, .ref r, .int (nI i)]) (n := 4) (Nat.le_of_ble_eq_true rfl)
  rw [lg_entry_eq]
  generalize (lg_sl ([.ref a, .ref r, .int (nI i)]) ++ List.replicate (4 - (lg_sl ([.ref a, .ref r, .int (nI i)])).length) Slot.unset).toArray = ls at hl ⊢
  have hl : lv_has ls 4 [(0, .ref a), (1, .ref r), (2, .int (nI i))] := hl
  have hh1 := h1
  have hh3 := h3
  have hKp : Keeps cO eA own ws own ws a := Keeps.refl
  have hfel : ∀ j y : Nat, j < vs.length → f j = some y → y ∈ vs := fun j y h8 h9 => by rw [hf j h8] at h9; cases h9; exact List.getElem_mem h8
  have hEl : ∀ y ∈ vs, Elt (wup ws a (.inr (1, [.int (mc + nI 1), .ref r, .int (nI vs.length)]))) y := fun y hy => (hel y hy).up hD0 h1 (fun h => h rfl)
  refine lv_aload_n hx hb dJx4a65c_fastRemove_b59b0_0 rfl (lv_at hl 0 rfl) ?_
  refine lv_dup hx hb dJx4a65c_fastRemove_b59b0_1 rfl ?_
  refine c_get (C := RJx4a65c) (T := TJx4a65c) (N := 3) hx hb hts hin_Jx4a65c hown hK hP h1 rfl 0 (by decide) l_63 (u_same (hts (.sameField "java/util/ArrayList" "java/util/AbstractList" "modCount" "I") (List.mem_of_getElem? (i := 2) rfl))) rfl dJx4a65c_fastRemove_b59b0_2 ?_
  refine lv_iconst (v := nI 1) hx hb dJx4a65c_fastRemove_b59b0_5 (by decide) ?_
  refine lv_iadd hx hb dJx4a65c_fastRemove_b59b0_6 ?_
  have hKp := hKp.trans (Keeps.obj (x := .inr (1, [.int (mc + nI 1), .ref r, .int (nI vs.length)])) hD h1)
  have g1 := wup_eq (x := .inr (1, [.int (mc + nI 1), .ref r, .int (nI vs.length)])) h1
  have g3 := wup_ne (x := .inr (1, [.int (mc + nI 1), .ref r, .int (nI vs.length)])) h3 (w_ne hD h3 h1 (fun q => by cases q))
  refine c_put (C := RJx4a65c) (T := TJx4a65c) (N := 3) (v := .int (mc + nI 1)) (ty := .int) (fs2 := [.int (mc + nI 1), .ref r, .int (nI vs.length)]) hx hb hts hin_Jx4a65c tyJx4a65c tyJx4a65c_ok nmJx4a65c hown hK hP hD hS h1 rfl 0 (by decide) l_63 (u_same (hts (.sameField "java/util/ArrayList" "java/util/AbstractList" "modCount" "I") (List.mem_of_getElem? (i := 2) rfl))) rfl (by decide +kernel) rfl rfl (Nat.le_of_ble_eq_true rfl) rfl dJx4a65c_fastRemove_b59b0_7 (fun H locs hP hD hS => ?_)
  replace h1 := g1
  replace h3 := g3
  clear g1 g3
  refine lv_aload_n hx hb dJx4a65c_fastRemove_b59b0_10 rfl (lv_at hl 0 rfl) ?_
  refine c_get (C := RJx4a65c) (T := TJx4a65c) (N := 3) hx hb hts hin_Jx4a65c hown hK hP h1 rfl 2 (by decide) l_48 (fun _ h9 => h9) rfl dJx4a65c_fastRemove_b59b0_11 ?_
  refine lv_iconst (v := nI 1) hx hb dJx4a65c_fastRemove_b59b0_14 (by decide) ?_
  refine n_isub hx hb dJx4a65c_fastRemove_b59b0_15 (z := vs.length - 1) (by have f1 := hi; have f2 := h4; have f3 := hn; omega) rfl ?_
  refine lv_dup hx hb dJx4a65c_fastRemove_b59b0_16 rfl ?_
  refine lv_istore_n (lv' := [(3, .int (nI (vs.length - 1))), (0, .ref a), (1, .ref r), (2, .int (nI i))]) hx hb dJx4a65c_fastRemove_b59b0_17 rfl hl (by decide) rfl (fun ls hl => ?_)
  refine lv_iload_n hx hb dJx4a65c_fastRemove_b59b0_18 rfl (lv_at hl 3 rfl) ?_
  refine n_icmp_le (tgt := 34) hx hb dJx4a65c_fastRemove_b59b0_19 (by decide) (by have f1 := hi; have f2 := h4; have f3 := hn; omega) (by have f1 := hi; omega) (fun c_1 => ?_) (fun c_1 => ?_)
  · refine lv_aload_n hx hb dJx4a65c_fastRemove_b59b0_34 rfl (lv_at hl 2 rfl) ?_
    refine lv_aload_n hx hb dJx4a65c_fastRemove_b59b0_35 rfl (lv_at hl 1 rfl) ?_
    refine lv_iload_n hx hb dJx4a65c_fastRemove_b59b0_36 rfl (lv_at hl 0 rfl) ?_
    refine lv_dup_x1 hx hb dJx4a65c_fastRemove_b59b0_37 rfl rfl ?_
    have hKp := hKp.trans (Keeps.obj (x := .inr (1, [.int (mc + nI 1), .ref r, .int (nI (vs.length - 1))])) hD h1)
    have g1 := wup_eq (x := .inr (1, [.int (mc + nI 1), .ref r, .int (nI (vs.length - 1))])) h1
    have g3 := wup_ne (x := .inr (1, [.int (mc + nI 1), .ref r, .int (nI (vs.length - 1))])) h3 (w_ne hD h3 h1 (fun q => by cases q))
    refine c_put (C := RJx4a65c) (T := TJx4a65c) (N := 3) (v := .int (nI (vs.length - 1))) (ty := .int) (fs2 := [.int (mc + nI 1), .ref r, .int (nI (vs.length - 1))]) hx hb hts hin_Jx4a65c tyJx4a65c tyJx4a65c_ok nmJx4a65c hown hK hP hD hS h1 rfl 2 (by decide) l_48 (fun _ h9 => h9) rfl (by decide +kernel) rfl rfl (Nat.le_of_ble_eq_true rfl) rfl dJx4a65c_fastRemove_b59b0_38 (fun H locs hP hD hS => ?_)
    replace h1 := g1
    replace h3 := g3
    clear g1 g3
    refine lv_null hx hb dJx4a65c_fastRemove_b59b0_41 ?_
    have hKp := hKp.trans (Keeps.arr2 (g := va_up (f) (vs.length - 1) none) hD h3 ho)
    have g1 := wup_ne (x := aO cO n (va_up (f) (vs.length - 1) none)) h1 (w_ne hD h1 h3 (fun q => by cases q))
    have g3 := wup_eq (x := aO cO n (va_up (f) (vs.length - 1) none)) h3
    refine c_aastN hx hb hK hP hD hS 1 h3 rfl (by omega) (by omega) dJx4a65c_fastRemove_b59b0_42 (fun H locs hP hD hS => ?_)
    replace h1 := g1
    replace h3 := g3
    clear g1 g3
    exact W.vret hx hb hr (fun U9 ht hW => ⟨⟨_, rfl, ⟨rem_end hD0 hh1 ho hh3 h4 h10 hn hf hi h1 h3 (rem_g2 hi (by omega)), hKp, hD⟩, by show va_P D vwCl _ U9.heap; rw [ht]; exact hP⟩, hS.F ht⟩) hS.2.2 dJx4a65c_fastRemove_b59b0_43
  · refine lv_aload_n hx hb dJx4a65c_fastRemove_b59b0_22 rfl (lv_at hl 2 rfl) ?_
    refine lv_iload_n hx hb dJx4a65c_fastRemove_b59b0_23 rfl (lv_at hl 3 rfl) ?_
    refine lv_iconst (v := nI 1) hx hb dJx4a65c_fastRemove_b59b0_24 (by decide) ?_
    refine n_iadd hx hb dJx4a65c_fastRemove_b59b0_25 (z := i + 1) rfl ?_
    refine lv_aload_n hx hb dJx4a65c_fastRemove_b59b0_26 rfl (lv_at hl 2 rfl) ?_
    refine lv_iload_n hx hb dJx4a65c_fastRemove_b59b0_27 rfl (lv_at hl 3 rfl) ?_
    refine lv_iload_n hx hb dJx4a65c_fastRemove_b59b0_28 rfl (lv_at hl 0 rfl) ?_
    refine lv_iload_n hx hb dJx4a65c_fastRemove_b59b0_29 rfl (lv_at hl 3 rfl) ?_
    refine n_isub hx hb dJx4a65c_fastRemove_b59b0_30 (z := (vs.length - 1) - i) (by have f1 := hi; have f2 := h4; have f3 := hn; omega) rfl ?_
    have hKp := hKp.trans (Keeps.arr2 (g := va_cpy f f (i + 1) i (vs.length - 1 - i)) hD h3 ho)
    have g1 := wup_ne (x := aO cO n (va_cpy f f (i + 1) i (vs.length - 1 - i))) h1 (w_ne hD h1 h3 (fun q => by cases q))
    have g3 := wup_eq (x := aO cO n (va_cpy f f (i + 1) i (vs.length - 1 - i))) h3
    refine c_copy hx hb (hml.trans hl.1.symm) hown (hts (.methodLink RJx4a65c 112 arraycopyName) (List.mem_of_getElem? (i := 4) rfl)) (hts (.native arraycopyName) (List.mem_of_getElem? (i := 5) rfl)) (hts (.static arraycopyName) (List.mem_of_getElem? (i := 6) rfl)) (hts (.initialized "java/lang/System") (List.mem_of_getElem? (i := 7) rfl)) hK hP hD hS 1 h3 h3 rfl (by omega) (by omega) (by omega) (by omega) (fun j h9 y h8 => (hEl _ (hfel _ y (by omega) h8)).any hK hP hG.2.2.2.2.2.2.1) (Nat.le_of_ble_eq_true rfl) (Nat.le_of_ble_eq_true rfl) dJx4a65c_fastRemove_b59b0_31 (fun H locs hP hD hS => ?_)
    replace h1 := g1
    replace h3 := g3
    clear g1 g3
    refine lv_aload_n hx hb dJx4a65c_fastRemove_b59b0_34 rfl (lv_at hl 2 rfl) ?_
    refine lv_aload_n hx hb dJx4a65c_fastRemove_b59b0_35 rfl (lv_at hl 1 rfl) ?_
    refine lv_iload_n hx hb dJx4a65c_fastRemove_b59b0_36 rfl (lv_at hl 0 rfl) ?_
    refine lv_dup_x1 hx hb dJx4a65c_fastRemove_b59b0_37 rfl rfl ?_
    have hKp := hKp.trans (Keeps.obj (x := .inr (1, [.int (mc + nI 1), .ref r, .int (nI (vs.length - 1))])) hD h1)
    have g1 := wup_eq (x := .inr (1, [.int (mc + nI 1), .ref r, .int (nI (vs.length - 1))])) h1
    have g3 := wup_ne (x := .inr (1, [.int (mc + nI 1), .ref r, .int (nI (vs.length - 1))])) h3 (w_ne hD h3 h1 (fun q => by cases q))
    refine c_put (C := RJx4a65c) (T := TJx4a65c) (N := 3) (v := .int (nI (vs.length - 1))) (ty := .int) (fs2 := [.int (mc + nI 1), .ref r, .int (nI (vs.length - 1))]) hx hb hts hin_Jx4a65c tyJx4a65c tyJx4a65c_ok nmJx4a65c hown hK hP hD hS h1 rfl 2 (by decide) l_48 (fun _ h9 => h9) rfl (by decide +kernel) rfl rfl (Nat.le_of_ble_eq_true rfl) rfl dJx4a65c_fastRemove_b59b0_38 (fun H locs hP hD hS => ?_)
    replace h1 := g1
    replace h3 := g3
    clear g1 g3
    refine lv_null hx hb dJx4a65c_fastRemove_b59b0_41 ?_
    have hKp := hKp.trans (Keeps.arr2 (g := va_up (va_cpy f f (i + 1) i (vs.length - 1 - i)) (vs.length - 1) none) hD h3 ho)
    have g1 := wup_ne (x := aO cO n (va_up (va_cpy f f (i + 1) i (vs.length - 1 - i)) (vs.length - 1) none)) h1 (w_ne hD h1 h3 (fun q => by cases q))
    have g3 := wup_eq (x := aO cO n (va_up (va_cpy f f (i + 1) i (vs.length - 1 - i)) (vs.length - 1) none)) h3
    refine c_aastN hx hb hK hP hD hS 1 h3 rfl (by omega) (by omega) dJx4a65c_fastRemove_b59b0_42 (fun H locs hP hD hS => ?_)
    replace h1 := g1
    replace h3 := g3
    clear g1 g3
    exact W.vret hx hb hr (fun U9 ht hW => ⟨⟨_, rfl, ⟨rem_end hD0 hh1 ho hh3 h4 h10 hn hf hi h1 h3 (rem_g1 hi), hKp, hD⟩, by show va_P D vwCl _ U9.heap; rw [ht]; exact hP⟩, hS.F ht⟩) hS.2.2 dJx4a65c_fastRemove_b59b0_43
set_option maxHeartbeats 4000000 in
set_option maxRecDepth 100000 in
theorem cl_remove (l : Launch) (D : va_G) (cI cO cb : ClassId) (eA mi : Nat) (st : Nat → Nat) {A : Nat → Prop} (ws : va_W) (hD : va_D A ws) {own : Nat → Nat} (a : Nat) (vs : List Nat) (hL : Lst cO eA own ws a vs) (i : Nat) (hi : i < vs.length) (hel : ∀ y ∈ vs, Elt ws y) : Met l yJx4a65c_remove_915e3 wsJx4a65c_remove_915e3 ({ frames := 2, cells := 0, slots := 0, locals := 83 }) (va_Pc [.ref a, .int (nI i)] (cB D cI cO cb eA mi st A ws)) (va_Qr (fun u : va_W => Lst cO eA own u a (vs.eraseIdx i) ∧ Keeps cO eA own ws own u a ∧ va_D A u) (fun u _ U9 => va_P D vwCl u U9.heap) A) 0 0 A := by
  refine Met.ofW (cc := cJx4a65c_remove_915e3) (maxL := 4) (ret := (some (.object "java/lang/Object"))) (by decide) rfl ?_
  intro p e s m args below meth c s₁ B hml hv
  obtain ⟨rfl, hP, hK, hG, hA⟩ := hv
  have hx := B.exec
  have hb := B.bytes
  have hr := B.returns
  have hts := atoms_spec (ws := wsJx4a65c_remove_915e3) B.pre
  have hown : s.vm.findClass RJx4a65c = some m.cls := findClass_of_methodNamed B.named
  have hlocks := B.notSynchronized
  have hin_Jx4a65c : ∀ w ∈ wsJx4a65c0, w ∈ wsJx4a65c_remove_915e3 := fun w h => List.mem_cons_of_mem _ (List.mem_append_right _ h)
  have l_48 := (hts (.fieldLink RJx4a65c 48 "java/util/ArrayList" "size" "I") (List.mem_of_getElem? (i := 1) rfl))
  have l_9 := (hts (.fieldLink RJx4a65c 9 "java/util/ArrayList" "elementData" "[Ljava/lang/Object;") (List.mem_of_getElem? (i := 2) rfl))
  have hS : va_S A s.heap s.heap [] := va_S.rf
  have hD0 := hD
  have hl := lv_entry ([.ref a, .int (nI i)]) (n := 4) (Nat.le_of_ble_eq_true rfl)
  rw [lg_entry_eq]
  generalize (lg_sl ([.ref a, .int (nI i)]) ++ List.replicate (4 - (lg_sl ([.ref a, .int (nI i)])).length) Slot.unset).toArray = ls at hl ⊢
  have hl : lv_has ls 4 [(0, .ref a), (1, .int (nI i))] := hl
  obtain ⟨mc, r, h1, h2⟩ := hL
  rcases h2 with ⟨h2, -⟩ | ⟨ho, n, f, h3, h4, h10, hn, hf⟩
  · subst h2; exact absurd hi (Nat.not_lt_zero _)
  refine lv_iload_n hx hb dJx4a65c_remove_915e3_0 rfl (lv_at hl 1 rfl) ?_
  refine lv_aload_n hx hb dJx4a65c_remove_915e3_1 rfl (lv_at hl 0 rfl) ?_
  refine c_get (C := RJx4a65c) (T := TJx4a65c) (N := 3) hx hb hts hin_Jx4a65c hown hK hP h1 rfl 2 (by decide) l_48 (fun _ h9 => h9) rfl dJx4a65c_remove_915e3_2 ?_
  refine vp_callSi (W.runS (As := [.int (nI i), .int (nI vs.length)]) (rest := []) ⟨hx, hb, hml, hown, hts⟩ ((cl_checkIndex l i vs.length hi (by omega))) (va_cwS 2 hts gJx4a65c_remove_915e3_J15_checkIndex_7cf53 rfl rfl rfl kd_J15_checkIndex_7cf53 ⟨Nat.le_of_ble_eq_true rfl, Nat.le_of_ble_eq_true rfl⟩) ⟨fun _ _ _ _ q => q, fun U hU hW => ⟨rfl, trivial⟩⟩ rfl rfl hl.1 rfl (lv_room (Nat.le_of_ble_eq_true rfl)) dJx4a65c_remove_915e3_5 ⟨Nat.le_of_ble_eq_true rfl, Nat.le_of_ble_eq_true rfl⟩) (fun r_1 hr_1 => ?_)
  subst hr_1
  refine lv_pop hx hb dJx4a65c_remove_915e3_8 rfl ?_
  refine lv_aload_n hx hb dJx4a65c_remove_915e3_9 rfl (lv_at hl 0 rfl) ?_
  refine c_get (C := RJx4a65c) (T := TJx4a65c) (N := 3) hx hb hts hin_Jx4a65c hown hK hP h1 rfl 1 (by decide) l_9 (fun _ h9 => h9) rfl dJx4a65c_remove_915e3_10 ?_
  refine lv_astore_n (lv' := [(2, .ref r), (0, .ref a), (1, .int (nI i))]) hx hb dJx4a65c_remove_915e3_13 rfl hl (by decide) rfl (fun ls hl => ?_)
  refine lv_aload_n hx hb dJx4a65c_remove_915e3_14 rfl (lv_at hl 0 rfl) ?_
  refine lv_iload_n hx hb dJx4a65c_remove_915e3_15 rfl (lv_at hl 2 rfl) ?_
  refine c_aald hx hb hK hP 1 h3 rfl (by omega) (by omega) (hf i hi) dJx4a65c_remove_915e3_16 ?_
  refine lv_astore_n (lv' := [(3, .ref (vs[i])), (2, .ref r), (0, .ref a), (1, .int (nI i))]) hx hb dJx4a65c_remove_915e3_17 rfl hl (by decide) rfl (fun ls hl => ?_)
  refine lv_aload_n hx hb dJx4a65c_remove_915e3_18 rfl (lv_at hl 2 rfl) ?_
  refine lv_aload_n hx hb dJx4a65c_remove_915e3_19 rfl (lv_at hl 1 rfl) ?_
  refine lv_iload_n hx hb dJx4a65c_remove_915e3_20 rfl (lv_at hl 3 rfl) ?_
  refine va_callv (va_runV (As := [.ref r, .int (nI i)]) (rest := []) ⟨hx, hb, hml, hown, hts⟩ (cl_fastRemove l D cI cO cb eA mi st ws hD a vs mc r n i f h1 ho h3 h4 h10 hn hf hi hel) (cwV 2 hts gJx4a65c_remove_915e3_Jx4a65c_fastRemove_b59b0 rfl rfl rfl kd_Jx4a65c_fastRemove_b59b0 ⟨Nat.le_of_ble_eq_true rfl, Nat.le_of_ble_eq_true rfl⟩) ⟨cB_blind, c_recv hK hP rfl h1, cB_pre hK hG hA hS hP _⟩ rfl rfl hl.1 rfl (lv_room (Nat.le_of_ble_eq_true rfl)) dJx4a65c_remove_915e3_21 ⟨Nat.le_of_ble_eq_true rfl, Nat.le_of_ble_eq_true rfl⟩) hS (fun _ _ h => h) (fun _ h => h) (fun u U8 H1 locs1 ht hvm hu hB hz1 hk1 hS1 => ?_)
  obtain ⟨hu1, hu2, hD⟩ := hu
  rw [ht] at hB
  clear hS
  have hS := hS1
  replace hP := hB
  generalize H1 = H at hP hS ⊢
  refine lv_aload_n hx hb dJx4a65c_remove_915e3_24 rfl (lv_at hl 0 rfl) ?_
  exact W.aret hx hb hr (Or.inl ⟨_, rfl⟩) (Or.inr ⟨_, rfl⟩) (fun U9 ht hW => ⟨⟨u, _, rfl, ⟨hu1, hu2, hD⟩, by show va_P D vwCl u U9.heap; rw [ht]; exact hP⟩, hS.F ht⟩) hS.2.2 dJx4a65c_remove_915e3_25
