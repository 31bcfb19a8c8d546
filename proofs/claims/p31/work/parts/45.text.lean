/-! the library's text: a StringBuilder of sixteen places -/
def gT (dO dT : Nat) (vF : Value) (A : Nat → Prop) (U : State) (H : Heap) : Prop :=
  va_Z "java/lang/String" "COMPACT_STRINGS" "Z" (.int 1) A U H ∧ va_Z "java/lang/Integer" "DigitOnes" "[B" (.ref dO) A U H ∧ va_Z "java/lang/Integer" "DigitTens" "[B" (.ref dT) A U H ∧ va_T .byte dO 100 (fun i => .int (nI (48 + i % 10))) A U H ∧ va_T .byte dT 100 (fun i => .int (nI (48 + i / 10))) A U H ∧ va_Z "jdk/internal/util/Preconditions" "SIOOBE_FORMATTER" "Ljava/util/function/BiFunction;" vF A U H ∧ (vF = .null ∨ ∃ r, vF = .ref r)
theorem gT.kept {dO dT : Nat} {vF : Value} {A : Nat → Prop} {U : State} {H H1 : Heap} (h : gT dO dT vF A U H) (hq : ∀ a : Nat, a < H.size → ¬ A a → H1[a]? = H[a]?) : gT dO dT vF A U H1 := by
  obtain ⟨h1, h2, h3, h4, h5, h6, h7⟩ := h
  exact ⟨h1.kept hq, h2.kept hq, h3.kept hq, h4.kept hq, h5.kept hq, h6.kept hq, h7⟩
theorem gT.moved {dO dT : Nat} {vF : Value} {A : Nat → Prop} {u U : State} {H : Heap} (hvm : u.vm.Alike U.vm) (h : gT dO dT vF A u H) : gT dO dT vF A U H := by
  obtain ⟨h1, h2, h3, h4, h5, h6, h7⟩ := h
  exact ⟨h1.moved hvm, h2.moved hvm, h3.moved hvm, h4.moved hvm, h5.moved hvm, h6.moved hvm, h7⟩
def cT (D : va_G) (cI cO cb : ClassId) (eA mi : Nat) (st : Nat → Nat) (dO dT : Nat) (vF : Value) (A : Nat → Prop) (ws : va_W) : State → Prop := fun U => va_P D vwCl ws U.heap ∧ va_K D vwCl (cty cI cO cb) U ∧ (gS eA mi st A U U.heap ∧ gT dO dT vF A U U.heap) ∧ ∀ q : Nat, U.heap.size ≤ q → A q
theorem cT_blind {D : va_G} {cI cO cb : ClassId} {eA mi : Nat} {st : Nat → Nat} {dO dT : Nat} {vF : Value} {A : Nat → Prop} {ws : va_W} {av : List Value} : FrameBlind (va_Pc av (cT D cI cO cb eA mi st dO dT vF A ws)) := fun a U g mk q => ⟨q.1, q.2.1, va_K.moved (u := U) (U := U.calling g mk a) (Vm.Alike.refl U.vm) q.2.2.1, ⟨gS.moved (u := U) (U := U.calling g mk a) (Vm.Alike.refl U.vm) q.2.2.2.1.1, gT.moved (u := U) (U := U.calling g mk a) (Vm.Alike.refl U.vm) q.2.2.2.1.2⟩, q.2.2.2.2⟩
theorem cT_pre {D : va_G} {cI cO cb : ClassId} {eA mi : Nat} {st : Nat → Nat} {dO dT : Nat} {vF : Value} {A : Nat → Prop} {ws : va_W} {s : State} {H : Heap} {locs : List Loc} (hK : va_K D vwCl (cty cI cO cb) s) (hG : gS eA mi st A s s.heap) (hT : gT dO dT vF A s s.heap) (hA : ∀ q : Nat, s.heap.size ≤ q → A q) (hS : va_S A s.heap H locs) (hP : va_P D vwCl ws H) (av : List Value) : ∀ U : State, U.heap = H → s.WarmedH U.vm → va_Pc av (cT D cI cO cb eA mi st dO dT vF A ws) av.toArray U :=
  fun U hU hW => ⟨rfl, by rw [hU]; exact hP, va_K.moved hW.alike hK, ⟨by rw [hU]; exact (hG.kept (fun q h1 h2 => hS.2.1 q h1 h2)).moved hW.alike, by rw [hU]; exact (hT.kept (fun q h1 h2 => hS.2.1 q h1 h2)).moved hW.alike⟩, fun q hq => hA q (Nat.le_trans hS.1 (by rw [← hU]; exact hq))⟩
abbrev sbo (R n : Nat) : va_E := .inr (0, [.ref R, .int (nI 0), .int (nI 0), .int (nI n)])
abbrev sba (cb : ClassId) (g : Nat → Int32) : va_E := .inl (cb, 16, .inl g)
def putl (g : Nat → Int32) (n : Nat) : List Nat → (Nat → Int32)
  | [] => g
  | x :: xs => putl (upd g n (nI x)) (n + 1) xs
def dig (x : Nat) : List Nat := if 9 < x then [48 + x / 10, 48 + x % 10] else [48 + x]
theorem dig_1 {x : Nat} (h : ¬ 9 < x) : dig x = [48 + x] := if_neg h
theorem dig_2 {x : Nat} (h : 9 < x) : dig x = [48 + x / 10, 48 + x % 10] := if_pos h
theorem putl_app (g : Nat → Int32) (n : Nat) (xs ys : List Nat) : putl g n (xs ++ ys) = putl (putl g n xs) (n + xs.length) ys := by
  induction xs generalizing g n with
  | nil => rfl
  | cons x xs ih =>
    show putl (upd g n (nI x)) (n + 1) (xs ++ ys) = putl (putl (upd g n (nI x)) (n + 1) xs) (n + (xs.length + 1)) ys
    rw [ih, show n + 1 + xs.length = n + (xs.length + 1) by omega]
theorem putl_lo (g : Nat → Int32) (n : Nat) (xs : List Nat) {j : Nat} (h : j < n) : putl g n xs j = g j := by
  induction xs generalizing g n with
  | nil => rfl
  | cons x xs ih =>
    show putl (upd g n (nI x)) (n + 1) xs j = g j
    rw [ih _ _ (by omega)]
    exact if_neg (by omega)
theorem putl_at (g : Nat → Int32) (n : Nat) (xs : List Nat) {j : Nat} (h : j < xs.length) : putl g n xs (n + j) = nI (gt xs j) := by
  induction xs generalizing g n j with
  | nil => cases h
  | cons x xs ih =>
    show putl (upd g n (nI x)) (n + 1) xs (n + j) = _
    cases j with
    | zero => rw [putl_lo _ _ _ (by omega)]; exact if_pos rfl
    | succ j =>
      rw [show n + (j + 1) = n + 1 + j by omega, ih _ _ (Nat.lt_of_succ_lt_succ h)]
      rfl
theorem upd_sw {g : Nat → Int32} {i j : Nat} {x y : Int32} (h : i ≠ j) : upd (upd g i x) j y = upd (upd g j y) i x := by
  funext k
  unfold upd
  by_cases h1 : k = i
  · subst h1; rw [if_neg h, if_pos rfl, if_pos rfl]
  · by_cases h2 : k = j
    · subst h2; rw [if_pos rfl, if_neg h1, if_pos rfl]
    · rw [if_neg h2, if_neg h1, if_neg h1, if_neg h2]
section BR
variable {p : Program} {l : Launch} {e : Env} {R : Room} {s : State} {m : MethodId} {args : Array Value} {below : List Frame} {meth : Method} {c : Code} {H H0 : Heap} {locs : List Loc} {cells slots : Nat} {Q : State → Prop}
variable {cc : ByteArray} {pc : Nat} {ls : Array Slot} {rest : List Value} {D : va_G} {A : Nat → Prop} {tys : List (ClassId × FieldType)} {ws : va_W} {a : Nat}
theorem c_bast (hx : p.tables.exec = Jvm.exec) (hb : c.code = cc) (hK : va_K D vwCl tys s) (hP : va_P D vwCl ws H) (hD : va_D A ws) (hS : va_S A H0 H locs) (t0 : Nat) {cA : ClassId} {n i : Nat} {f : Nat → Int32} {x : Int32} (he : (a, .inl (cA, n, .inl f)) ∈ ws) (ht : tys[t0]? = some (cA, .byte)) (hi : i < n) (hn : n < 2 ^ 31) (hxx : vp_nar .byte x = x) (hdg : decode cc pc = .ok (.bastore, 1))
    (kk : ∀ (H1 : Heap) (locs1 : List Loc), va_P D vwCl (wup ws a (.inl (cA, n, .inl (upd f i x)))) H1 → va_D A (wup ws a (.inl (cA, n, .inl (upd f i x)))) → va_S A H0 H1 locs1 → W p l e R s m args below meth c H1 locs1 cells slots Q (F0 m (pc + 1) ls rest)) : W p l e R s m args below meth c H locs cells slots Q (F0 m pc ls (.int x :: .int (nI i) :: .ref a :: rest)) := by
  obtain ⟨q0, hq⟩ := List.getElem?_of_mem he
  refine va_bast hx hb hK hP hD hS q0 t0 hq ht (vp_in_nI hi hn) hdg (fun H1 locs1 h1 h2 h3 => ?_)
  rw [nI_clamp (by omega), wup_set hD hq, hxx] at h1 h2
  exact kk H1 locs1 h1 h2 h3
theorem c_bald (hx : p.tables.exec = Jvm.exec) (hb : c.code = cc) (hK : va_K D vwCl tys s) (hP : va_P D vwCl ws H) (t0 : Nat) {cA : ClassId} {n i : Nat} {f : Nat → Int32} (he : (a, .inl (cA, n, .inl f)) ∈ ws) (ht : tys[t0]? = some (cA, .byte)) (hi : i < n) (hn : n < 2 ^ 31) (hdg : decode cc pc = .ok (.baload, 1))
    (kk : W p l e R s m args below meth c H locs cells slots Q (F0 m (pc + 1) ls (.int (f i) :: rest))) : W p l e R s m args below meth c H locs cells slots Q (F0 m pc ls (.int (nI i) :: .ref a :: rest)) := by
  obtain ⟨q0, hq⟩ := List.getElem?_of_mem he
  exact va_bald hx hb hK hP q0 t0 hq ht (vp_in_nI hi hn) hdg (by rw [nI_clamp (by omega)]; exact kk)
theorem c_newb (hx : p.tables.exec = Jvm.exec) (hb : c.code = cc) (harr : (Cond.arrayClass .byte).before args s = true) {t0 : Nat} {cI : ClassId} (hK : va_K D vwCl tys s) (ht : tys[t0]? = some (cI, .byte)) (hP : va_P D vwCl ws H) (hD : va_D A ws) (hS : va_S A H0 H locs) (hA : ∀ q, H0.size ≤ q → A q)
    {n : Nat} (hn : n ≤ 1000) (hcells : cells + 1 ≤ R.cells) (hslots : slots + n ≤ R.slots) (hdg : decode cc pc = .ok (.newarray .byte, 2))
    (kk : ∀ (q : Nat) (H1 : Heap), va_P D vwCl (ws ++ [(q, .inl (cI, n, .inl (fun _ => 0)))]) H1 → va_D A (ws ++ [(q, .inl (cI, n, .inl (fun _ => 0)))]) → va_S A H0 H1 locs → W p l e R s m args below meth c H1 locs (cells + 1) (slots + n) Q (F0 m (pc + 2) ls (.ref q :: rest))) : W p l e R s m args below meth c H locs cells slots Q (F0 m pc ls (.int (nI n) :: rest)) := by
  refine va_newa (atype := .byte) (ty := .byte) (a0 := (n, .inl (fun _ => 0))) hx hb harr rfl hK hP hD hS hA (fun cA => rfl) (nI_pos (by omega)) (nI_clamp (by omega)) (by show n * 1 ≤ _; omega) hcells hslots hdg (fun q cA H1 g0 g1 g2 g3 => ?_)
  have k1 := (g0.2 tys.length _ (by rw [List.getElem?_append_right (Nat.le_refl _), Nat.sub_self]; rfl)).2
  have k2 := (hK.2 t0 _ ht).2
  have k3 : s.vm.findClass ("[" ++ (FieldType.byte).toString) = some cA := k1
  have k4 : s.vm.findClass ("[" ++ (FieldType.byte).toString) = some cI := k2
  obtain rfl : cA = cI := Option.some.inj (k3.symm.trans k4)
  exact kk q H1 g1 g2 g3
end BR
theorem nar_byte {x : Nat} (h : x < 128) : vp_nar .byte (nI x) = nI x := by
  have key : ∀ x : Nat, x < 128 → vp_nar .byte (nI x) = nI x := by decide +kernel
  exact key x h
theorem i2b_nI {x : Nat} (h : x < 128) : (nI x).toInt8.toInt32 = nI x := by
  have key : ∀ x : Nat, x < 128 → (nI x).toInt8.toInt32 = nI x := by decide +kernel
  exact key x h
theorem neg_le10 {x : Nat} (h : x < 100) : -(nI x) ≤ (-10) ↔ 9 < x := by
  have key : ∀ x : Nat, x < 100 → (-(nI x) ≤ (-10) ↔ 9 < x) := by decide +kernel
  exact key x h
theorem neg_le100 {x : Nat} (h : x < 100) : ¬ -(nI x) ≤ nI 10 * (-10) := by
  have key : ∀ x : Nat, x < 100 → ¬ -(nI x) ≤ nI 10 * (-10) := by decide +kernel
  exact key x h
theorem neg_gt100 {x : Nat} (h : x < 100) : (-100) < -(nI x) := by
  have key : ∀ x : Nat, x < 100 → (-100) < -(nI x) := by decide +kernel
  exact key x h
theorem neg_ge9 {x : Nat} (h : x < 100) : (-9) ≤ -(nI x) ↔ ¬ 9 < x := by
  have key : ∀ x : Nat, x < 100 → ((-9) ≤ -(nI x) ↔ ¬ 9 < x) := by decide +kernel
  exact key x h
theorem neg_neg_nI (x : Nat) : -(-(nI x)) = nI x := Int32.neg_neg
theorem nI_m1 {x : Nat} (h : 1 ≤ x) : nI x + Int32.ofInt (-1) = nI (x - 1) := by
  obtain ⟨y, rfl⟩ : ∃ y, x = y + 1 := ⟨x - 1, by omega⟩
  show nI (y + 1) + (-1) = nI y
  rw [← nI_1 y]
  show nI y + 1 + -1 = nI y
  rw [Int32.add_assoc]
  exact Int32.add_zero _
set_option maxHeartbeats 4000000 in
set_option maxRecDepth 100000 in
theorem cs_isLatin1 (l : Launch) (D : va_G) (cI cO cb : ClassId) (eA mi : Nat) (st : Nat → Nat) (dO dT : Nat) (vF : Value) {A : Nat → Prop} (ws : va_W) (hD : va_D A ws) (b0 r0 n : Nat) (hB : (b0, sbo r0 n) ∈ ws) : Met l yJ5_isLatin1_aae02 wsJ5_isLatin1_aae02 ({ frames := 0, cells := 0, slots := 0, locals := 0 }) (va_Pc [.ref b0] (cT D cI cO cb eA mi st dO dT vF A ws)) (va_Qi (fun (ri : Int32) (_ : Unit) => ri = nI 1) (fun _ U9 => va_P D vwCl ws U9.heap) A) 0 0 A := by
  refine Met.ofW (cc := cJ5_isLatin1_aae02) (maxL := 1) (ret := (some .boolean)) (by decide) rfl ?_
  intro p e s m args below meth c s₁ B hml hv
  obtain ⟨rfl, hP, hK, hG, hA⟩ := hv
  obtain ⟨hG, hT⟩ := hG
  have hx := B.exec
  have hb := B.bytes
  have hr := B.returns
  have hts := atoms_spec (ws := wsJ5_isLatin1_aae02) B.pre
  have hown : s.vm.findClass RJ5 = some m.cls := findClass_of_methodNamed B.named
  have hlocks := B.notSynchronized
  have hin_J4 : ∀ w ∈ wsJ40, w ∈ wsJ5_isLatin1_aae02 := fun w h => List.mem_cons_of_mem _ (List.mem_append_right _ h)
  have l_18 := (hts (.fieldLink RJ5 18 "java/lang/String" "COMPACT_STRINGS" "Z") (List.mem_of_getElem? (i := 1) rfl))
  have l_22 := (hts (.fieldLink RJ5 22 "java/lang/AbstractStringBuilder" "coder" "B") (List.mem_of_getElem? (i := 2) rfl))
  have hS : va_S A s.heap s.heap [] := va_S.rf
  have hD0 := hD
  have hl := lv_entry ([.ref b0]) (n := 1) (Nat.le_of_ble_eq_true rfl)
  rw [lg_entry_eq]
  generalize (lg_sl ([.ref b0]) ++ List.replicate (1 - (lg_sl ([.ref b0])).length) Slot.unset).toArray = ls at hl ⊢
  have hl : lv_has ls 1 [(0, .ref b0)] := hl
  refine va_gets hx hb hT.1 hS hown l_18 (fun _ h9 => h9) dJ5_isLatin1_aae02_0 ?_
  refine n_if_eq (tgt := 17) hx hb dJ5_isLatin1_aae02_3 (by decide) (by decide) (fun c9 => absurd c9 (by decide)) (fun _ => ?_)
  refine lv_aload_n hx hb dJ5_isLatin1_aae02_6 rfl (lv_at hl 0 rfl) ?_
  refine c_get (C := RJ4) (T := TJ4) (N := 4) hx hb hts hin_J4 hown hK hP hB rfl 1 (by decide) l_22 (fun _ h9 => h9) rfl dJ5_isLatin1_aae02_7 ?_
  refine n_if_ne (tgt := 17) hx hb dJ5_isLatin1_aae02_10 (by decide) (by decide) (fun c9 => absurd c9 (by decide)) (fun _ => ?_)
  refine lv_iconst (v := nI 1) hx hb dJ5_isLatin1_aae02_13 (by decide) ?_
  refine lv_goto (tgt := 18) hx hb dJ5_isLatin1_aae02_14 (by decide) ?_
  exact W.zret (v := nI 1) hx hb hr rfl (fun U9 ht hW9 => ⟨⟨_, (), rfl, rfl, by show va_P D vwCl _ U9.heap; rw [ht]; exact hP⟩, hS.F ht⟩) hS.2.2 dJ5_isLatin1_aae02_18
set_option maxHeartbeats 4000000 in
set_option maxRecDepth 100000 in
theorem cs_ensure (l : Launch) (D : va_G) (cI cO cb : ClassId) (eA mi : Nat) (st : Nat → Nat) (dO dT : Nat) (vF : Value) {A : Nat → Prop} (ws : va_W) (hD : va_D A ws) (b0 r0 n k : Nat) (g : Nat → Int32) (hB : (b0, sbo r0 n) ∈ ws) (hR : (r0, sba cb g) ∈ ws) (hk : k ≤ 16) : Met l yJ5_ensureCapacityInternal_d00df wsJ5_ensureCapacityInternal_d00df ({ frames := 0, cells := 0, slots := 0, locals := 0 }) (va_Pc [.ref b0, .int (nI k)] (cT D cI cO cb eA mi st dO dT vF A ws)) (va_Qv (fun _ : Unit => True) (fun _ U9 => va_P D vwCl ws U9.heap) A) 0 0 A := by
  refine Met.ofW (cc := cJ5_ensureCapacityInternal_d00df) (maxL := 3) (ret := none) (by decide) rfl ?_
  intro p e s m args below meth c s₁ B hml hv
  obtain ⟨rfl, hP, hK, hG, hA⟩ := hv
  obtain ⟨hG, hT⟩ := hG
  have hx := B.exec
  have hb := B.bytes
  have hr := B.returns
  have hts := atoms_spec (ws := wsJ5_ensureCapacityInternal_d00df) B.pre
  have hown : s.vm.findClass RJ5 = some m.cls := findClass_of_methodNamed B.named
  have hlocks := B.notSynchronized
  have hin_J4 : ∀ w ∈ wsJ40, w ∈ wsJ5_ensureCapacityInternal_d00df := fun w h => List.mem_cons_of_mem _ (List.mem_append_right _ h)
  have l_15 := (hts (.fieldLink RJ5 15 "java/lang/AbstractStringBuilder" "value" "[B") (List.mem_of_getElem? (i := 1) rfl))
  have l_22 := (hts (.fieldLink RJ5 22 "java/lang/AbstractStringBuilder" "coder" "B") (List.mem_of_getElem? (i := 2) rfl))
  have hS : va_S A s.heap s.heap [] := va_S.rf
  have hD0 := hD
  have hl := lv_entry ([.ref b0, .int (nI k)]) (n := 3) (Nat.le_of_ble_eq_true rfl)
  rw [lg_entry_eq]
  generalize (lg_sl ([.ref b0, .int (nI k)]) ++ List.replicate (3 - (lg_sl ([.ref b0, .int (nI k)])).length) Slot.unset).toArray = ls at hl ⊢
  have hl : lv_has ls 3 [(0, .ref b0), (1, .int (nI k))] := hl
  refine lv_aload_n hx hb dJ5_ensureCapacityInternal_d00df_0 rfl (lv_at hl 0 rfl) ?_
  refine c_get (C := RJ4) (T := TJ4) (N := 4) hx hb hts hin_J4 hown hK hP hB rfl 0 (by decide) l_15 (fun _ h9 => h9) rfl dJ5_ensureCapacityInternal_d00df_1 ?_
  refine c_alen hx hb hK hP 2 hR rfl rfl dJ5_ensureCapacityInternal_d00df_4 ?_
  refine lv_aload_n hx hb dJ5_ensureCapacityInternal_d00df_5 rfl (lv_at hl 0 rfl) ?_
  refine c_get (C := RJ4) (T := TJ4) (N := 4) hx hb hts hin_J4 hown hK hP hB rfl 1 (by decide) l_22 (fun _ h9 => h9) rfl dJ5_ensureCapacityInternal_d00df_6 ?_
  refine lv_ishr hx hb dJ5_ensureCapacityInternal_d00df_9 ?_
  rw [show nI 16 >>> (nI 0 &&& 31) = nI 16 from by decide +kernel]
  refine lv_istore_n (lv' := [(2, .int (nI 16)), (0, .ref b0), (1, .int (nI k))]) hx hb dJ5_ensureCapacityInternal_d00df_10 rfl hl (by decide) rfl (fun ls hl => ?_)
  refine lv_iload_n hx hb dJ5_ensureCapacityInternal_d00df_11 rfl (lv_at hl 2 rfl) ?_
  refine lv_iload_n hx hb dJ5_ensureCapacityInternal_d00df_12 rfl (lv_at hl 0 rfl) ?_
  refine lv_isub hx hb dJ5_ensureCapacityInternal_d00df_13 ?_
  refine lv_if_le (tgt := 38) hx hb dJ5_ensureCapacityInternal_d00df_14 (by decide)  (fun c_1 => ?_) (fun c_1 => absurd ((d_le0 (by omega) (by decide)).mpr hk) c_1)
  exact W.vret hx hb hr (fun U9 ht hW9 => ⟨⟨(), rfl, trivial, by show va_P D vwCl _ U9.heap; rw [ht]; exact hP⟩, hS.F ht⟩) hS.2.2 dJ5_ensureCapacityInternal_d00df_38
set_option maxHeartbeats 4000000 in
set_option maxRecDepth 100000 in
theorem cs_canEncode (l : Launch)  (x : Nat) (hx9 : x < 128) : Met l yJ1_canEncode_fc78d wsJ1_canEncode_fc78d ({ frames := 0, cells := 0, slots := 0, locals := 0 }) (va_Pc [.int (nI x)] (fun _ => True)) (vp_Si (fun ri => ri = nI 1)) 0 0 (fun _ => False) := by
  refine Met.ofW (cc := cJ1_canEncode_fc78d) (maxL := 1) (ret := (some .boolean)) (by decide) rfl ?_
  intro p e s m args below meth c s₁ B hml hv
  obtain ⟨rfl, -⟩ := hv
  have hx := B.exec
  have hb := B.bytes
  have hr := B.returns
  have hts := atoms_spec (ws := wsJ1_canEncode_fc78d) B.pre
  have hown : s.vm.findClass RJ1 = some m.cls := findClass_of_methodNamed B.named
  have hlocks := B.notSynchronized
  have hl := lv_entry ([.int (nI x)]) (n := 1) (Nat.le_of_ble_eq_true rfl)
  rw [lg_entry_eq]
  generalize (lg_sl ([.int (nI x)]) ++ List.replicate (1 - (lg_sl ([.int (nI x)])).length) Slot.unset).toArray = ls at hl ⊢
  have hl : lv_has ls 1 [(0, .int (nI x))] := hl
  refine lv_iload_n hx hb dJ1_canEncode_fc78d_0 rfl (lv_at hl 0 rfl) ?_
  refine lv_sipush (v := nI 255) hx hb dJ1_canEncode_fc78d_1 (by decide) ?_
  refine n_icmp_gt (tgt := 11) hx hb dJ1_canEncode_fc78d_4 (by decide) (by omega) (by decide) (fun c_1 => absurd c_1 (by omega)) (fun c_1 => ?_)
  refine lv_iconst (v := nI 1) hx hb dJ1_canEncode_fc78d_7 (by decide) ?_
  refine lv_goto (tgt := 12) hx hb dJ1_canEncode_fc78d_8 (by decide) ?_
  exact W.zret (v := nI 1) hx hb hr rfl (fun U9 ht hW => ⟨_, rfl, rfl, ht⟩) (fun _ h => by cases h) dJ1_canEncode_fc78d_12
