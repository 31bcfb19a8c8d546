/-! the library's lists: rows, what a change leaves, add and remove -/
abbrev aO (cO : ClassId) (n : Nat) (f : Nat → Option Nat) : va_E := .inl (cO, n, .inr (.inr (.inr (.inr f))))
abbrev eL (mc : Int32) (r n : Nat) : va_E := .inr (1, [.int mc, .ref r, .int (nI n)])
theorem wup_wup (ws : va_W) (a : Nat) (x y : va_E) : wup (wup ws a x) a y = wup ws a y := by
  unfold wup
  rw [List.map_map]
  apply List.map_congr_left
  intro q _
  by_cases h : q.1 = a <;> simp [h]
theorem wup_self {A : Nat → Prop} {ws : va_W} (hD : va_D A ws) {a : Nat} {x : va_E} (h : (a, x) ∈ ws) : wup ws a x = ws := by
  unfold wup
  conv => rhs; rw [← List.map_id ws]
  apply List.map_congr_left
  intro q hq
  by_cases h2 : q.1 = a
  · obtain ⟨b, y⟩ := q
    cases h2
    rw [if_pos rfl, w_fun hD h hq]; rfl
  · rw [if_neg h2]; rfl
theorem w_new {A : Nat → Prop} {ws : va_W} {q : Nat} {z : va_E} (hD : va_D A (ws ++ [(q, z)])) {b : Nat} {y : va_E} (h : (b, y) ∈ ws) : b ≠ q := by
  intro hq
  subst hq
  obtain ⟨i, hi⟩ := List.getElem?_of_mem h
  have h1 := (List.getElem?_eq_some_iff.mp hi).1
  have := hD.1 i ws.length (b, y) (b, z) ((List.getElem?_append_left h1).trans hi) (by rw [List.getElem?_append_right (Nat.le_refl _), Nat.sub_self]; rfl) rfl
  omega
def Elt (ws : va_W) (z : Nat) : Prop := ∃ (ci : Nat) (fs : List Value), 2 ≤ ci ∧ ci ≤ 8 ∧ (z, .inr (ci, fs)) ∈ ws
theorem Elt.any {D : va_G} {tys : List (ClassId × FieldType)} {ws : va_W} {s : State} {H : Heap} {z : Nat} (h : Elt ws z) (hK : va_K D vwCl tys s) (hP : va_P D vwCl ws H) (hW : gW s) : va_Any "java/lang/Object" s H z := by
  obtain ⟨ci, fs, h1, h2, h3⟩ := h
  have hh : ci = 2 ∨ ci = 3 ∨ ci = 4 ∨ ci = 5 ∨ ci = 6 ∨ ci = 7 ∨ ci = 8 := by omega
  rcases hh with rfl | rfl | rfl | rfl | rfl | rfl | rfl
  · exact c_any hK hP hW (ci := 2) rfl (by decide +kernel) h3
  · exact c_any hK hP hW (ci := 3) rfl (by decide +kernel) h3
  · exact c_any hK hP hW (ci := 4) rfl (by decide +kernel) h3
  · exact c_any hK hP hW (ci := 5) rfl (by decide +kernel) h3
  · exact c_any hK hP hW (ci := 6) rfl (by decide +kernel) h3
  · exact c_any hK hP hW (ci := 7) rfl (by decide +kernel) h3
  · exact c_any hK hP hW (ci := 8) rfl (by decide +kernel) h3
theorem Elt.up {A : Nat → Prop} {ws : va_W} (hD : va_D A ws) {z a : Nat} {x y : va_E} (h : Elt ws z) (ha : (a, y) ∈ ws) (hy : ¬ plainE y) : Elt (wup ws a x) z := by
  obtain ⟨ci, fs, h1, h2, h3⟩ := h
  exact ⟨ci, fs, h1, h2, wup_ne h3 (w_ne hD h3 ha (fun q => hy (by rw [← q]; show ci ≠ 1; omega)))⟩
theorem Elt.app {ws ws2 : va_W} {z : Nat} (h : Elt ws z) : Elt (ws ++ ws2) z := by
  obtain ⟨ci, fs, h1, h2, h3⟩ := h
  exact ⟨ci, fs, h1, h2, List.mem_append_left _ h3⟩
def ownU (own : Nat → Nat) (q a : Nat) : Nat → Nat := fun r => if r = q then a else own r
section KP
variable {cO : ClassId} {eA a : Nat} {own own2 own3 : Nat → Nat} {ws ws2 ws3 : va_W} {A : Nat → Prop}
theorem Keeps.refl : Keeps cO eA own ws own ws a := ⟨fun _ _ _ h => h, fun _ _ _ h => h⟩
theorem Keeps.trans (h1 : Keeps cO eA own ws own2 ws2 a) (h2 : Keeps cO eA own2 ws2 own3 ws3 a) : Keeps cO eA own ws own3 ws3 a := ⟨fun b x hp h => h2.1 b x hp (h1.1 b x hp h), fun b vs hb h => h2.2 b vs hb (h1.2 b vs hb h)⟩
theorem Keeps.obj (hD : va_D A ws) {fs : List Value} {x : va_E} (ha : (a, .inr (1, fs)) ∈ ws) : Keeps cO eA own ws own (wup ws a x) a := by
  refine ⟨fun b y hp h => wup_ne h (w_ne hD h ha (fun q => by rw [q] at hp; exact hp rfl)), fun b vs hb h => ?_⟩
  obtain ⟨mc, r, h1, h2⟩ := h
  refine ⟨mc, r, wup_ne h1 hb, ?_⟩
  rcases h2 with h2 | ⟨h2, n, f, h3, h4⟩
  · exact Or.inl h2
  · exact Or.inr ⟨h2, n, f, wup_ne h3 (w_ne hD h3 ha (fun q => by cases q)), h4⟩
theorem Keeps.arr (hD : va_D A ws) {r n : Nat} {f : Nat → Option Nat} {x : va_E} (ha : (r, aO cO n f) ∈ ws) (hr : own r = a) : Keeps cO eA own ws own (wup ws r x) a := by
  refine ⟨fun b y hp h => wup_ne h (w_ne hD h ha (fun q => by rw [q] at hp; exact hp)), fun b vs hb h => ?_⟩
  obtain ⟨mc, r2, h1, h2⟩ := h
  refine ⟨mc, r2, wup_ne h1 (w_ne hD h1 ha (fun q => by cases q)), ?_⟩
  rcases h2 with h2 | ⟨h2, n, f, h3, h4⟩
  · exact Or.inl h2
  · exact Or.inr ⟨h2, n, f, wup_ne h3 (fun q => hb (by rw [← h2, q, hr])), h4⟩
theorem Keeps.app {q : Nat} {x : va_E} (hD : va_D A (ws ++ [(q, x)])) : Keeps cO eA own ws (ownU own q a) (ws ++ [(q, x)]) a := by
  refine ⟨fun b y hp h => List.mem_append_left _ h, fun b vs hb h => ?_⟩
  obtain ⟨mc, r2, h1, h2⟩ := h
  refine ⟨mc, r2, List.mem_append_left _ h1, ?_⟩
  rcases h2 with h2 | ⟨h2, n, f, h3, h4⟩
  · exact Or.inl h2
  · exact Or.inr ⟨(if_neg (w_new hD h3)).trans h2, n, f, List.mem_append_left _ h3, h4⟩
end KP
section CR2
variable {p : Program} {l : Launch} {e : Env} {R : Room} {s : State} {m : MethodId} {args : Array Value} {below : List Frame} {meth : Method} {c : Code} {H H0 : Heap} {locs : List Loc} {cells slots : Nat} {Q : State → Prop}
variable {cc : ByteArray} {pc : Nat} {ls : Array Slot} {rest : List Value} {D : va_G} {A : Nat → Prop} {tys : List (ClassId × FieldType)} {ws : va_W} {a : Nat} {Ts : List Cond}
theorem c_copy (hx : p.tables.exec = Jvm.exec) (hb : c.code = cc) (hml : c.maxLocals = ls.size) {own : String} {index : Nat} (hown : s.vm.findClass own = some m.cls) (hlink : (Cond.methodLink own index arraycopyName).before args s = true) (hnat : (Cond.native arraycopyName).before args s = true) (hstat : (Cond.static arraycopyName).before args s = true) (hini : (Cond.initialized "java/lang/System").before args s = true)
    (hK : va_K D vwCl tys s) (hP : va_P D vwCl ws H) (hD : va_D A ws) (hS : va_S A H0 H locs) (t0 : Nat) {cO : ClassId} {a0 n0 n1 sp dp k : Nat} {f g : Nat → Option Nat} {E : String} (ha0 : (a0, aO cO n0 f) ∈ ws) (ha1 : (a, aO cO n1 g) ∈ ws) (ht0 : tys[t0]? = some (cO, .object E)) (hn0 : n0 < 2 ^ 31) (hn1 : n1 < 2 ^ 31) (h4 : sp + k ≤ n0) (h5 : dp + k ≤ n1) (hel : ∀ i : Nat, i < k → ∀ y : Nat, f (sp + i) = some y → va_Any E s H y)
    (hframes : 1 ≤ R.frames) (hlocals : (rest.map fun v => v.category).sum + (nativeFrameWords "java/lang/System" "arraycopy" 5 + 11) ≤ R.locals) (hdg : decode cc pc = .ok (.invokestatic index, 3))
    (kk : ∀ (H1 : Heap) (locs1 : List Loc), va_P D vwCl (wup ws a (aO cO n1 (va_cpy f g sp dp k))) H1 → va_D A (wup ws a (aO cO n1 (va_cpy f g sp dp k))) → va_S A H0 H1 locs1 → W p l e R s m args below meth c H1 locs1 cells slots Q (F0 m (pc + 3) ls rest)) : W p l e R s m args below meth c H locs cells slots Q (F0 m pc ls (.int (nI k) :: .int (nI dp) :: .ref a :: .int (nI sp) :: .ref a0 :: rest)) := by
  obtain ⟨q0, hq0⟩ := List.getElem?_of_mem ha0
  obtain ⟨q1, hq1⟩ := List.getElem?_of_mem ha1
  have e1 : (nI sp).toNatClampNeg = sp := nI_clamp (by omega)
  have e2 : (nI dp).toNatClampNeg = dp := nI_clamp (by omega)
  have e3 : (nI k).toNatClampNeg = k := nI_clamp (by omega)
  refine va_copyM hx hb hml hown hlink hnat hstat hini hK hP hD hS q0 q1 t0 t0 hq0 hq1 ht0 ht0 (nI_pos (by omega)) (nI_pos (by omega)) (nI_pos (by omega)) (by rw [e1, e3]; exact h4) (by rw [e2, e3]; exact h5) (by rw [e1, e3]; exact hel) hframes hlocals hdg (fun H1 locs1 g1 g2 g3 => ?_)
  rw [e1, e2, e3, wup_set hD hq1] at g1 g2
  exact kk H1 locs1 g1 g2 g3
theorem c_newq (hx : p.tables.exec = Jvm.exec) (hb : c.code = cc) {own C : String} {index t0 : Nat} {cO : ClassId} (hown : s.vm.findClass own = some m.cls) (hclink : (Cond.classLink own index C).before args s = true) (hover : va_AO C s) (hK : va_K D vwCl tys s) (ht : tys[t0]? = some (cO, .object C)) (hP : va_P D vwCl ws H) (hD : va_D A ws) (hS : va_S A H0 H locs) (hA : ∀ q, H0.size ≤ q → A q)
    {n : Nat} (hn : n ≤ 1000) (hcells : cells + 1 ≤ R.cells) (hslots : slots + n ≤ R.slots) (hdg : decode cc pc = .ok (.anewarray index, 3))
    (kk : ∀ (q : Nat) (H1 : Heap), va_P D vwCl (ws ++ [(q, aO cO n (fun _ => none))]) H1 → va_D A (ws ++ [(q, aO cO n (fun _ => none))]) → va_S A H0 H1 locs → W p l e R s m args below meth c H1 locs (cells + 1) (slots + n) Q (F0 m (pc + 3) ls (.ref q :: rest))) : W p l e R s m args below meth c H locs cells slots Q (F0 m pc ls (.int (nI n) :: rest)) := by
  refine va_newq hx hb hown hclink hover hK hP hD hS hA (nI_pos (by omega)) (nI_clamp (by omega)) (by omega) hcells hslots hdg (fun q cA H1 g0 g1 g2 g3 => ?_)
  have k1 := (g0.2 tys.length _ (by rw [List.getElem?_append_right (Nat.le_refl _), Nat.sub_self]; rfl)).2
  have k2 := (hK.2 t0 _ ht).2
  obtain ⟨_, _, _, _, _, k1⟩ := k1
  obtain ⟨_, _, _, _, _, k2⟩ := k2
  cases k1.symm.trans k2
  exact kk q H1 g1 g2 g3
end CR2
theorem wup_app {A : Nat → Prop} {ws : va_W} {q : Nat} {x z y : va_E} (hD : va_D A (wup (ws ++ [(q, z)]) q y)) : wup (ws ++ [(q, z)]) q x = ws ++ [(q, x)] := by
  have hne : ∀ r ∈ ws, ¬ r.1 = q := by
    intro r h hq
    obtain ⟨i, hi⟩ := List.getElem?_of_mem h
    have h1 := (List.getElem?_eq_some_iff.mp hi).1
    have := hD.1 i ws.length (q, y) (q, y) (by unfold wup; rw [List.getElem?_map, List.getElem?_append_left h1, hi]; simp [hq]) (by unfold wup; rw [List.getElem?_map, List.getElem?_append_right (Nat.le_refl _), Nat.sub_self]; simp) rfl
    omega
  unfold wup
  rw [List.map_append]
  congr 1
  · conv => rhs; rw [← List.map_id ws]
    exact List.map_congr_left (fun r h => if_neg (hne r h))
  · simp
theorem c_recvA {D : va_G} {tys : List (ClassId × FieldType)} {ws : va_W} {s : State} {H : Heap} (hK : va_K D vwCl tys s) (hP : va_P D vwCl ws H) (t0 : Nat) {cO : ClassId} {C : String} {r n : Nat} {f : Nat → Option Nat} (ht : tys[t0]? = some (cO, .object C)) (ha : (r, aO cO n f) ∈ ws) : ∃ cell : Cell, H[r]? = some cell ∧ cell.vm.isStatics = false ∧ s.vm.findClass ("[" ++ (FieldType.object C).toString) = some cell.cls := by
  obtain ⟨q0, hq⟩ := List.getElem?_of_mem ha
  obtain ⟨_, _, _, _, _, k2⟩ := (hK.2 t0 _ ht).2
  exact ⟨_, hP q0 _ hq, rfl, k2⟩
theorem mem_appD {A : Nat → Prop} {ws ws2 : va_W} (_ : va_D A (ws ++ ws2)) {q : Nat × va_E} (h : q ∈ ws) : q ∈ ws ++ ws2 := List.mem_append_left _ h
theorem shr1 {n : Nat} (h : n < 2 ^ 31) : nI n >>> (nI 1 &&& 31) = nI (n / 2) := by
  have k := pk_shrN (n := n) h ((1 : Int32) &&& 31) 1 (by decide)
  rw [Nat.pow_one] at k
  exact k
theorem cpy0 {n i : Nat} {f g : Nat → Option Nat} (h : i < n) : va_cpy f g 0 0 n i = f i := by
  unfold va_cpy
  rw [if_pos ⟨Nat.zero_le _, by omega⟩, Nat.zero_add, Nat.sub_zero]
/-- the end of an add: the array's cell, then the size -/
theorem add_end {cO : ClassId} {eA : Nat} {own : Nat → Nat} {A : Nat → Prop} {ws : va_W} (hD : va_D A ws) {a r n z : Nat} {mc : Int32} {vs : List Nat} {f : Nat → Option Nat} (h1 : (a, eL mc r vs.length) ∈ ws) (ho : own r = a) (h3 : (r, aO cO n f) ∈ ws) (hl : vs.length < n) (h10 : 10 ≤ n) (hn : n ≤ 100) (hf : ∀ i (h : i < vs.length), f i = some vs[i]) (hD2 : va_D A (wup ws r (aO cO n (va_up f vs.length (some z))))) :
    Lst cO eA own (wup (wup ws r (aO cO n (va_up f vs.length (some z)))) a (eL mc r (vs.length + 1))) a (vs ++ [z]) ∧ Keeps cO eA own ws own (wup (wup ws r (aO cO n (va_up f vs.length (some z)))) a (eL mc r (vs.length + 1))) a := by
  have hm := wup_eq (x := aO cO n (va_up f vs.length (some z))) h3
  have hm1 := wup_ne (x := aO cO n (va_up f vs.length (some z))) h1 (w_ne hD h1 h3 (fun q => by cases q))
  refine ⟨⟨mc, r, ?_, Or.inr ⟨ho, n, _, wup_ne hm (w_ne hD h3 h1 (fun q => by cases q)), ?_, h10, hn, ?_⟩⟩, (Keeps.arr hD h3 ho).trans (Keeps.obj hD2 hm1)⟩
  · rw [List.length_append]; exact wup_eq hm1
  · rw [List.length_append]; exact hl
  · intro i hi
    rw [List.length_append] at hi
    by_cases hq : i < vs.length
    · rw [List.getElem_append_left hq]
      show (if i = vs.length then some z else f i) = _
      rw [if_neg (by omega)]; exact hf i hq
    · have hi2 : i = vs.length := by simp at hi; omega
      subst hi2
      show (if vs.length = vs.length then some z else f vs.length) = _
      rw [if_pos rfl]; simp
theorem D_unwup {A : Nat → Prop} {ws : va_W} {a : Nat} {x : va_E} (h : va_D A (wup ws a x)) : va_D A ws := by
  have ha : ∀ (i : Nat) (q : Nat × va_E), ws[i]? = some q → ∃ z, (wup ws a x)[i]? = some (q.1, z) := by
    intro i q hq
    unfold wup
    rw [List.getElem?_map, hq]
    by_cases hh : q.1 = a
    · exact ⟨x, by simp [hh]⟩
    · exact ⟨q.2, by simp [hh]⟩
  refine ⟨fun i j q r h1 h2 h3 => ?_, fun i q h1 => ?_⟩
  · obtain ⟨_, g1⟩ := ha i q h1
    obtain ⟨_, g2⟩ := ha j r h2
    exact h.1 i j _ _ g1 g2 h3
  · obtain ⟨_, g1⟩ := ha i q h1
    have g2 := h.2 i _ g1
    exact g2
set_option maxHeartbeats 4000000 in
set_option maxRecDepth 100000 in
theorem cl_colInit (l : Launch) (D : va_G) (cI cO cb : ClassId) (eA mi : Nat) (st : Nat → Nat) {A : Nat → Prop} (ws : va_W) (hD : va_D A ws) (a : Nat) : Met l yJxa1e45_init_da8c8 wsJxa1e45_init_da8c8 ({ frames := 1, cells := 0, slots := 0, locals := 12 }) (va_Pc [.ref a] (cB D cI cO cb eA mi st A ws)) (va_Qv (fun _ : Unit => True) (fun _ U9 => va_P D vwCl ws U9.heap) A) 0 0 A := by
  refine Met.ofW (cc := cJxa1e45_init_da8c8) (maxL := 1) (ret := none) (by decide) rfl ?_
  intro p e s m args below meth c s₁ B hml hv
  obtain ⟨rfl, hP, hK, hG, hA⟩ := hv
  have hx := B.exec
  have hb := B.bytes
  have hr := B.returns
  have hts := atoms_spec (ws := wsJxa1e45_init_da8c8) B.pre
  have hown : s.vm.findClass RJxa1e45 = some m.cls := findClass_of_methodNamed B.named
  have hlocks := B.notSynchronized
  have hin2 : meth.name = "<init>" := (name_of_methodNamed B.named B.method).1
  have hS : va_S A s.heap s.heap [] := va_S.rf
  have hD0 := hD
  have hl := lv_entry ([.ref a]) (n := 1) (Nat.le_of_ble_eq_true rfl)
  rw [lg_entry_eq]
  generalize (lg_sl ([.ref a]) ++ List.replicate (1 - (lg_sl ([.ref a])).length) Slot.unset).toArray = ls at hl ⊢
  have hl : lv_has ls 1 [(0, .ref a)] := hl
  refine lv_aload_n hx hb dJxa1e45_init_da8c8_0 rfl (lv_at hl 0 rfl) ?_
  refine W.objInit hx hb hown (hts (.methodLink RJxa1e45 1 objectInit) (List.mem_of_getElem? (i := 1) rfl)) (hts (.instanceMethod objectInit) (List.mem_of_getElem? (i := 2) rfl)) (hts (.code objectInit ⟨#[0xb1]⟩ 1 none) (List.mem_of_getElem? (i := 3) rfl)) rfl (hl.1.trans hml.symm) rfl dJxa1e45_init_da8c8_1 (Nat.le_of_ble_eq_true rfl) (Nat.le_of_ble_eq_true rfl) ?_
  exact W.vret hx hb hr (fun U9 ht hW => ⟨⟨(), rfl, trivial, by show va_P D vwCl ws U9.heap; rw [ht]; exact hP⟩, hS.F ht⟩) hS.2.2 dJxa1e45_init_da8c8_4
set_option maxHeartbeats 4000000 in
set_option maxRecDepth 100000 in
theorem cl_listInit (l : Launch) (D : va_G) (cI cO cb : ClassId) (eA mi : Nat) (st : Nat → Nat) {A : Nat → Prop} (ws : va_W) (hD : va_D A ws) (a : Nat) (ha : (a, .inr (1, [.int (nI 0), .null, .int (nI 0)])) ∈ ws) : Met l yJxc12de_init_da8c8 wsJxc12de_init_da8c8 ({ frames := 2, cells := 0, slots := 0, locals := 32 }) (va_Pc [.ref a] (cB D cI cO cb eA mi st A ws)) (va_Qv (fun _ : Unit => True) (fun _ U9 => va_P D vwCl ws U9.heap) A) 0 0 A := by
  refine Met.ofW (cc := cJxc12de_init_da8c8) (maxL := 1) (ret := none) (by decide) rfl ?_
  intro p e s m args below meth c s₁ B hml hv
  obtain ⟨rfl, hP, hK, hG, hA⟩ := hv
  have hx := B.exec
  have hb := B.bytes
  have hr := B.returns
  have hts := atoms_spec (ws := wsJxc12de_init_da8c8) B.pre
  have hown : s.vm.findClass RJxc12de = some m.cls := findClass_of_methodNamed B.named
  have hlocks := B.notSynchronized
  have hin2 : meth.name = "<init>" := (name_of_methodNamed B.named B.method).1
  have hin_Jx4a65c : ∀ w ∈ wsJx4a65c0, w ∈ wsJxc12de_init_da8c8 := fun w h => List.mem_cons_of_mem _ (List.mem_append_right _ h)
  have l_7 := (hts (.fieldLink RJxc12de 7 "java/util/AbstractList" "modCount" "I") (List.mem_of_getElem? (i := 1) rfl))
  have hS : va_S A s.heap s.heap [] := va_S.rf
  have hD0 := hD
  have hl := lv_entry ([.ref a]) (n := 1) (Nat.le_of_ble_eq_true rfl)
  rw [lg_entry_eq]
  generalize (lg_sl ([.ref a]) ++ List.replicate (1 - (lg_sl ([.ref a])).length) Slot.unset).toArray = ls at hl ⊢
  have hl : lv_has ls 1 [(0, .ref a)] := hl
  refine lv_aload_n hx hb dJxc12de_init_da8c8_0 rfl (lv_at hl 0 rfl) ?_
  refine va_callv (va_runI (As := []) (rest := []) ⟨hx, hb, hml, hown, hts⟩ (cl_colInit l D cI cO cb eA mi st ws hD a) (cwI 0 hts ggJxc12de_init_da8c8_Jxa1e45_init_da8c8 rfl rfl rfl (hts (.initialized yJxa1e45_init_da8c8.cls) (List.mem_of_getElem? (i := 4) rfl)) (hts (.methodLink RJxc12de 1 yJxa1e45_init_da8c8) (List.mem_of_getElem? (i := 2) rfl)) (hts (.instanceMethod yJxa1e45_init_da8c8) (List.mem_of_getElem? (i := 3) rfl)) rfl kd_Jxa1e45_init_da8c8 ⟨Nat.le_of_ble_eq_true rfl, Nat.le_of_ble_eq_true rfl⟩) ⟨cB_blind, cB_pre hK hG hA hS hP _⟩ rfl rfl hl.1 rfl (lv_room (Nat.le_of_ble_eq_true rfl)) dJxc12de_init_da8c8_1 ⟨Nat.le_of_ble_eq_true rfl, Nat.le_of_ble_eq_true rfl⟩) hS (fun _ _ h => h) (fun _ h => h) (fun u U8 H1 locs1 ht hvm hu hB hz1 hk1 hS1 => ?_)
  rw [ht] at hB
  clear hS
  have hS := hS1
  replace hP := hB
  generalize H1 = H at hP hS ⊢
  refine lv_aload_n hx hb dJxc12de_init_da8c8_4 rfl (lv_at hl 0 rfl) ?_
  refine lv_iconst (v := nI 0) hx hb dJxc12de_init_da8c8_5 (by decide) ?_
  have hm_1 := wup_eq (x := .inr (1, [.int (nI 0), .null, .int (nI 0)])) ha
  refine c_put (C := RJx4a65c) (T := TJx4a65c) (N := 3) (v := .int (nI 0)) (ty := .int) (fs2 := [.int (nI 0), .null, .int (nI 0)]) hx hb hts hin_Jx4a65c tyJx4a65c tyJx4a65c_ok nmJx4a65c hown hK hP hD hS ha rfl 0 (by decide) l_7 (fun _ h9 => h9) rfl (by decide +kernel) rfl rfl (Nat.le_of_ble_eq_true rfl) rfl dJxc12de_init_da8c8_6 (fun H locs hP hD hS => ?_)
  rw [wup_self hD0 ha] at hP
  exact W.vret hx hb hr (fun U9 ht hW => ⟨⟨(), rfl, trivial, by show va_P D vwCl ws U9.heap; rw [ht]; exact hP⟩, hS.F ht⟩) hS.2.2 dJxc12de_init_da8c8_9
set_option maxHeartbeats 4000000 in
set_option maxRecDepth 100000 in
theorem cl_init (l : Launch) (D : va_G) (cI cO cb : ClassId) (eA mi : Nat) (st : Nat → Nat) {A : Nat → Prop} (ws : va_W) (hD : va_D A ws) (a : Nat) (ha : (a, .inr (1, [.int (nI 0), .null, .int (nI 0)])) ∈ ws) : Met l yJx4a65c_init_da8c8 wsJx4a65c_init_da8c8 ({ frames := 3, cells := 0, slots := 0, locals := 52 }) (va_Pc [.ref a] (cB D cI cO cb eA mi st A ws)) (va_Qv (fun _ : Unit => True) (fun _ U9 => va_D A (wup ws a (eL (nI 0) eA 0)) ∧ va_P D vwCl (wup ws a (eL (nI 0) eA 0)) U9.heap) A) 0 0 A := by
  refine Met.ofW (cc := cJx4a65c_init_da8c8) (maxL := 1) (ret := none) (by decide) rfl ?_
  intro p e s m args below meth c s₁ B hml hv
  obtain ⟨rfl, hP, hK, hG, hA⟩ := hv
  have hx := B.exec
  have hb := B.bytes
  have hr := B.returns
  have hts := atoms_spec (ws := wsJx4a65c_init_da8c8) B.pre
  have hown : s.vm.findClass RJx4a65c = some m.cls := findClass_of_methodNamed B.named
  have hlocks := B.notSynchronized
  have hin2 : meth.name = "<init>" := (name_of_methodNamed B.named B.method).1
  have hin_Jx4a65c : ∀ w ∈ wsJx4a65c0, w ∈ wsJx4a65c_init_da8c8 := fun w h => List.mem_cons_of_mem _ (List.mem_append_right _ h)
  have l_9 := (hts (.fieldLink RJx4a65c 9 "java/util/ArrayList" "elementData" "[Ljava/lang/Object;") (List.mem_of_getElem? (i := 2) rfl))
  have hS : va_S A s.heap s.heap [] := va_S.rf
  have hD0 := hD
  have hl := lv_entry ([.ref a]) (n := 1) (Nat.le_of_ble_eq_true rfl)
  rw [lg_entry_eq]
  generalize (lg_sl ([.ref a]) ++ List.replicate (1 - (lg_sl ([.ref a])).length) Slot.unset).toArray = ls at hl ⊢
  have hl : lv_has ls 1 [(0, .ref a)] := hl
  refine lv_aload_n hx hb dJx4a65c_init_da8c8_0 rfl (lv_at hl 0 rfl) ?_
  refine va_callv (va_runI (As := []) (rest := []) ⟨hx, hb, hml, hown, hts⟩ (cl_listInit l D cI cO cb eA mi st ws hD a ha) (cwI 0 hts ggJx4a65c_init_da8c8_Jxc12de_init_da8c8 rfl rfl rfl (hts (.initialized yJxc12de_init_da8c8.cls) (List.mem_of_getElem? (i := 5) rfl)) (hts (.methodLink RJx4a65c 1 yJxc12de_init_da8c8) (List.mem_of_getElem? (i := 3) rfl)) (hts (.instanceMethod yJxc12de_init_da8c8) (List.mem_of_getElem? (i := 4) rfl)) rfl kd_Jxc12de_init_da8c8 ⟨Nat.le_of_ble_eq_true rfl, Nat.le_of_ble_eq_true rfl⟩) ⟨cB_blind, cB_pre hK hG hA hS hP _⟩ rfl rfl hl.1 rfl (lv_room (Nat.le_of_ble_eq_true rfl)) dJx4a65c_init_da8c8_1 ⟨Nat.le_of_ble_eq_true rfl, Nat.le_of_ble_eq_true rfl⟩) hS (fun _ _ h => h) (fun _ h => h) (fun u U8 H1 locs1 ht hvm hu hB hz1 hk1 hS1 => ?_)
  rw [ht] at hB
  clear hS
  have hS := hS1
  replace hP := hB
  generalize H1 = H at hP hS ⊢
  refine lv_aload_n hx hb dJx4a65c_init_da8c8_4 rfl (lv_at hl 0 rfl) ?_
  refine va_gets hx hb hG.2.2.1 hS hown (hts (.fieldLink RJx4a65c 39 "java/util/ArrayList" "DEFAULTCAPACITY_EMPTY_ELEMENTDATA" "[Ljava/lang/Object;") (List.mem_of_getElem? (i := 1) rfl)) (fun _ h9 => h9) dJx4a65c_init_da8c8_5 ?_
  have hm_1 := wup_eq (x := .inr (1, [.int (nI 0), .ref eA, .int (nI 0)])) ha
  refine c_put (C := RJx4a65c) (T := TJx4a65c) (N := 3) (v := .ref eA) (ty := (.array (.object "java/lang/Object"))) (fs2 := [.int (nI 0), .ref eA, .int (nI 0)]) hx hb hts hin_Jx4a65c tyJx4a65c tyJx4a65c_ok nmJx4a65c hown hK hP hD hS ha rfl 1 (by decide) l_9 (fun _ h9 => h9) rfl (by decide +kernel) rfl rfl (Nat.le_of_ble_eq_true rfl) rfl dJx4a65c_init_da8c8_8 (fun H locs hP hD hS => ?_)
  exact W.vret hx hb hr (fun U9 ht hW => ⟨⟨(), rfl, trivial, ⟨hD, by rw [ht]; exact hP⟩⟩, hS.F ht⟩) hS.2.2 dJx4a65c_init_da8c8_11
set_option maxHeartbeats 4000000 in
set_option maxRecDepth 100000 in
theorem cl_copy3 (l : Launch) (D : va_G) (cI cO cb : ClassId) (eA mi : Nat) (st : Nat → Nat) {A : Nat → Prop} (ws : va_W) (hD : va_D A ws) (r n N : Nat) (f : Nat → Option Nat) (ha : (r, aO cO n f) ∈ ws) (hel : ∀ i y : Nat, i < n → f i = some y → Elt ws y) (hn : n ≤ N) (hN : N ≤ 96) : Met l yJ7_copyOf_6403c wsJ7_copyOf_6403c ({ frames := 1, cells := 1, slots := 96, locals := 60 }) (va_Pc [.ref r, .int (nI N), .ref mi] (cB D cI cO cb eA mi st A ws)) (va_Qr (fun _ : Unit => True) (fun _ q U9 => va_D A (ws ++ [(q, aO cO N (va_cpy f (fun _ => none) 0 0 n))]) ∧ va_P D vwCl (ws ++ [(q, aO cO N (va_cpy f (fun _ => none) 0 0 n))]) U9.heap) A) 1 96 A := by
  refine Met.ofW (cc := cJ7_copyOf_6403c) (maxL := 4) (ret := (some (.array (.object "java/lang/Object")))) (by decide) rfl ?_
  intro p e s m args below meth c s₁ B hml hv
  obtain ⟨rfl, hP, hK, hG, hA⟩ := hv
  have hx := B.exec
  have hb := B.bytes
  have hr := B.returns
  have hts := atoms_spec (ws := wsJ7_copyOf_6403c) B.pre
  have hown : s.vm.findClass RJ7 = some m.cls := findClass_of_methodNamed B.named
  have hlocks := B.notSynchronized
  have hS : va_S A s.heap s.heap [] := va_S.rf
  have hD0 := hD
  have hl := lv_entry ([.ref r, .int (nI N), .ref mi]) (n := 4) (Nat.le_of_ble_eq_true rfl)
  rw [lg_entry_eq]
  generalize (lg_sl ([.ref r, .int (nI N), .ref mi]) ++ List.replicate (4 - (lg_sl ([.ref r, .int (nI N), .ref mi])).length) Slot.unset).toArray = ls at hl ⊢
  have hl : lv_has ls 4 [(0, .ref r), (1, .int (nI N)), (2, .ref mi)] := hl
  refine lv_aload_n hx hb dJ7_copyOf_6403c_0 rfl (lv_at hl 2 rfl) ?_
  refine va_ldcM hx hb hown (hts (.classLink RJ7 110 "[Ljava/lang/Object;") (List.mem_of_getElem? (i := 1) rfl)) hG.2.2.2.2.2.1 dJ7_copyOf_6403c_1 ?_
  refine lv_acmp_ne (rx := some mi) (ry := some mi) (tgt := 13) hx hb dJ7_copyOf_6403c_3 (by decide) (fun c9 => absurd rfl c9) (fun _ => ?_)
  refine lv_iload_n hx hb dJ7_copyOf_6403c_6 rfl (lv_at hl 1 rfl) ?_
  refine c_newq hx hb hown (hts (.classLink RJ7 2 "java/lang/Object") (List.mem_of_getElem? (i := 2) rfl)) hG.2.2.2.2.1 hK (t0 := 1) rfl hP hD hS hA (by omega) (Nat.le_of_ble_eq_true rfl) (by show 0 + N ≤ 96; omega) dJ7_copyOf_6403c_7 (fun q H hP hD hS => ?_)
  refine lv_goto (tgt := 24) hx hb dJ7_copyOf_6403c_10 (by decide) ?_
  refine lv_astore_n (lv' := [(3, .ref q), (0, .ref r), (1, .int (nI N)), (2, .ref mi)]) hx hb dJ7_copyOf_6403c_24 rfl hl (by decide) rfl (fun ls hl => ?_)
  refine lv_aload_n hx hb dJ7_copyOf_6403c_25 rfl (lv_at hl 1 rfl) ?_
  refine lv_iconst (v := nI 0) hx hb dJ7_copyOf_6403c_26 (by decide) ?_
  refine lv_aload_n hx hb dJ7_copyOf_6403c_27 rfl (lv_at hl 0 rfl) ?_
  refine lv_iconst (v := nI 0) hx hb dJ7_copyOf_6403c_28 (by decide) ?_
  refine lv_aload_n hx hb dJ7_copyOf_6403c_29 rfl (lv_at hl 1 rfl) ?_
  refine c_alen hx hb hK hP 1 (List.mem_append_left _ ha) rfl rfl dJ7_copyOf_6403c_30 ?_
  refine lv_iload_n hx hb dJ7_copyOf_6403c_31 rfl (lv_at hl 2 rfl) ?_
  refine va_mmin hx hb (hml.trans hl.1.symm) hown (hts (.methodLink RJ7 304 Lib.Math.min.name) (List.mem_of_getElem? (i := 3) rfl)) (hts (.static Lib.Math.min.name) (List.mem_of_getElem? (i := 4) rfl)) (hts (.initialized "java/lang/Math") (List.mem_of_getElem? (i := 5) rfl)) (hts (.code Lib.Math.min.name Lib.Math.min.code 2 (some .int)) (List.mem_of_getElem? (i := 6) rfl)) (Nat.le_of_ble_eq_true rfl) (Nat.le_of_ble_eq_true rfl) (by show _ ≤ 1; omega) (by show _ ≤ 96; omega) dJ7_copyOf_6403c_32 ?_
  rw [if_neg (show ¬ nI N < nI n from nI_nlt (by omega) (by omega))]
  have hq : (q, aO cO N (fun _ => none)) ∈ ws ++ [(q, aO cO N (fun _ => none))] := List.mem_append_right _ (List.mem_singleton.mpr rfl)
  refine c_copy hx hb (hml.trans hl.1.symm) hown (hts (.methodLink RJ7 150 arraycopyName) (List.mem_of_getElem? (i := 7) rfl)) (hts (.native arraycopyName) (List.mem_of_getElem? (i := 8) rfl)) (hts (.static arraycopyName) (List.mem_of_getElem? (i := 9) rfl)) (hts (.initialized "java/lang/System") (List.mem_of_getElem? (i := 10) rfl)) hK hP hD hS 1 (List.mem_append_left _ ha) hq rfl (by omega) (by omega) (by omega) (by omega) (fun i h9 y h8 => (hel i y h9 (by rw [Nat.zero_add] at h8; exact h8)).app.any hK hP hG.2.2.2.2.2.2.1) (Nat.le_of_ble_eq_true rfl) (Nat.le_of_ble_eq_true rfl) dJ7_copyOf_6403c_35 (fun H locs hP hD hS => ?_)
  refine lv_aload_n hx hb dJ7_copyOf_6403c_38 rfl (lv_at hl 0 rfl) ?_
  rw [wup_app hD] at hP hD
  refine W.widen (k := 1) (n := 96) (by omega) (by omega) ?_
  exact W.aret hx hb hr (Or.inr ⟨_, rfl⟩) (Or.inr ⟨_, rfl⟩) (fun U9 ht hW => ⟨⟨(), _, rfl, trivial, ⟨hD, by rw [ht]; exact hP⟩⟩, hS.F ht⟩) hS.2.2 dJ7_copyOf_6403c_39
set_option maxHeartbeats 4000000 in
set_option maxRecDepth 100000 in
theorem cl_copy2 (l : Launch) (D : va_G) (cI cO cb : ClassId) (eA mi : Nat) (st : Nat → Nat) {A : Nat → Prop} (ws : va_W) (hD : va_D A ws) (r n N : Nat) (f : Nat → Option Nat) (ha : (r, aO cO n f) ∈ ws) (hel : ∀ i y : Nat, i < n → f i = some y → Elt ws y) (hn : n ≤ N) (hN : N ≤ 96) : Met l yJ7_copyOf_1904c wsJ7_copyOf_1904c ({ frames := 2, cells := 1, slots := 96, locals := 83 }) (va_Pc [.ref r, .int (nI N)] (cB D cI cO cb eA mi st A ws)) (va_Qr (fun _ : Unit => True) (fun _ q U9 => va_D A (ws ++ [(q, aO cO N (va_cpy f (fun _ => none) 0 0 n))]) ∧ va_P D vwCl (ws ++ [(q, aO cO N (va_cpy f (fun _ => none) 0 0 n))]) U9.heap) A) 1 96 A := by
  refine Met.ofW (cc := cJ7_copyOf_1904c) (maxL := 2) (ret := (some (.array (.object "java/lang/Object")))) (by decide) rfl ?_
  intro p e s m args below meth c s₁ B hml hv
  obtain ⟨rfl, hP, hK, hG, hA⟩ := hv
  have hx := B.exec
  have hb := B.bytes
  have hr := B.returns
  have hts := atoms_spec (ws := wsJ7_copyOf_1904c) B.pre
  have hown : s.vm.findClass RJ7 = some m.cls := findClass_of_methodNamed B.named
  have hlocks := B.notSynchronized
  have hS : va_S A s.heap s.heap [] := va_S.rf
  have hD0 := hD
  have hl := lv_entry ([.ref r, .int (nI N)]) (n := 2) (Nat.le_of_ble_eq_true rfl)
  rw [lg_entry_eq]
  generalize (lg_sl ([.ref r, .int (nI N)]) ++ List.replicate (2 - (lg_sl ([.ref r, .int (nI N)])).length) Slot.unset).toArray = ls at hl ⊢
  have hl : lv_has ls 2 [(0, .ref r), (1, .int (nI N))] := hl
  refine lv_aload_n hx hb dJ7_copyOf_1904c_0 rfl (lv_at hl 0 rfl) ?_
  refine lv_iload_n hx hb dJ7_copyOf_1904c_1 rfl (lv_at hl 1 rfl) ?_
  refine lv_aload_n hx hb dJ7_copyOf_1904c_2 rfl (lv_at hl 0 rfl) ?_
  refine va_getC hx hb (hml.trans hl.1.symm) hown (hts (.methodLink RJ7 86 ⟨"java/lang/Object", "getClass", "()Ljava/lang/Class;"⟩) (List.mem_of_getElem? (i := 1) rfl)) (va_Nw.use rfl (hG.2.2.2.2.2.2.1.2 _ (by decide +kernel))) (hts (.selects "[Ljava/lang/Object;" ⟨"java/lang/Object", "getClass", "()Ljava/lang/Class;"⟩ ⟨"java/lang/Object", "getClass", "()Ljava/lang/Class;"⟩) (List.mem_of_getElem? (i := 2) rfl)) (hts (.instanceMethod ⟨"java/lang/Object", "getClass", "()Ljava/lang/Class;"⟩) (List.mem_of_getElem? (i := 3) rfl)) (hts (.native ⟨"java/lang/Object", "getClass", "()Ljava/lang/Class;"⟩) (List.mem_of_getElem? (i := 4) rfl)) hG.2.2.2.2.2.1 (c_recvA hK hP 1 rfl ha) (Nat.le_of_ble_eq_true rfl) (Nat.le_of_ble_eq_true rfl) dJ7_copyOf_1904c_3 ?_
  refine va_callr (va_runS (As := [.ref r, .int (nI N), .ref mi]) (rest := []) ⟨hx, hb, hml, hown, hts⟩ (cl_copy3 l D cI cO cb eA mi st ws hD r n N f ha hel hn hN) (va_cwS 3 hts gJ7_copyOf_1904c_J7_copyOf_6403c rfl rfl rfl kd_J7_copyOf_6403c ⟨Nat.le_of_ble_eq_true rfl, Nat.le_of_ble_eq_true rfl⟩) ⟨cB_blind, cB_pre hK hG hA hS hP _⟩ rfl rfl hl.1 rfl (lv_room (Nat.le_of_ble_eq_true rfl)) dJ7_copyOf_1904c_6 ⟨Nat.le_of_ble_eq_true rfl, Nat.le_of_ble_eq_true rfl⟩) hS (fun _ _ h => h) (fun _ h => h) (fun u ra U8 H1 locs1 ht hvm hu hB hz1 hk1 hS1 => ?_)
  obtain ⟨hD1, hB⟩ := hB
  rw [ht] at hB
  clear hS
  have hS := hS1
  replace hP := hB
  replace hD := hD1
  generalize H1 = H at hP hS ⊢
  refine W.widen (k := 1) (n := 96) (by omega) (by omega) ?_
  exact W.aret hx hb hr (Or.inr ⟨_, rfl⟩) (Or.inr ⟨_, rfl⟩) (fun U9 ht hW => ⟨⟨(), _, rfl, trivial, ⟨hD, by rw [ht]; exact hP⟩⟩, hS.F ht⟩) hS.2.2 dJ7_copyOf_1904c_9
set_option maxHeartbeats 4000000 in
set_option maxRecDepth 100000 in
theorem cl_grow1 (l : Launch) (D : va_G) (cI cO cb : ClassId) (eA mi : Nat) (st : Nat → Nat) {A : Nat → Prop} (ws : va_W) (hD : va_D A ws) (a r n : Nat) (mc : Int32) (f : Nat → Option Nat) (h1 : (a, eL mc r n) ∈ ws) (hc : (0 = n ∧ eA = r) ∨ (10 ≤ n ∧ n ≤ 64 ∧ (r, aO cO n f) ∈ ws ∧ ∀ i y : Nat, i < n → f i = some y → Elt ws y)) : Met l yJx4a65c_grow_92f84 wsJx4a65c_grow_92f84 ({ frames := 3, cells := 1, slots := 96, locals := 104 }) (va_Pc [.ref a, .int (nI (n + 1))] (cB D cI cO cb eA mi st A ws)) (va_Qr (fun u : Nat × (Nat → Option Nat) => n < u.1 ∧ 10 ≤ u.1 ∧ u.1 ≤ 96 ∧ ∀ i, i < n → u.2 i = f i) (fun u q U9 => va_D A (wup (ws ++ [(q, aO cO u.1 u.2)]) a (eL mc q n)) ∧ va_P D vwCl (wup (ws ++ [(q, aO cO u.1 u.2)]) a (eL mc q n)) U9.heap) A) 1 96 A := by
  refine Met.ofW (cc := cJx4a65c_grow_92f84) (maxL := 4) (ret := (some (.array (.object "java/lang/Object")))) (by decide) rfl ?_
  intro p e s m args below meth c s₁ B hml hv
  obtain ⟨rfl, hP, hK, hG, hA⟩ := hv
  have hx := B.exec
  have hb := B.bytes
  have hr := B.returns
  have hts := atoms_spec (ws := wsJx4a65c_grow_92f84) B.pre
  have hown : s.vm.findClass RJx4a65c = some m.cls := findClass_of_methodNamed B.named
  have hlocks := B.notSynchronized
  have hin_Jx4a65c : ∀ w ∈ wsJx4a65c0, w ∈ wsJx4a65c_grow_92f84 := fun w h => List.mem_cons_of_mem _ (List.mem_append_right _ h)
  have l_9 := (hts (.fieldLink RJx4a65c 9 "java/util/ArrayList" "elementData" "[Ljava/lang/Object;") (List.mem_of_getElem? (i := 1) rfl))
  have hS : va_S A s.heap s.heap [] := va_S.rf
  have hD0 := hD
  have hl := lv_entry ([.ref a, .int (nI (n + 1))]) (n := 4) (Nat.le_of_ble_eq_true rfl)
  rw [lg_entry_eq]
  generalize (lg_sl ([.ref a, .int (nI (n + 1))]) ++ List.replicate (4 - (lg_sl ([.ref a, .int (nI (n + 1))])).length) Slot.unset).toArray = ls at hl ⊢
  have hl : lv_has ls 4 [(0, .ref a), (1, .int (nI (n + 1)))] := hl
  rcases hc with hc | hc
  · obtain ⟨rfl, rfl⟩ := hc
    refine lv_aload_n hx hb dJx4a65c_grow_92f84_0 rfl (lv_at hl 0 rfl) ?_
    refine c_get (C := RJx4a65c) (T := TJx4a65c) (N := 3) hx hb hts hin_Jx4a65c hown hK hP h1 rfl 1 (by decide) l_9 (fun _ h9 => h9) rfl dJx4a65c_grow_92f84_1 ?_
    refine va_tlen hx hb hG.2.2.2.1 hS (v := nI 0) rfl dJx4a65c_grow_92f84_4 ?_
    refine lv_istore_n (lv' := [(2, .int (nI 0)), (0, .ref a), (1, .int (nI (0 + 1)))]) hx hb dJx4a65c_grow_92f84_5 rfl hl (by decide) rfl (fun ls hl => ?_)
    refine lv_iload_n hx hb dJx4a65c_grow_92f84_6 rfl (lv_at hl 0 rfl) ?_
    refine n_if_gt (tgt := 20) hx hb dJx4a65c_grow_92f84_7 (by decide) (by decide) (fun c9 => absurd c9 (by decide)) (fun _ => ?_)
    refine lv_aload_n hx hb dJx4a65c_grow_92f84_10 rfl (lv_at hl 1 rfl) ?_
    refine c_get (C := RJx4a65c) (T := TJx4a65c) (N := 3) hx hb hts hin_Jx4a65c hown hK hP h1 rfl 1 (by decide) l_9 (fun _ h9 => h9) rfl dJx4a65c_grow_92f84_11 ?_
    refine va_gets hx hb hG.2.2.1 hS hown (hts (.fieldLink RJx4a65c 39 "java/util/ArrayList" "DEFAULTCAPACITY_EMPTY_ELEMENTDATA" "[Ljava/lang/Object;") (List.mem_of_getElem? (i := 2) rfl)) (fun _ h9 => h9) dJx4a65c_grow_92f84_14 ?_
    refine lv_acmp_eq (rx := some eA) (ry := some eA) (tgt := 45) hx hb dJx4a65c_grow_92f84_17 (by decide) (fun _ => ?_) (fun c9 => absurd rfl c9)
    refine lv_aload_n hx hb dJx4a65c_grow_92f84_45 rfl (lv_at hl 1 rfl) ?_
    refine lv_bipush (v := nI 10) hx hb dJx4a65c_grow_92f84_46 (by decide) ?_
    refine lv_iload_n hx hb dJx4a65c_grow_92f84_48 rfl (lv_at hl 2 rfl) ?_
    refine va_mmax hx hb (hml.trans hl.1.symm) hown (hts (.methodLink RJx4a65c 79 Lib.Math.max.name) (List.mem_of_getElem? (i := 3) rfl)) (hts (.static Lib.Math.max.name) (List.mem_of_getElem? (i := 4) rfl)) (hts (.initialized "java/lang/Math") (List.mem_of_getElem? (i := 5) rfl)) (hts (.code Lib.Math.max.name Lib.Math.max.code 2 (some .int)) (List.mem_of_getElem? (i := 6) rfl)) (Nat.le_of_ble_eq_true rfl) (Nat.le_of_ble_eq_true rfl) (by show _ ≤ 1; omega) (by show _ ≤ 96; omega) dJx4a65c_grow_92f84_49 ?_
    rw [if_neg (show ¬ nI 10 < nI (0 + 1) by decide)]
    refine c_newq hx hb hown (hts (.classLink RJx4a65c 7 "java/lang/Object") (List.mem_of_getElem? (i := 7) rfl)) hG.2.2.2.2.1 hK (t0 := 1) rfl hP hD hS hA (by omega) (Nat.le_of_ble_eq_true rfl) (by show 0 + 10 ≤ 96; omega) dJx4a65c_grow_92f84_52 (fun q H hP hD hS => ?_)
    have h1 := mem_appD hD h1
    refine lv_dup_x1 hx hb dJx4a65c_grow_92f84_55 rfl rfl ?_
    have hm_1 := wup_eq (x := .inr (1, [.int mc, .ref q, .int (nI 0)])) h1
    refine c_put (C := RJx4a65c) (T := TJx4a65c) (N := 3) (v := .ref q) (ty := (.array (.object "java/lang/Object"))) (fs2 := [.int mc, .ref q, .int (nI 0)]) hx hb hts hin_Jx4a65c tyJx4a65c tyJx4a65c_ok nmJx4a65c hown hK hP hD hS h1 rfl 1 (by decide) l_9 (fun _ h9 => h9) rfl (by decide +kernel) rfl rfl (Nat.le_of_ble_eq_true rfl) rfl dJx4a65c_grow_92f84_56 (fun H locs hP hD hS => ?_)
    refine W.widen (k := 1) (n := 96) (by omega) (by omega) ?_
    exact W.aret hx hb hr (Or.inr ⟨_, rfl⟩) (Or.inr ⟨_, rfl⟩) (fun U9 ht hW => ⟨⟨(10, fun _ => none), _, rfl, ⟨by show 0 < 10; omega, by show 10 ≤ 10; omega, by show 10 ≤ 96; omega, fun i h9 => absurd h9 (Nat.not_lt_zero _)⟩, ⟨hD, by rw [ht]; exact hP⟩⟩, hS.F ht⟩) hS.2.2 dJx4a65c_grow_92f84_59
  · obtain ⟨hn10, hn, ha, hel⟩ := hc
    refine lv_aload_n hx hb dJx4a65c_grow_92f84_0 rfl (lv_at hl 0 rfl) ?_
    refine c_get (C := RJx4a65c) (T := TJx4a65c) (N := 3) hx hb hts hin_Jx4a65c hown hK hP h1 rfl 1 (by decide) l_9 (fun _ h9 => h9) rfl dJx4a65c_grow_92f84_1 ?_
    refine c_alen hx hb hK hP 1 ha rfl rfl dJx4a65c_grow_92f84_4 ?_
    refine lv_istore_n (lv' := [(2, .int (nI n)), (0, .ref a), (1, .int (nI (n + 1)))]) hx hb dJx4a65c_grow_92f84_5 rfl hl (by decide) rfl (fun ls hl => ?_)
    refine lv_iload_n hx hb dJx4a65c_grow_92f84_6 rfl (lv_at hl 0 rfl) ?_
    refine n_if_gt (tgt := 20) hx hb dJx4a65c_grow_92f84_7 (by decide) (by have f1 := hn; omega) (fun c_2 => ?_) (fun c_2 => by omega)
    refine lv_iload_n hx hb dJx4a65c_grow_92f84_20 rfl (lv_at hl 0 rfl) ?_
    refine lv_iload_n hx hb dJx4a65c_grow_92f84_21 rfl (lv_at hl 2 rfl) ?_
    refine lv_iload_n hx hb dJx4a65c_grow_92f84_22 rfl (lv_at hl 0 rfl) ?_
    refine n_isub hx hb dJx4a65c_grow_92f84_23 (z := 1) (by omega) (by omega) ?_
    refine lv_iload_n hx hb dJx4a65c_grow_92f84_24 rfl (lv_at hl 0 rfl) ?_
    refine lv_iconst (v := nI 1) hx hb dJx4a65c_grow_92f84_25 (by decide) ?_
    refine lv_ishr hx hb dJx4a65c_grow_92f84_26 ?_
    rw [show (nI n) >>> ((nI 1) &&& 31) = nI (n / 2) from shr1 (by omega)]
    refine vp_callSi (W.runS (As := [.int (nI n), .int (nI 1), .int (nI (n / 2))]) (rest := []) ⟨hx, hb, hml, hown, hts⟩ ((cl_newLength l n hn10 (by omega))) (va_cwS 3 hts gJx4a65c_grow_92f84_J8_newLength_cabcc rfl rfl rfl kd_J8_newLength_cabcc ⟨Nat.le_of_ble_eq_true rfl, Nat.le_of_ble_eq_true rfl⟩) ⟨fun _ _ _ _ q => q, fun U hU hW => ⟨rfl, trivial⟩⟩ rfl rfl hl.1 rfl (lv_room (Nat.le_of_ble_eq_true rfl)) dJx4a65c_grow_92f84_27 ⟨Nat.le_of_ble_eq_true rfl, Nat.le_of_ble_eq_true rfl⟩) (fun r_3 hr_3 => ?_)
    subst hr_3
    refine lv_istore_n (lv' := [(3, .int (nI (n + n / 2))), (2, .int (nI n)), (0, .ref a), (1, .int (nI (n + 1)))]) hx hb dJx4a65c_grow_92f84_30 rfl hl (by decide) rfl (fun ls hl => ?_)
    refine lv_aload_n hx hb dJx4a65c_grow_92f84_31 rfl (lv_at hl 2 rfl) ?_
    refine lv_aload_n hx hb dJx4a65c_grow_92f84_32 rfl (lv_at hl 2 rfl) ?_
    refine c_get (C := RJx4a65c) (T := TJx4a65c) (N := 3) hx hb hts hin_Jx4a65c hown hK hP h1 rfl 1 (by decide) l_9 (fun _ h9 => h9) rfl dJx4a65c_grow_92f84_33 ?_
    refine lv_iload_n hx hb dJx4a65c_grow_92f84_36 rfl (lv_at hl 0 rfl) ?_
    refine va_callr (va_runS (As := [.ref r, .int (nI (n + n / 2))]) (rest := [.ref a]) ⟨hx, hb, hml, hown, hts⟩ (cl_copy2 l D cI cO cb eA mi st ws hD r n (n + n / 2) f ha hel (by omega) (by omega)) (va_cwS 2 hts gJx4a65c_grow_92f84_J7_copyOf_1904c rfl rfl rfl kd_J7_copyOf_1904c ⟨Nat.le_of_ble_eq_true rfl, Nat.le_of_ble_eq_true rfl⟩) ⟨cB_blind, cB_pre hK hG hA hS hP _⟩ rfl rfl hl.1 rfl (lv_room (Nat.le_of_ble_eq_true rfl)) dJx4a65c_grow_92f84_37 ⟨Nat.le_of_ble_eq_true rfl, Nat.le_of_ble_eq_true rfl⟩) hS (fun _ _ h => h) (fun _ h => h) (fun u ra U8 H1 locs1 ht hvm hu hB hz1 hk1 hS1 => ?_)
    obtain ⟨hD1, hB⟩ := hB
    rw [ht] at hB
    clear hS
    have hS := hS1
    replace hP := hB
    replace hD := hD1
    generalize H1 = H at hP hS ⊢
    have h1 := mem_appD hD h1
    refine lv_dup_x1 hx hb dJx4a65c_grow_92f84_40 rfl rfl ?_
    have hm_4 := wup_eq (x := .inr (1, [.int mc, .ref ra, .int (nI n)])) h1
    refine c_put (C := RJx4a65c) (T := TJx4a65c) (N := 3) (v := .ref ra) (ty := (.array (.object "java/lang/Object"))) (fs2 := [.int mc, .ref ra, .int (nI n)]) hx hb hts hin_Jx4a65c tyJx4a65c tyJx4a65c_ok nmJx4a65c hown hK hP hD hS h1 rfl 1 (by decide) l_9 (fun _ h9 => h9) rfl (by decide +kernel) rfl rfl (Nat.le_of_ble_eq_true rfl) rfl dJx4a65c_grow_92f84_41 (fun H locs hP hD hS => ?_)
    refine W.widen (k := 1) (n := 96) (by omega) (by omega) ?_
    exact W.aret hx hb hr (Or.inr ⟨_, rfl⟩) (Or.inr ⟨_, rfl⟩) (fun U9 ht hW => ⟨⟨(n + n / 2, va_cpy f (fun _ => none) 0 0 n), _, rfl, ⟨by show n < n + n / 2; omega, by show 10 ≤ n + n / 2; omega, by show n + n / 2 ≤ 96; omega, fun i h9 => by show va_cpy f (fun _ => none) 0 0 n i = f i; exact cpy0 h9⟩, ⟨hD, by rw [ht]; exact hP⟩⟩, hS.F ht⟩) hS.2.2 dJx4a65c_grow_92f84_44
set_option maxHeartbeats 4000000 in
set_option maxRecDepth 100000 in
theorem cl_grow (l : Launch) (D : va_G) (cI cO cb : ClassId) (eA mi : Nat) (st : Nat → Nat) {A : Nat → Prop} (ws : va_W) (hD : va_D A ws) (a r n : Nat) (mc : Int32) (f : Nat → Option Nat) (h1 : (a, eL mc r n) ∈ ws) (hc : (0 = n ∧ eA = r) ∨ (10 ≤ n ∧ n ≤ 64 ∧ (r, aO cO n f) ∈ ws ∧ ∀ i y : Nat, i < n → f i = some y → Elt ws y)) : Met l yJx4a65c_grow_d5877 wsJx4a65c_grow_d5877 ({ frames := 4, cells := 1, slots := 96, locals := 127 }) (va_Pc [.ref a] (cB D cI cO cb eA mi st A ws)) (va_Qr (fun u : Nat × (Nat → Option Nat) => n < u.1 ∧ 10 ≤ u.1 ∧ u.1 ≤ 96 ∧ ∀ i, i < n → u.2 i = f i) (fun u q U9 => va_D A (wup (ws ++ [(q, aO cO u.1 u.2)]) a (eL mc q n)) ∧ va_P D vwCl (wup (ws ++ [(q, aO cO u.1 u.2)]) a (eL mc q n)) U9.heap) A) 1 96 A := by
  refine Met.ofW (cc := cJx4a65c_grow_d5877) (maxL := 1) (ret := (some (.array (.object "java/lang/Object")))) (by decide) rfl ?_
  intro p e s m args below meth c s₁ B hml hv
  obtain ⟨rfl, hP, hK, hG, hA⟩ := hv
  have hx := B.exec
  have hb := B.bytes
  have hr := B.returns
  have hts := atoms_spec (ws := wsJx4a65c_grow_d5877) B.pre
  have hown : s.vm.findClass RJx4a65c = some m.cls := findClass_of_methodNamed B.named
  have hlocks := B.notSynchronized
  have hin_Jx4a65c : ∀ w ∈ wsJx4a65c0, w ∈ wsJx4a65c_grow_d5877 := fun w h => List.mem_cons_of_mem _ (List.mem_append_right _ h)
  have l_48 := (hts (.fieldLink RJx4a65c 48 "java/util/ArrayList" "size" "I") (List.mem_of_getElem? (i := 1) rfl))
  have hS : va_S A s.heap s.heap [] := va_S.rf
  have hD0 := hD
  have hl := lv_entry ([.ref a]) (n := 1) (Nat.le_of_ble_eq_true rfl)
  rw [lg_entry_eq]
  generalize (lg_sl ([.ref a]) ++ List.replicate (1 - (lg_sl ([.ref a])).length) Slot.unset).toArray = ls at hl ⊢
  have hl : lv_has ls 1 [(0, .ref a)] := hl
  have hn64 : n ≤ 64 := by rcases hc with ⟨h, -⟩ | ⟨-, h, -⟩ <;> omega
  refine lv_aload_n hx hb dJx4a65c_grow_d5877_0 rfl (lv_at hl 0 rfl) ?_
  refine lv_aload_n hx hb dJx4a65c_grow_d5877_1 rfl (lv_at hl 0 rfl) ?_
  refine c_get (C := RJx4a65c) (T := TJx4a65c) (N := 3) hx hb hts hin_Jx4a65c hown hK hP h1 rfl 2 (by decide) l_48 (fun _ h9 => h9) rfl dJx4a65c_grow_d5877_2 ?_
  refine lv_iconst (v := nI 1) hx hb dJx4a65c_grow_d5877_5 (by decide) ?_
  refine n_iadd hx hb dJx4a65c_grow_d5877_6 (z := n + 1) rfl ?_
  refine va_callr (va_runV (As := [.int (nI (n + 1))]) (rest := []) ⟨hx, hb, hml, hown, hts⟩ (cl_grow1 l D cI cO cb eA mi st ws hD a r n mc f h1 hc) (cwV 1 hts gJx4a65c_grow_d5877_Jx4a65c_grow_92f84 rfl rfl rfl kd_Jx4a65c_grow_92f84 ⟨Nat.le_of_ble_eq_true rfl, Nat.le_of_ble_eq_true rfl⟩) ⟨cB_blind, c_recv hK hP rfl h1, cB_pre hK hG hA hS hP _⟩ rfl rfl hl.1 rfl (lv_room (Nat.le_of_ble_eq_true rfl)) dJx4a65c_grow_d5877_7 ⟨Nat.le_of_ble_eq_true rfl, Nat.le_of_ble_eq_true rfl⟩) hS (fun _ _ h => h) (fun _ h => h) (fun u ra U8 H1 locs1 ht hvm hu hB hz1 hk1 hS1 => ?_)
  obtain ⟨hD1, hB⟩ := hB
  rw [ht] at hB
  clear hS
  have hS := hS1
  replace hP := hB
  replace hD := hD1
  generalize H1 = H at hP hS ⊢
  exact W.aret hx hb hr (Or.inr ⟨_, rfl⟩) (Or.inr ⟨_, rfl⟩) (fun U9 ht hW => ⟨⟨u, _, rfl, hu, ⟨hD, by rw [ht]; exact hP⟩⟩, hS.F ht⟩) hS.2.2 dJx4a65c_grow_d5877_10
set_option maxHeartbeats 4000000 in
set_option maxRecDepth 100000 in
theorem cl_add3 (l : Launch) (D : va_G) (cI cO cb : ClassId) (eA mi : Nat) (st : Nat → Nat) {A : Nat → Prop} (ws : va_W) (hD : va_D A ws) {own : Nat → Nat} (a : Nat) (vs : List Nat) (mc : Int32) (r z : Nat) (h1 : (a, eL mc r vs.length) ∈ ws) (h2 : (vs = [] ∧ r = eA) ∨ (own r = a ∧ ∃ (n : Nat) (f : Nat → Option Nat), (r, aO cO n f) ∈ ws ∧ vs.length ≤ n ∧ 10 ≤ n ∧ n ≤ 100 ∧ ∀ i (h : i < vs.length), f i = some vs[i])) (hel : ∀ y ∈ vs, Elt ws y) (hz : Elt ws z) (hv : vs.length ≤ 64) : Met l yJx4a65c_add_72be8 wsJx4a65c_add_72be8 ({ frames := 5, cells := 1, slots := 96, locals := 147 }) (va_Pc [.ref a, .ref z, .ref r, .int (nI vs.length)] (cB D cI cO cb eA mi st A ws)) (va_Qv (fun u : va_W × (Nat → Nat) => Lst cO eA u.2 u.1 a (vs ++ [z]) ∧ Keeps cO eA own ws u.2 u.1 a ∧ va_D A u.1) (fun u U9 => va_P D vwCl u.1 U9.heap) A) 1 96 A := by
  refine Met.ofW (cc := cJx4a65c_add_72be8) (maxL := 4) (ret := none) (by decide) rfl ?_
  intro p e s m args below meth c s₁ B hml hv
  obtain ⟨rfl, hP, hK, hG, hA⟩ := hv
  have hx := B.exec
  have hb := B.bytes
  have hr := B.returns
  have hts := atoms_spec (ws := wsJx4a65c_add_72be8) B.pre
  have hown : s.vm.findClass RJx4a65c = some m.cls := findClass_of_methodNamed B.named
  have hlocks := B.notSynchronized
  have hin_Jx4a65c : ∀ w ∈ wsJx4a65c0, w ∈ wsJx4a65c_add_72be8 := fun w h => List.mem_cons_of_mem _ (List.mem_append_right _ h)
  have l_48 := (hts (.fieldLink RJx4a65c 48 "java/util/ArrayList" "size" "I") (List.mem_of_getElem? (i := 1) rfl))
  have hS : va_S A s.heap s.heap [] := va_S.rf
  have hD0 := hD
  have hl := lv_entry ([.ref a, .ref z, .ref r, .int (nI vs.length)]) (n := 4) (Nat.le_of_ble_eq_true rfl)
  rw [lg_entry_eq]
  generalize (lg_sl ([.ref a, .ref z, .ref r, .int (nI vs.length)]) ++ List.replicate (4 - (lg_sl ([.ref a, .ref z, .ref r, .int (nI vs.length)])).length) Slot.unset).toArray = ls at hl ⊢
  have hl : lv_has ls 4 [(0, .ref a), (1, .ref z), (2, .ref r), (3, .int (nI vs.length))] := hl
  by_cases hfull : ∃ f : Nat → Option Nat, own r = a ∧ ∃ n, (r, aO cO n f) ∈ ws ∧ vs.length < n ∧ 10 ≤ n ∧ n ≤ 100 ∧ ∀ i (h : i < vs.length), f i = some vs[i]
  · obtain ⟨f, ho, n, h3, hl9, h10, hn, hf⟩ := hfull
    refine lv_iload_n hx hb dJx4a65c_add_72be8_0 rfl (lv_at hl 3 rfl) ?_
    refine lv_aload_n hx hb dJx4a65c_add_72be8_1 rfl (lv_at hl 2 rfl) ?_
    refine c_alen hx hb hK hP 1 h3 rfl rfl dJx4a65c_add_72be8_2 ?_
    refine n_icmp_ne (tgt := 11) hx hb dJx4a65c_add_72be8_3 (by decide) (by have f1 := hv; omega) (by have f1 := hn; omega) (fun c_1 => ?_) (fun c_1 => by omega)
    refine lv_aload_n hx hb dJx4a65c_add_72be8_11 rfl (lv_at hl 2 rfl) ?_
    refine lv_iload_n hx hb dJx4a65c_add_72be8_12 rfl (lv_at hl 3 rfl) ?_
    refine lv_aload_n hx hb dJx4a65c_add_72be8_13 rfl (lv_at hl 1 rfl) ?_
    have hm := wup_eq (x := aO cO n (va_up f vs.length (some z))) h3
    have hm1 := wup_ne (x := aO cO n (va_up f vs.length (some z))) h1 (w_ne hD h1 h3 (fun q => by cases q))
    have hD1 := hD
    refine c_aast hx hb hK hP hD hS 1 h3 rfl (hz.any hK hP hG.2.2.2.2.2.2.1) (by omega) (by omega) dJx4a65c_add_72be8_14 (fun H locs hP hD hS => ?_)
    refine lv_aload_n hx hb dJx4a65c_add_72be8_15 rfl (lv_at hl 0 rfl) ?_
    refine lv_iload_n hx hb dJx4a65c_add_72be8_16 rfl (lv_at hl 3 rfl) ?_
    refine lv_iconst (v := nI 1) hx hb dJx4a65c_add_72be8_17 (by decide) ?_
    refine n_iadd hx hb dJx4a65c_add_72be8_18 (z := vs.length + 1) rfl ?_
    have hm_2 := wup_eq (x := .inr (1, [.int mc, .ref r, .int (nI (vs.length + 1))])) hm1
    have hD2 := hD
    refine c_put (C := RJx4a65c) (T := TJx4a65c) (N := 3) (v := .int (nI (vs.length + 1))) (ty := .int) (fs2 := [.int mc, .ref r, .int (nI (vs.length + 1))]) hx hb hts hin_Jx4a65c tyJx4a65c tyJx4a65c_ok nmJx4a65c hown hK hP hD hS hm1 rfl 2 (by decide) l_48 (fun _ h9 => h9) rfl (by decide +kernel) rfl rfl (Nat.le_of_ble_eq_true rfl) rfl dJx4a65c_add_72be8_19 (fun H locs hP hD hS => ?_)
    have hE := add_end (eA := eA) (own := own) (z := z) hD1 h1 ho h3 hl9 h10 hn hf hD2
    refine W.widen (k := 1) (n := 96) (by omega) (by omega) ?_
    exact W.vret hx hb hr (fun U9 ht hW => ⟨⟨(_, own), rfl, ⟨hE.1, hE.2, hD⟩, by show va_P D vwCl _ U9.heap; rw [ht]; exact hP⟩, hS.F ht⟩) hS.2.2 dJx4a65c_add_72be8_22
  · have hc : (0 = vs.length ∧ eA = r) ∨ (10 ≤ vs.length ∧ vs.length ≤ 64 ∧ ∃ f : Nat → Option Nat, (r, aO cO vs.length f) ∈ ws ∧ (∀ i y : Nat, i < vs.length → f i = some y → Elt ws y) ∧ ∀ i (h : i < vs.length), f i = some vs[i]) := by
      rcases h2 with ⟨hq1, hq2⟩ | ⟨ho, n, f, h3, h4, h10, hn, hf⟩
      · left; subst hq1; exact ⟨rfl, hq2.symm⟩
      · right; have h5 : vs.length = n := by (by_cases h6 : vs.length < n; (· exact absurd ⟨f, ho, n, h3, h6, h10, hn, hf⟩ hfull); (· omega))
        subst h5; exact ⟨h10, hv, f, h3, fun i y h8 h9 => by rw [hf i h8] at h9; cases h9; exact hel _ (List.getElem_mem h8), hf⟩
    rcases hc with hc | hc
    · obtain ⟨hc1, hc2⟩ := hc
      subst hc2
      refine lv_iload_n hx hb dJx4a65c_add_72be8_0 rfl (lv_at hl 3 rfl) ?_
      refine lv_aload_n hx hb dJx4a65c_add_72be8_1 rfl (lv_at hl 2 rfl) ?_
      refine va_tlen hx hb hG.2.2.2.1 hS (v := nI 0) rfl dJx4a65c_add_72be8_2 ?_
      refine n_icmp_ne (tgt := 11) hx hb dJx4a65c_add_72be8_3 (by decide) (by have f1 := hv; omega) (by decide) (fun c_3 => by omega) (fun c_3 => ?_)
      refine lv_aload_n hx hb dJx4a65c_add_72be8_6 rfl (lv_at hl 0 rfl) ?_
      refine va_callr (va_runV (As := []) (rest := []) ⟨hx, hb, hml, hown, hts⟩ (cl_grow l D cI cO cb eA mi st ws hD a eA vs.length mc (fun _ => none) h1 (Or.inl ⟨hc1, rfl⟩)) (cwV 0 hts gJx4a65c_add_72be8_Jx4a65c_grow_d5877 rfl rfl rfl kd_Jx4a65c_grow_d5877 ⟨Nat.le_of_ble_eq_true rfl, Nat.le_of_ble_eq_true rfl⟩) ⟨cB_blind, c_recv hK hP rfl h1, cB_pre hK hG hA hS hP _⟩ rfl rfl hl.1 rfl (lv_room (Nat.le_of_ble_eq_true rfl)) dJx4a65c_add_72be8_7 ⟨Nat.le_of_ble_eq_true rfl, Nat.le_of_ble_eq_true rfl⟩) hS (fun _ _ h => h) (fun _ h => h) (fun u ra U8 H1 locs1 ht hvm hu hB hz1 hk1 hS1 => ?_)
      obtain ⟨hD1, hB⟩ := hB
      rw [ht] at hB
      clear hS
      have hS := hS1
      replace hP := hB
      replace hD := hD1
      generalize H1 = H at hP hS ⊢
      obtain ⟨N, g⟩ := u
      obtain ⟨hu1, hu2, hu3, hu4⟩ := hu
      have hDa : va_D A (ws ++ [(ra, aO cO N g)]) := D_unwup hD
      have hm0 := mem_appD hDa h1
      have h1' := wup_eq (x := eL mc ra vs.length) hm0
      have h3' := wup_ne (x := eL mc ra vs.length) (List.mem_append_right ws (List.mem_singleton.mpr (rfl : (ra, aO cO N g) = (ra, aO cO N g)))) (fun h => w_new hDa h1 h.symm)
      have hKp : Keeps cO eA own ws (ownU own ra a) (wup (ws ++ [(ra, aO cO N g)]) a (eL mc ra vs.length)) a := (Keeps.app hDa).trans (Keeps.obj hDa hm0)
      have hzz := (hz.app (ws2 := [(ra, aO cO N g)])).up (x := eL mc ra vs.length) hDa hm0 (fun h => h rfl)
      clear h1
      have h1 := h1'
      clear h1'
      refine lv_astore_n (lv' := [(2, .ref ra), (0, .ref a), (1, .ref z), (3, .int (nI vs.length))]) hx hb dJx4a65c_add_72be8_10 rfl hl (by decide) rfl (fun ls hl => ?_)
      refine lv_aload_n hx hb dJx4a65c_add_72be8_11 rfl (lv_at hl 0 rfl) ?_
      refine lv_iload_n hx hb dJx4a65c_add_72be8_12 rfl (lv_at hl 3 rfl) ?_
      refine lv_aload_n hx hb dJx4a65c_add_72be8_13 rfl (lv_at hl 2 rfl) ?_
      have hm := wup_eq (x := aO cO N (va_up g vs.length (some z))) h3'
      have hm1 := wup_ne (x := aO cO N (va_up g vs.length (some z))) h1 (w_ne hD h1 h3' (fun q => by cases q))
      have hD1 := hD
      refine c_aast hx hb hK hP hD hS 1 h3' rfl (hzz.any hK hP hG.2.2.2.2.2.2.1) (by omega) (by omega) dJx4a65c_add_72be8_14 (fun H locs hP hD hS => ?_)
      refine lv_aload_n hx hb dJx4a65c_add_72be8_15 rfl (lv_at hl 1 rfl) ?_
      refine lv_iload_n hx hb dJx4a65c_add_72be8_16 rfl (lv_at hl 3 rfl) ?_
      refine lv_iconst (v := nI 1) hx hb dJx4a65c_add_72be8_17 (by decide) ?_
      refine n_iadd hx hb dJx4a65c_add_72be8_18 (z := vs.length + 1) rfl ?_
      have hm_4 := wup_eq (x := .inr (1, [.int mc, .ref ra, .int (nI (vs.length + 1))])) hm1
      have hD2 := hD
      refine c_put (C := RJx4a65c) (T := TJx4a65c) (N := 3) (v := .int (nI (vs.length + 1))) (ty := .int) (fs2 := [.int mc, .ref ra, .int (nI (vs.length + 1))]) hx hb hts hin_Jx4a65c tyJx4a65c tyJx4a65c_ok nmJx4a65c hown hK hP hD hS hm1 rfl 2 (by decide) l_48 (fun _ h9 => h9) rfl (by decide +kernel) rfl rfl (Nat.le_of_ble_eq_true rfl) rfl dJx4a65c_add_72be8_19 (fun H locs hP hD hS => ?_)
      have hE := add_end (eA := eA) (own := (ownU own ra a)) (z := z) hD1 h1 (if_pos rfl) h3' hu1 hu2 (by omega) (fun i h => absurd h (by omega)) hD2
      refine W.widen (k := 1) (n := 96) (by omega) (by omega) ?_
      exact W.vret hx hb hr (fun U9 ht hW => ⟨⟨(_, (ownU own ra a)), rfl, ⟨hE.1, hKp.trans hE.2, hD⟩, by show va_P D vwCl _ U9.heap; rw [ht]; exact hP⟩, hS.F ht⟩) hS.2.2 dJx4a65c_add_72be8_22
    · obtain ⟨hq10, hq64, f, h3, hfe, hf⟩ := hc
      refine lv_iload_n hx hb dJx4a65c_add_72be8_0 rfl (lv_at hl 3 rfl) ?_
      refine lv_aload_n hx hb dJx4a65c_add_72be8_1 rfl (lv_at hl 2 rfl) ?_
      refine c_alen hx hb hK hP 1 h3 rfl rfl dJx4a65c_add_72be8_2 ?_
      refine n_icmp_ne (tgt := 11) hx hb dJx4a65c_add_72be8_3 (by decide) (by have f1 := hv; omega) (by have f1 := hv; omega) (fun c_5 => by omega) (fun c_5 => ?_)
      refine lv_aload_n hx hb dJx4a65c_add_72be8_6 rfl (lv_at hl 0 rfl) ?_
      refine va_callr (va_runV (As := []) (rest := []) ⟨hx, hb, hml, hown, hts⟩ (cl_grow l D cI cO cb eA mi st ws hD a r vs.length mc f h1 (Or.inr ⟨hq10, hq64, h3, hfe⟩)) (cwV 0 hts gJx4a65c_add_72be8_Jx4a65c_grow_d5877 rfl rfl rfl kd_Jx4a65c_grow_d5877 ⟨Nat.le_of_ble_eq_true rfl, Nat.le_of_ble_eq_true rfl⟩) ⟨cB_blind, c_recv hK hP rfl h1, cB_pre hK hG hA hS hP _⟩ rfl rfl hl.1 rfl (lv_room (Nat.le_of_ble_eq_true rfl)) dJx4a65c_add_72be8_7 ⟨Nat.le_of_ble_eq_true rfl, Nat.le_of_ble_eq_true rfl⟩) hS (fun _ _ h => h) (fun _ h => h) (fun u ra U8 H1 locs1 ht hvm hu hB hz1 hk1 hS1 => ?_)
      obtain ⟨hD1, hB⟩ := hB
      rw [ht] at hB
      clear hS
      have hS := hS1
      replace hP := hB
      replace hD := hD1
      generalize H1 = H at hP hS ⊢
      obtain ⟨N, g⟩ := u
      obtain ⟨hu1, hu2, hu3, hu4⟩ := hu
      have hDa : va_D A (ws ++ [(ra, aO cO N g)]) := D_unwup hD
      have hm0 := mem_appD hDa h1
      have h1' := wup_eq (x := eL mc ra vs.length) hm0
      have h3' := wup_ne (x := eL mc ra vs.length) (List.mem_append_right ws (List.mem_singleton.mpr (rfl : (ra, aO cO N g) = (ra, aO cO N g)))) (fun h => w_new hDa h1 h.symm)
      have hKp : Keeps cO eA own ws (ownU own ra a) (wup (ws ++ [(ra, aO cO N g)]) a (eL mc ra vs.length)) a := (Keeps.app hDa).trans (Keeps.obj hDa hm0)
      have hzz := (hz.app (ws2 := [(ra, aO cO N g)])).up (x := eL mc ra vs.length) hDa hm0 (fun h => h rfl)
      clear h1
      have h1 := h1'
      clear h1'
      refine lv_astore_n (lv' := [(2, .ref ra), (0, .ref a), (1, .ref z), (3, .int (nI vs.length))]) hx hb dJx4a65c_add_72be8_10 rfl hl (by decide) rfl (fun ls hl => ?_)
      refine lv_aload_n hx hb dJx4a65c_add_72be8_11 rfl (lv_at hl 0 rfl) ?_
      refine lv_iload_n hx hb dJx4a65c_add_72be8_12 rfl (lv_at hl 3 rfl) ?_
      refine lv_aload_n hx hb dJx4a65c_add_72be8_13 rfl (lv_at hl 2 rfl) ?_
      have hm := wup_eq (x := aO cO N (va_up g vs.length (some z))) h3'
      have hm1 := wup_ne (x := aO cO N (va_up g vs.length (some z))) h1 (w_ne hD h1 h3' (fun q => by cases q))
      have hD1 := hD
      refine c_aast hx hb hK hP hD hS 1 h3' rfl (hzz.any hK hP hG.2.2.2.2.2.2.1) (by omega) (by omega) dJx4a65c_add_72be8_14 (fun H locs hP hD hS => ?_)
      refine lv_aload_n hx hb dJx4a65c_add_72be8_15 rfl (lv_at hl 1 rfl) ?_
      refine lv_iload_n hx hb dJx4a65c_add_72be8_16 rfl (lv_at hl 3 rfl) ?_
      refine lv_iconst (v := nI 1) hx hb dJx4a65c_add_72be8_17 (by decide) ?_
      refine n_iadd hx hb dJx4a65c_add_72be8_18 (z := vs.length + 1) rfl ?_
      have hm_6 := wup_eq (x := .inr (1, [.int mc, .ref ra, .int (nI (vs.length + 1))])) hm1
      have hD2 := hD
      refine c_put (C := RJx4a65c) (T := TJx4a65c) (N := 3) (v := .int (nI (vs.length + 1))) (ty := .int) (fs2 := [.int mc, .ref ra, .int (nI (vs.length + 1))]) hx hb hts hin_Jx4a65c tyJx4a65c tyJx4a65c_ok nmJx4a65c hown hK hP hD hS hm1 rfl 2 (by decide) l_48 (fun _ h9 => h9) rfl (by decide +kernel) rfl rfl (Nat.le_of_ble_eq_true rfl) rfl dJx4a65c_add_72be8_19 (fun H locs hP hD hS => ?_)
      have hE := add_end (eA := eA) (own := (ownU own ra a)) (z := z) hD1 h1 (if_pos rfl) h3' hu1 hu2 (by omega) (fun i h => (hu4 i h).trans (hf i h)) hD2
      refine W.widen (k := 1) (n := 96) (by omega) (by omega) ?_
      exact W.vret hx hb hr (fun U9 ht hW => ⟨⟨(_, (ownU own ra a)), rfl, ⟨hE.1, hKp.trans hE.2, hD⟩, by show va_P D vwCl _ U9.heap; rw [ht]; exact hP⟩, hS.F ht⟩) hS.2.2 dJx4a65c_add_72be8_22
