/-! the class's world: any list of cells apart; a cell of it by membership -/
theorem w_fun {A : Nat → Prop} {ws : va_W} (hD : va_D A ws) {a : Nat} {x y : va_E} (h1 : (a, x) ∈ ws) (h2 : (a, y) ∈ ws) : x = y := by
  obtain ⟨i, hi⟩ := List.getElem?_of_mem h1
  obtain ⟨j, hj⟩ := List.getElem?_of_mem h2
  have := hD.1 i j _ _ hi hj rfl
  subst this
  rw [hi] at hj
  exact (Prod.mk.inj (Option.some.inj hj)).2
theorem w_ne {A : Nat → Prop} {ws : va_W} (hD : va_D A ws) {a b : Nat} {x y : va_E} (h1 : (a, x) ∈ ws) (h2 : (b, y) ∈ ws) (h : x ≠ y) : a ≠ b := by
  intro q
  subst q
  exact h (w_fun hD h1 h2)
theorem w_at {A : Nat → Prop} {D : va_G} {ws : va_W} {H : Heap} (hP : va_P D vwCl ws H) {q : Nat × va_E} (h : q ∈ ws) : va_at D vwCl q H := by
  obtain ⟨i, hi⟩ := List.getElem?_of_mem h
  exact hP i q hi
/-- the cell at a becomes x -/
def wup (ws : va_W) (a : Nat) (x : va_E) : va_W := ws.map (fun q => if q.1 = a then (a, x) else q)
theorem wup_eq {ws : va_W} {a : Nat} {x y : va_E} (h : (a, y) ∈ ws) : (a, x) ∈ wup ws a x := List.mem_map.mpr ⟨(a, y), h, if_pos rfl⟩
theorem wup_ne {ws : va_W} {a b : Nat} {x y : va_E} (h : (b, y) ∈ ws) (hb : b ≠ a) : (b, y) ∈ wup ws a x := List.mem_map.mpr ⟨(b, y), h, if_neg hb⟩
theorem wup_set {A : Nat → Prop} {ws : va_W} (hD : va_D A ws) {a k : Nat} {x y : va_E} (hk : ws[k]? = some (a, y)) : ws.set k (a, x) = wup ws a x := by
  apply List.ext_getElem?
  intro i
  unfold wup
  rw [List.getElem?_map]
  by_cases h : i = k
  · subst h
    have hl := (List.getElem?_eq_some_iff.mp hk).1
    rw [List.getElem?_set_self hl, hk]
    simp
  · rw [List.getElem?_set_ne (Ne.symm h)]
    cases hi : ws[i]? with
    | none => rfl
    | some q =>
      have : q.1 ≠ a := fun z => h (hD.1 i k q (a, y) hi hk z)
      simp [this]
/-- a plain cell: an object that is no list, or an array of numbers -/
def plainE (x : va_E) : Prop := match x with
  | .inr (ci, _) => ci ≠ 1
  | .inl (_, _, .inl _) => True
  | _ => False
/-- a list: its object, its array; own says whose array an array is -/
def Lst (cO : ClassId) (eA : Nat) (own : Nat → Nat) (ws : va_W) (a : Nat) (vs : List Nat) : Prop :=
  ∃ (mc : Int32) (r : Nat), (a, .inr (1, [.int mc, .ref r, .int (nI vs.length)])) ∈ ws ∧ ((vs = [] ∧ r = eA) ∨ (own r = a ∧ ∃ (n : Nat) (f : Nat → Option Nat), (r, .inl (cO, n, .inr (.inr (.inr (.inr f))))) ∈ ws ∧ vs.length ≤ n ∧ 10 ≤ n ∧ n ≤ 100 ∧ ∀ i (h : i < vs.length), f i = some vs[i]))
/-- what a list's change leaves: every plain cell, every other list -/
def Keeps (cO : ClassId) (eA : Nat) (own : Nat → Nat) (ws : va_W) (own' : Nat → Nat) (ws' : va_W) (a : Nat) : Prop :=
  (∀ b x, plainE x → (b, x) ∈ ws → (b, x) ∈ ws') ∧ (∀ b vs, b ≠ a → Lst cO eA own ws b vs → Lst cO eA own' ws' b vs)
theorem Lst_up {cO : ClassId} {eA : Nat} {own : Nat → Nat} {A : Nat → Prop} {ws : va_W} (hD : va_D A ws) {a b : Nat} {x y : va_E} {vs : List Nat} (h : Lst cO eA own ws b vs) (ha : (a, y) ∈ ws) (hy : plainE y) : Lst cO eA own (wup ws a x) b vs := by
  obtain ⟨mc, r, h1, h2⟩ := h
  refine ⟨mc, r, wup_ne h1 (w_ne hD h1 ha (fun q => by rw [← q] at hy; exact hy rfl)), ?_⟩
  rcases h2 with h2 | ⟨h2, n, f, h3, h4⟩
  · exact Or.inl h2
  · exact Or.inr ⟨h2, n, f, wup_ne h3 (w_ne hD h3 ha (fun q => by rw [← q] at hy; exact hy)), h4⟩
theorem Lst_app {cO : ClassId} {eA : Nat} {own : Nat → Nat} {ws ws2 : va_W} {b : Nat} {vs : List Nat} (h : Lst cO eA own ws b vs) : Lst cO eA own (ws ++ ws2) b vs := by
  obtain ⟨mc, r, h1, h2⟩ := h
  refine ⟨mc, r, List.mem_append_left _ h1, ?_⟩
  rcases h2 with h2 | ⟨h2, n, f, h3, h4⟩
  · exact Or.inl h2
  · exact Or.inr ⟨h2, n, f, List.mem_append_left _ h3, h4⟩
/-- the arrays' classes -/
abbrev cty (cI cO cB : ClassId) : List (ClassId × FieldType) := [(cI, .int), (cO, .object "java/lang/Object"), (cB, .byte)]
section CR
variable {p : Program} {l : Launch} {e : Env} {R : Room} {s : State} {m : MethodId} {args : Array Value} {below : List Frame} {meth : Method} {c : Code} {H H0 : Heap} {locs : List Loc} {cells slots : Nat} {Q : State → Prop}
variable {cc : ByteArray} {pc : Nat} {ls : Array Slot} {rest : List Value} {D : va_G} {A : Nat → Prop} {tys : List (ClassId × FieldType)} {ws : va_W} {a : Nat} {Ts : List Cond}
theorem c_get (hx : p.tables.exec = Jvm.exec) (hb : c.code = cc) {own ref C : String} {T : u_T} {N ci index : Nat} (hts : ∀ w ∈ Ts, w.before args s = true) (hin : ∀ w ∈ u_ws C T N, w ∈ Ts) (hown : s.vm.findClass own = some m.cls) (hK : va_K D vwCl tys s) (hP : va_P D vwCl ws H) {fs : List Value} (he : (a, .inr (ci, fs)) ∈ ws) (hc : vwCl[ci]? = some (C, T, N)) (k : Nat) (hk : k < N) (hlink : (Cond.fieldLink own index ref (T k).2.1 (T k).2.2.1).before args s = true) (hsame : ∀ x, s.fieldFound? (T k).1 (T k).2.1 (T k).2.2.1 = some x → s.fieldFound? ref (T k).2.1 (T k).2.2.1 = some x) {v : Value} (hv : fs[k]? = some v) (hdg : decode cc pc = .ok (.getfield index, 3))
    (kk : W p l e R s m args below meth c H locs cells slots Q (F0 m (pc + 3) ls (v :: rest))) : W p l e R s m args below meth c H locs cells slots Q (F0 m pc ls (.ref a :: rest)) := by
  obtain ⟨q0, hq⟩ := List.getElem?_of_mem he
  exact va_get hx hb hts hin hown hK hP q0 hq hc k hk hlink hsame hv hdg kk
theorem c_put (hx : p.tables.exec = Jvm.exec) (hb : c.code = cc) {own ref C : String} {T : u_T} {N ci index : Nat} (hts : ∀ w ∈ Ts, w.before args s = true) (hin : ∀ w ∈ u_ws C T N, w ∈ Ts) (ty0 : Nat → FieldType) (hty : ∀ k, k < N → parseFieldDescriptor (T k).2.2.1 = some (ty0 k)) (hnm : ∀ a, a < N → ∀ b, b < N → a ≠ b → (T a).2.1 ≠ (T b).2.1) (hown : s.vm.findClass own = some m.cls) (hK : va_K D vwCl tys s) (hP : va_P D vwCl ws H) (hD : va_D A ws) (hS : va_S A H0 H locs) {fs : List Value} (he : (a, .inr (ci, fs)) ∈ ws) (hc : vwCl[ci]? = some (C, T, N)) (k : Nat) (hk : k < N) (hlink : (Cond.fieldLink own index ref (T k).2.1 (T k).2.2.1).before args s = true) (hsame : ∀ x, s.fieldFound? (T k).1 (T k).2.1 (T k).2.2.1 = some x → s.fieldFound? ref (T k).2.1 (T k).2.2.1 = some x) (hfin : (T k).2.2.2 = false) {ty : FieldType} {v : Value} (hd : parseFieldDescriptor (T k).2.2.1 = some ty) (hn : narrow ty v = v) (hfit : fits ty v = true) (hl : k < fs.length) {fs2 : List Value} (hf2 : fs.set k v = fs2)
    (hdg : decode cc pc = .ok (.putfield index, 3)) (kk : ∀ (H1 : Heap) (locs1 : List Loc), va_P D vwCl (wup ws a (.inr (ci, fs2))) H1 → va_D A (wup ws a (.inr (ci, fs2))) → va_S A H0 H1 locs1 → W p l e R s m args below meth c H1 locs1 cells slots Q (F0 m (pc + 3) ls rest)) : W p l e R s m args below meth c H locs cells slots Q (F0 m pc ls (v :: .ref a :: rest)) := by
  obtain ⟨q0, hq⟩ := List.getElem?_of_mem he
  subst hf2
  exact va_put hx hb hts hin ty0 hty hnm hown hK hP hD hS q0 hq hc k hk hlink hsame hfin hd hn hfit hl hdg (fun H1 locs1 h1 h2 h3 => kk H1 locs1 (wup_set hD hq ▸ h1) (wup_set hD hq ▸ h2) h3)
theorem c_putF (hx : p.tables.exec = Jvm.exec) (hb : c.code = cc) {own ref C : String} {T : u_T} {N ci index : Nat} (hts : ∀ w ∈ Ts, w.before args s = true) (hin : ∀ w ∈ u_ws C T N, w ∈ Ts) (ty0 : Nat → FieldType) (hty : ∀ k, k < N → parseFieldDescriptor (T k).2.2.1 = some (ty0 k)) (hnm : ∀ a, a < N → ∀ b, b < N → a ≠ b → (T a).2.1 ≠ (T b).2.1) (hown : s.vm.findClass own = some m.cls) (hK : va_K D vwCl tys s) (hP : va_P D vwCl ws H) (hD : va_D A ws) (hS : va_S A H0 H locs) {fs : List Value} (he : (a, .inr (ci, fs)) ∈ ws) (hc : vwCl[ci]? = some (C, T, N)) (k : Nat) (hk : k < N) (hlink : (Cond.fieldLink own index ref (T k).2.1 (T k).2.2.1).before args s = true) (hsame : ∀ x, s.fieldFound? (T k).1 (T k).2.1 (T k).2.2.1 = some x → s.fieldFound? ref (T k).2.1 (T k).2.2.1 = some x) (hfin : (T k).2.2.2 = true) (hin2 : meth.name = "<init>") (hdecl : (T k).1 = own) {ty : FieldType} {v : Value} (hd : parseFieldDescriptor (T k).2.2.1 = some ty) (hn : narrow ty v = v) (hfit : fits ty v = true) (hl : k < fs.length) {fs2 : List Value} (hf2 : fs.set k v = fs2)
    (hdg : decode cc pc = .ok (.putfield index, 3)) (kk : ∀ (H1 : Heap) (locs1 : List Loc), va_P D vwCl (wup ws a (.inr (ci, fs2))) H1 → va_D A (wup ws a (.inr (ci, fs2))) → va_S A H0 H1 locs1 → W p l e R s m args below meth c H1 locs1 cells slots Q (F0 m (pc + 3) ls rest)) : W p l e R s m args below meth c H locs cells slots Q (F0 m pc ls (v :: .ref a :: rest)) := by
  obtain ⟨q0, hq⟩ := List.getElem?_of_mem he
  subst hf2
  exact va_putF hx hb hts hin ty0 hty hnm hown hK hP hD hS q0 hq hc k hk hlink hsame hfin hin2 hdecl hd hn hfit hl hdg (fun H1 locs1 h1 h2 h3 => kk H1 locs1 (wup_set hD hq ▸ h1) (wup_set hD hq ▸ h2) h3)
theorem c_iald (hx : p.tables.exec = Jvm.exec) (hb : c.code = cc) (hK : va_K D vwCl tys s) (hP : va_P D vwCl ws H) (t0 : Nat) {cA : ClassId} {n i : Nat} {f : Nat → Int32} (he : (a, .inl (cA, n, .inl f)) ∈ ws) (ht : tys[t0]? = some (cA, .int)) (hi : i < n) (hn : n < 2 ^ 31) (hdg : decode cc pc = .ok (.iaload, 1))
    (kk : W p l e R s m args below meth c H locs cells slots Q (F0 m (pc + 1) ls (.int (f i) :: rest))) : W p l e R s m args below meth c H locs cells slots Q (F0 m pc ls (.int (nI i) :: .ref a :: rest)) := by
  obtain ⟨q0, hq⟩ := List.getElem?_of_mem he
  exact va_iald hx hb hK hP q0 t0 hq ht (vp_in_nI hi hn) hdg (by rw [nI_clamp (by omega)]; exact kk)
theorem c_iast (hx : p.tables.exec = Jvm.exec) (hb : c.code = cc) (hK : va_K D vwCl tys s) (hP : va_P D vwCl ws H) (hD : va_D A ws) (hS : va_S A H0 H locs) (t0 : Nat) {cA : ClassId} {n i : Nat} {f : Nat → Int32} {x : Int32} (he : (a, .inl (cA, n, .inl f)) ∈ ws) (ht : tys[t0]? = some (cA, .int)) (hi : i < n) (hn : n < 2 ^ 31) (hdg : decode cc pc = .ok (.iastore, 1))
    (kk : ∀ (H1 : Heap) (locs1 : List Loc), va_P D vwCl (wup ws a (.inl (cA, n, .inl (upd f i x)))) H1 → va_D A (wup ws a (.inl (cA, n, .inl (upd f i x)))) → va_S A H0 H1 locs1 → W p l e R s m args below meth c H1 locs1 cells slots Q (F0 m (pc + 1) ls rest)) : W p l e R s m args below meth c H locs cells slots Q (F0 m pc ls (.int x :: .int (nI i) :: .ref a :: rest)) := by
  obtain ⟨q0, hq⟩ := List.getElem?_of_mem he
  refine va_iast hx hb hK hP hD hS q0 t0 hq ht (vp_in_nI hi hn) hdg (fun H1 locs1 h1 h2 h3 => ?_)
  rw [nI_clamp (by omega), wup_set hD hq] at h1 h2
  exact kk H1 locs1 h1 h2 h3
theorem c_alen (hx : p.tables.exec = Jvm.exec) (hb : c.code = cc) (hK : va_K D vwCl tys s) (hP : va_P D vwCl ws H) (t0 : Nat) {cA : ClassId} {ty : FieldType} {n : Nat} {y : vp_A} (he : (a, .inl (cA, y)) ∈ ws) (hy : y.1 = n) (ht : tys[t0]? = some (cA, ty)) (hdg : decode cc pc = .ok (.arraylength, 1))
    (kk : W p l e R s m args below meth c H locs cells slots Q (F0 m (pc + 1) ls (.int (nI n) :: rest))) : W p l e R s m args below meth c H locs cells slots Q (F0 m pc ls (.ref a :: rest)) := by
  obtain ⟨q0, hq⟩ := List.getElem?_of_mem he
  exact va_alen hx hb hK hP q0 t0 hq ht (v := nI n) (by rw [hy]; rfl) hdg kk
theorem c_aald (hx : p.tables.exec = Jvm.exec) (hb : c.code = cc) (hK : va_K D vwCl tys s) (hP : va_P D vwCl ws H) (t0 : Nat) {cA : ClassId} {C : String} {n i : Nat} {f : Nat → Option Nat} {v : Nat} (he : (a, .inl (cA, n, .inr (.inr (.inr (.inr f))))) ∈ ws) (ht : tys[t0]? = some (cA, .object C)) (hi : i < n) (hn : n < 2 ^ 31) (hv : f i = some v) (hdg : decode cc pc = .ok (.aaload, 1))
    (kk : W p l e R s m args below meth c H locs cells slots Q (F0 m (pc + 1) ls (.ref v :: rest))) : W p l e R s m args below meth c H locs cells slots Q (F0 m pc ls (.int (nI i) :: .ref a :: rest)) := by
  obtain ⟨q0, hq⟩ := List.getElem?_of_mem he
  exact va_aldq hx hb hK hP q0 t0 hq ht (vp_in_nI hi hn) hdg (by rw [nI_clamp (by omega), hv]; exact kk)
theorem c_aast (hx : p.tables.exec = Jvm.exec) (hb : c.code = cc) (hK : va_K D vwCl tys s) (hP : va_P D vwCl ws H) (hD : va_D A ws) (hS : va_S A H0 H locs) (t0 : Nat) {cA : ClassId} {E : String} {n i v : Nat} {f : Nat → Option Nat} (he : (a, .inl (cA, n, .inr (.inr (.inr (.inr f))))) ∈ ws) (ht : tys[t0]? = some (cA, .object E)) (hr : va_Any E s H v) (hi : i < n) (hn : n < 2 ^ 31) (hdg : decode cc pc = .ok (.aastore, 1))
    (kk : ∀ (H1 : Heap) (locs1 : List Loc), va_P D vwCl (wup ws a (.inl (cA, n, .inr (.inr (.inr (.inr (va_up f i (some v)))))))) H1 → va_D A (wup ws a (.inl (cA, n, .inr (.inr (.inr (.inr (va_up f i (some v)))))))) → va_S A H0 H1 locs1 → W p l e R s m args below meth c H1 locs1 cells slots Q (F0 m (pc + 1) ls rest)) : W p l e R s m args below meth c H locs cells slots Q (F0 m pc ls (.ref v :: .int (nI i) :: .ref a :: rest)) := by
  obtain ⟨q0, hq⟩ := List.getElem?_of_mem he
  refine va_astqM hx hb hK hP hD hS q0 t0 hq ht hr (vp_in_nI hi hn) hdg (fun H1 locs1 h1 h2 h3 => ?_)
  rw [nI_clamp (by omega), wup_set hD hq] at h1 h2
  exact kk H1 locs1 h1 h2 h3
theorem c_aastN (hx : p.tables.exec = Jvm.exec) (hb : c.code = cc) (hK : va_K D vwCl tys s) (hP : va_P D vwCl ws H) (hD : va_D A ws) (hS : va_S A H0 H locs) (t0 : Nat) {cA : ClassId} {E : String} {n i : Nat} {f : Nat → Option Nat} (he : (a, .inl (cA, n, .inr (.inr (.inr (.inr f))))) ∈ ws) (ht : tys[t0]? = some (cA, .object E)) (hi : i < n) (hn : n < 2 ^ 31) (hdg : decode cc pc = .ok (.aastore, 1))
    (kk : ∀ (H1 : Heap) (locs1 : List Loc), va_P D vwCl (wup ws a (.inl (cA, n, .inr (.inr (.inr (.inr (va_up f i none))))))) H1 → va_D A (wup ws a (.inl (cA, n, .inr (.inr (.inr (.inr (va_up f i none))))))) → va_S A H0 H1 locs1 → W p l e R s m args below meth c H1 locs1 cells slots Q (F0 m (pc + 1) ls rest)) : W p l e R s m args below meth c H locs cells slots Q (F0 m pc ls (.null :: .int (nI i) :: .ref a :: rest)) := by
  obtain ⟨q0, hq⟩ := List.getElem?_of_mem he
  refine va_astqN hx hb hK hP hD hS q0 t0 hq ht (vp_in_nI hi hn) hdg (fun H1 locs1 h1 h2 h3 => ?_)
  rw [nI_clamp (by omega), wup_set hD hq] at h1 h2
  exact kk H1 locs1 h1 h2 h3
theorem c_recv (hK : va_K D vwCl tys s) (hP : va_P D vwCl ws H) {ci : Nat} {fs : List Value} {q : vw_C} (hc : vwCl[ci]? = some q) (he : (a, .inr (ci, fs)) ∈ ws) : ∃ cell : Cell, H[a]? = some cell ∧ cell.vm.isStatics = false ∧ s.vm.findClass q.1 = some cell.cls := by
  obtain ⟨q0, hq⟩ := List.getElem?_of_mem he
  exact va_recv hK hP hc hq
end CR
/-- words that the tables say of the start -/
def gXc : List (String × String) := [("java/lang/IndexOutOfBoundsException", "java/lang/IndexOutOfBoundsException"), ("java/lang/IllegalArgumentException", "java/lang/IllegalArgumentException"), ("java/lang/IllegalStateException", "java/lang/IllegalStateException"),
  (RX0, "java/lang/Object"), (RX1, "java/lang/Object"), (RX2, "java/lang/Object"), (RX3, "java/lang/Object"), (RX4, "java/lang/Object"), (RX5, "java/lang/Object"), (RX7, "java/lang/Object")]
def gXd : List MethodName := [Bundle.init0 "java/lang/RuntimeException", Bundle.init0 "java/lang/Exception", Bundle.init0 Bundle.tN, ⟨"java/lang/Object", "getClass", "()Ljava/lang/Class;"⟩]
def gW (U : State) : Prop := (∀ q ∈ gXc, va_Nw (.castable q.1 q.2) U) ∧ ∀ y ∈ gXd, va_Nw (.declares y) U
theorem gW.moved {u U : State} (hvm : u.vm.Alike U.vm) (h : gW u) : gW U :=
  ⟨fun q hq => va_tabs rfl (rfl : (u.setVm U.vm).vm = U.vm) (by rw [Cond.castable_setVm hvm]; exact h.1 q hq), fun y hy => va_tabs rfl (rfl : (u.setVm U.vm).vm = U.vm) (by rw [Cond.declares_setVm hvm]; exact h.2 y hy)⟩
/-- what stands outside and stays: statics, tables -/
def gS (eA mi : Nat) (st : Nat → Nat) (A : Nat → Prop) (U : State) (H : Heap) : Prop :=
  vx_Zq Bundle.tN "UNASSIGNED_STACK" Bundle.steD A U H ∧ vx_Zq Bundle.tN "SUPPRESSED_SENTINEL" Bundle.listD A U H ∧ va_Z "java/util/ArrayList" "DEFAULTCAPACITY_EMPTY_ELEMENTDATA" "[Ljava/lang/Object;" (.ref eA) A U H ∧ va_T (.object "java/lang/Object") eA 0 (fun _ => .null) A U H ∧ va_AO "java/lang/Object" U ∧ va_Mi "[Ljava/lang/Object;" mi U ∧ gW U ∧
  va_Z RX6 "SEALED" "LTenderHall$Status;" (.ref (st 0)) A U H ∧ va_Z RX6 "IN" "LTenderHall$Status;" (.ref (st 1)) A U H ∧ va_Z RX6 "LACKS_PAPERS" "LTenderHall$Status;" (.ref (st 2)) A U H ∧ va_Z RX6 "OUT_FOR_GOOD" "LTenderHall$Status;" (.ref (st 3)) A U H
theorem gS.kept {eA mi : Nat} {st : Nat → Nat} {A : Nat → Prop} {U : State} {H H1 : Heap} (h : gS eA mi st A U H) (hq : ∀ a : Nat, a < H.size → ¬ A a → H1[a]? = H[a]?) : gS eA mi st A U H1 := by
  obtain ⟨h1, h2, h3, h4, h5, h6, h7, h8, h9, h10, h11⟩ := h
  exact ⟨h1.kept hq, h2.kept hq, h3.kept hq, h4.kept hq, h5, h6, h7, h8.kept hq, h9.kept hq, h10.kept hq, h11.kept hq⟩
theorem gS.moved {eA mi : Nat} {st : Nat → Nat} {A : Nat → Prop} {u U : State} {H : Heap} (hvm : u.vm.Alike U.vm) (h : gS eA mi st A u H) : gS eA mi st A U H := by
  obtain ⟨h1, h2, h3, h4, h5, h6, h7, h8, h9, h10, h11⟩ := h
  exact ⟨h1.moved hvm, h2.moved hvm, h3.moved hvm, h4.moved hvm, h5.moved hvm, h6.moved hvm, h7.moved hvm, h8.moved hvm, h9.moved hvm, h10.moved hvm, h11.moved hvm⟩
/-- the class's cells, the tables, what stands outside, where new cells may lie -/
def cB (D : va_G) (cI cO cb : ClassId) (eA mi : Nat) (st : Nat → Nat) (A : Nat → Prop) (ws : va_W) : State → Prop := fun U => va_P D vwCl ws U.heap ∧ va_K D vwCl (cty cI cO cb) U ∧ gS eA mi st A U U.heap ∧ ∀ q : Nat, U.heap.size ≤ q → A q
theorem cB_blind {D : va_G} {cI cO cb : ClassId} {eA mi : Nat} {st : Nat → Nat} {A : Nat → Prop} {ws : va_W} {av : List Value} : FrameBlind (va_Pc av (cB D cI cO cb eA mi st A ws)) := fun a U g mk q => ⟨q.1, q.2.1, va_K.moved (u := U) (U := U.calling g mk a) (Vm.Alike.refl U.vm) q.2.2.1, gS.moved (u := U) (U := U.calling g mk a) (Vm.Alike.refl U.vm) q.2.2.2.1, q.2.2.2.2⟩
theorem cB_pre {D : va_G} {cI cO cb : ClassId} {eA mi : Nat} {st : Nat → Nat} {A : Nat → Prop} {ws : va_W} {s : State} {H : Heap} {locs : List Loc} (hK : va_K D vwCl (cty cI cO cb) s) (hG : gS eA mi st A s s.heap) (hA : ∀ q : Nat, s.heap.size ≤ q → A q) (hS : va_S A s.heap H locs) (hP : va_P D vwCl ws H) (av : List Value) : ∀ U : State, U.heap = H → s.WarmedH U.vm → va_Pc av (cB D cI cO cb eA mi st A ws) av.toArray U :=
  fun U hU hW => ⟨rfl, by rw [hU]; exact hP, va_K.moved hW.alike hK, by rw [hU]; exact (hG.kept (fun q h1 h2 => hS.2.1 q h1 h2)).moved hW.alike, fun q hq => hA q (Nat.le_trans hS.1 (by rw [← hU]; exact hq))⟩
theorem c_any {D : va_G} {tys : List (ClassId × FieldType)} {ws : va_W} {s : State} {H : Heap} {a ci : Nat} {fs : List Value} {r : vw_C} (hK : va_K D vwCl tys s) (hP : va_P D vwCl ws H) (hW : gW s) (hc : vwCl[ci]? = some r) (hr : (r.1, "java/lang/Object") ∈ gXc) (he : (a, .inr (ci, fs)) ∈ ws) : va_Any "java/lang/Object" s H a := by
  obtain ⟨q0, hq⟩ := List.getElem?_of_mem he
  refine va_rAny hK hP hq hc (fun comp c0 h1 h2 => ?_)
  obtain ⟨c1, t1, f1, f2, f3⟩ := Cond.castable_spec (hW.1 _ hr)
  cases f1.symm.trans h2
  cases f2.symm.trans h1
  exact f3
def gB (X : String) : List Cond := [.declares (Bundle.init0 "java/lang/RuntimeException"), .declares (Bundle.init0 "java/lang/Exception"), .declares (Bundle.init0 Bundle.tN), .castable X X]
theorem gB1 : ∀ w ∈ (vx_at0 RX8 78 "java/lang/IndexOutOfBoundsException" ["java/lang/RuntimeException", "java/lang/Exception"]).filter (fun w => !goodWord w), w ∈ gB "java/lang/IndexOutOfBoundsException" := by decide +kernel
theorem gB2 : ∀ w ∈ (vx_at0 RX8 39 "java/lang/IllegalArgumentException" ["java/lang/RuntimeException", "java/lang/Exception"]).filter (fun w => !goodWord w), w ∈ gB "java/lang/IllegalArgumentException" := by decide +kernel
theorem gB3 : ∀ w ∈ (vx_at0 RX8 46 "java/lang/IllegalStateException" ["java/lang/RuntimeException", "java/lang/Exception"]).filter (fun w => !goodWord w), w ∈ gB "java/lang/IllegalStateException" := by decide +kernel
theorem gB_of {X : String} (hX : (X, X) ∈ gXc) {s : State} {args : Array Value} (h : gW s) : ∀ w ∈ gB X, w.before args s = true :=
  vx_c (va_Nw.use rfl (h.2 _ (by decide +kernel))) (vx_c (va_Nw.use rfl (h.2 _ (by decide +kernel))) (vx_c (va_Nw.use rfl (h.2 _ (by decide +kernel))) (vx_c (va_Nw.use rfl (h.1 _ hX)) vx_n)))
