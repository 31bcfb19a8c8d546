/-! the law's helpers: they catch -/
section
theorem met_ofWH {l : Launch} {y : MethodName} {ws ws' : List Cond} {rm : Room} {Pc : Array Value → State → Prop} {Qc : Array Value → State → Outcome → State → Prop} {mc ms : Nat} {free : Addr → Prop} {cc : ByteArray} {maxL : Nat} {ret : Option FieldType} {hh : List (Nat × Nat × Nat × Nat)}
    (hy : plainName y.cls = true) (hw : ws = Cond.codeWith y cc maxL ret hh :: ws')
    (body : ∀ p e s m args below meth c s₁, BodyLoose p l y (headSpec ws rm) cc maxL ret e s m args below meth c s₁ → c.maxLocals = maxL → c.exceptionTable.toList = tableOf hh → Pc args s →
      W p l e (headSpec ws rm).room s m args below meth c s.heap [] 0 0 (MQ below Qc args s mc ms free) (entryFrame m args maxL)) : Met l y ws rm Pc Qc mc ms free := by
  refine MetFree.of_bodyS (code := cc) (maxLocals := maxL) (ret := ret) hy ?_ ?_
  · intro args s m h hn
    obtain ⟨m9, meth, c, hn9, h1, h2, h3, h4, -, h5, h6, -⟩ := Cond.codeWith_spec (atoms_spec (ws := ws) h _ (by rw [hw]; exact List.mem_cons_self))
    cases hn.symm.trans hn9
    exact ⟨meth, c, h1, h2, h3, h4, h5, h6⟩
  · intro p e s m args below meth c s₁ B hml hP _
    have hh0 : s₁.heap = s.heap := by rw [B.state]; rfl
    have htab := vx_table (x := y) B (atoms_spec (ws := ws) B.pre _ (by rw [hw]; exact List.mem_cons_self))
    obtain ⟨t, a1, o, b1, b2, b3⟩ := body p e s m args below meth c s₁ B hml htab hP s₁ hh0 (Stand.of_body B)
    exact ⟨t, o, a1, b1, b2, b3⟩
end
/-- the cell that answers go to -/
abbrev oE (cJ : ClassId) (x : Int64) : va_E := .inl (cJ, 1, .inr (.inl (fun _ => x)))
def lNc (U : State) : Prop := va_Nc "java/lang/IllegalArgumentException" "java/lang/IndexOutOfBoundsException" U ∧ va_Nc "java/lang/IllegalStateException" "java/lang/IndexOutOfBoundsException" U ∧ va_Nc "java/lang/IllegalStateException" "java/lang/IllegalArgumentException" U
def lB (D : va_G) (cI cO cb : ClassId) (eA mi : Nat) (st : Nat → Nat) (dO dT : Nat) (vF : Value) (A : Nat → Prop) (ws : va_W) (cJ : ClassId) (oa : Nat) (x : Int64) : State → Prop := fun U => cT D cI cO cb eA mi st dO dT vF A ws U ∧ va_K D vwCl [(cJ, .long)] U ∧ va_at D vwCl (oa, oE cJ x) U.heap ∧ oa < U.heap.size ∧ lNc U
theorem va_P_app {D : va_G} {ws ws2 : va_W} {H : Heap} (h1 : va_P D vwCl ws H) (h2 : va_P D vwCl ws2 H) : va_P D vwCl (ws ++ ws2) H := by
  intro k q hk
  rcases List.mem_append.mp (List.mem_of_getElem? hk) with h | h
  · obtain ⟨i, hi⟩ := List.getElem?_of_mem h; exact h1 i q hi
  · obtain ⟨i, hi⟩ := List.getElem?_of_mem h; exact h2 i q hi
theorem va_P_one {D : va_G} {q : Nat × va_E} {H : Heap} (h : va_at D vwCl q H) : va_P D vwCl [q] H := by
  intro k q2 hk
  rw [List.mem_singleton.mp (List.mem_of_getElem? hk)]; exact h
theorem va_P_l {D : va_G} {ws ws2 : va_W} {H : Heap} (h : va_P D vwCl (ws ++ ws2) H) : va_P D vwCl ws H := fun k q hk => by
  obtain ⟨i, hi⟩ := List.getElem?_of_mem (List.mem_append_left ws2 (List.mem_of_getElem? hk))
  exact h i q hi
theorem va_P_r {D : va_G} {ws ws2 : va_W} {H : Heap} (h : va_P D vwCl (ws ++ ws2) H) : va_P D vwCl ws2 H := fun k q hk => by
  obtain ⟨i, hi⟩ := List.getElem?_of_mem (List.mem_append_right ws (List.mem_of_getElem? hk))
  exact h i q hi
theorem va_D_out {A : Nat → Prop} {ws : va_W} {oa : Nat} {x : va_E} (hD : va_D A ws) (ho : ¬ A oa) : va_D (fun q => A q ∨ q = oa) (ws ++ [(oa, x)]) := by
  have key : ∀ {k : Nat} {q : Nat × va_E}, (ws ++ [(oa, x)])[k]? = some q → (k < ws.length ∧ ws[k]? = some q) ∨ (k = ws.length ∧ q = (oa, x)) := fun {k q} hk => by
    by_cases h : k < ws.length
    · rw [List.getElem?_append_left h] at hk; exact Or.inl ⟨h, hk⟩
    · rw [List.getElem?_append_right (by omega)] at hk
      have h2 := List.mem_singleton.mp (List.mem_of_getElem? hk)
      refine Or.inr ⟨?_, h2⟩
      by_cases h3 : k - ws.length = 0
      · omega
      · rw [List.getElem?_eq_none (by show 1 ≤ _; omega)] at hk; cases hk
  refine ⟨fun i j q1 q2 h1 h2 e => ?_, fun k q hk => ?_⟩
  · rcases key h1 with ⟨a1, b1⟩ | ⟨a1, b1⟩
    · rcases key h2 with ⟨a2, b2⟩ | ⟨a2, b2⟩
      · exact hD.1 i j q1 q2 b1 b2 e
      · exfalso
        have := hD.2 i q1 b1
        rw [e, b2] at this; exact ho this
    · rcases key h2 with ⟨a2, b2⟩ | ⟨a2, b2⟩
      · exfalso
        have := hD.2 j q2 b2
        rw [← e, b1] at this; exact ho this
      · omega
  · rcases key hk with ⟨-, b1⟩ | ⟨-, b1⟩
    · exact Or.inl (hD.2 k q b1)
    · rw [b1]; exact Or.inr rfl
theorem set_out {ws : va_W} {o o2 : Nat × va_E} : (ws ++ [o]).set ws.length o2 = ws ++ [o2] := by
  rw [List.set_append_right _ _ (Nat.le_refl _), Nat.sub_self]; rfl
theorem va_at_keep {D : va_G} {oa : Nat} {cJ : ClassId} {x : Int64} {H H1 : Heap} (h : va_at D vwCl (oa, oE cJ x) H) (e : H1[oa]? = H[oa]?) : va_at D vwCl (oa, oE cJ x) H1 := by
  show H1[oa]? = _
  rw [e]; exact h
theorem updL_one {x y : Int64} {j : Nat} (hj : j < 1) : vp_updL (fun _ => x) (nI 0).toNatClampNeg y j = y := by
  have : (nI 0).toNatClampNeg = 0 := rfl
  unfold vp_updL
  rw [this, if_pos (by omega)]
theorem out_at {D : va_G} {oa : Nat} {cJ : ClassId} {x y : Int64} {H : Heap} (h : va_at D vwCl (oa, .inl (cJ, 1, .inr (.inl (vp_updL (fun _ => x) (nI 0).toNatClampNeg y)))) H) : va_at D vwCl (oa, oE cJ y) H := by
  show H[oa]? = _
  have h2 : H[oa]? = some (vp_cell cJ (1, .inr (.inl (vp_updL (fun _ => x) (nI 0).toNatClampNeg y)))) := h
  rw [h2]
  have e : (fun j : Fin 1 => Value.long (vp_updL (fun _ => x) (nI 0).toNatClampNeg y j.val)) = (fun _ : Fin 1 => Value.long y) := funext (fun j => by rw [updL_one j.isLt])
  exact congrArg (fun g => some ({ cls := cJ, slots := Array.ofFn (n := 1) g, vm := .none } : Cell)) e
