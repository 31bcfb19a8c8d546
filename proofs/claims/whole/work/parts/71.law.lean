/-! the law: what stays, the worlds apart -/
theorem gS.narrow {eA mi : Nat} {st : Nat → Nat} {A A2 : Nat → Prop} {U : State} {H : Heap} (h : gS eA mi st A U H) (hAB : ∀ q, A2 q → A q) : gS eA mi st A2 U H := by
  obtain ⟨h1, h2, h3, h4, h5, h6, h7, h8, h9, h10, h11⟩ := h
  exact ⟨h1.narrow hAB, h2.narrow hAB, h3.narrow hAB, h4.narrow hAB, h5, h6, h7, h8.narrow hAB, h9.narrow hAB, h10.narrow hAB, h11.narrow hAB⟩
theorem gT.narrow {dO dT : Nat} {vF : Value} {A A2 : Nat → Prop} {U : State} {H : Heap} (h : gT dO dT vF A U H) (hAB : ∀ q, A2 q → A q) : gT dO dT vF A2 U H := by
  obtain ⟨h1, h2, h3, h4, h5, h6, h7⟩ := h
  exact ⟨h1.narrow hAB, h2.narrow hAB, h3.narrow hAB, h4.narrow hAB, h5.narrow hAB, h6.narrow hAB, h7⟩
theorem lNc.moved {u U : State} (hvm : u.vm.Alike U.vm) (h : lNc u) : lNc U := ⟨h.1.moved hvm, h.2.1.moved hvm, h.2.2.moved hvm⟩
theorem lB_blind {D : va_G} {cI cO cb : ClassId} {eA mi : Nat} {st : Nat → Nat} {dO dT : Nat} {vF : Value} {A : Nat → Prop} {ws : va_W} {cJ : ClassId} {oa : Nat} {x : Int64} {av : List Value} : FrameBlind (va_Pc av (lB D cI cO cb eA mi st dO dT vF A ws cJ oa x)) := fun a U g mk q => ⟨q.1, (cT_blind (av := av) a U g mk ⟨q.1, q.2.1⟩).2, va_K.moved (u := U) (U := U.calling g mk a) (Vm.Alike.refl U.vm) q.2.2.1, q.2.2.2.1, q.2.2.2.2.1, lNc.moved (u := U) (U := U.calling g mk a) (Vm.Alike.refl U.vm) q.2.2.2.2.2⟩
theorem lB_pre {D : va_G} {cI cO cb : ClassId} {eA mi : Nat} {st : Nat → Nat} {dO dT : Nat} {vF : Value} {A A0 : Nat → Prop} {ws : va_W} {cJ : ClassId} {oa : Nat} {x : Int64} {s : State} {H : Heap} {locs : List Loc} (hK : va_K D vwCl (cty cI cO cb) s) (hKJ : va_K D vwCl [(cJ, .long)] s) (hG : gS eA mi st A0 s s.heap) (hGT : gT dO dT vF A0 s s.heap) (hN : lNc s) (hAB : ∀ q, A q → A0 q) (hS : va_S A0 s.heap H locs) (hA : ∀ q : Nat, H.size ≤ q → A q) (hP : va_P D vwCl ws H) (ho : va_at D vwCl (oa, oE cJ x) H) (av : List Value) : ∀ U : State, U.heap = H → s.WarmedH U.vm → va_Pc av (lB D cI cO cb eA mi st dO dT vF A ws cJ oa x) av.toArray U :=
  fun U hU hW => ⟨rfl, ⟨by rw [hU]; exact hP, va_K.moved hW.alike hK, ⟨by rw [hU]; exact ((hG.kept (fun q h1 h2 => hS.2.1 q h1 h2)).narrow hAB).moved hW.alike, by rw [hU]; exact ((hGT.kept (fun q h1 h2 => hS.2.1 q h1 h2)).narrow hAB).moved hW.alike⟩, fun q hq => hA q (by rw [← hU]; exact hq)⟩, va_K.moved hW.alike hKJ, by rw [hU]; exact ho, by rw [hU]; exact ho.lt, hN.moved hW.alike⟩
/-- the reference's cells -/
def mA (ad : Nat → Nat) (q : Nat) : Prop := ∃ (k : Nat) (x : Nat × va_E), (mws ad 0 0 0 0 (fun _ _ => 0))[k]? = some x ∧ x.1 = q
/-- where the class's cells lie -/
def lA (n0 : Nat) (ad : Nat → Nat) (oa : Nat) (q : Nat) : Prop := n0 ≤ q ∧ ¬ mA ad q ∧ q ≠ oa
theorem mws_fst {ad : Nat → Nat} {cI cZ cC : ClassId} {th : Nat} {M : MS} {k : Nat} {x : Nat × va_E} (h : (mws ad cI cZ cC th M)[k]? = some x) : mA ad x.1 := by
  have e : (mws ad cI cZ cC th M).map (·.1) = (mws ad 0 0 0 0 (fun _ _ => 0)).map (·.1) := rfl
  have h1 : ((mws ad cI cZ cC th M).map (·.1))[k]? = some x.1 := by rw [List.getElem?_map, h]; rfl
  rw [e, List.getElem?_map] at h1
  rcases h2 : (mws ad 0 0 0 0 (fun _ _ => 0))[k]? with _ | y
  · rw [h2] at h1; cases h1
  · rw [h2] at h1
    exact ⟨k, y, h2, Option.some.inj h1⟩
/-- the class moved: the reference's cells are as they were -/
theorem mP_keep {D : va_G} {ad : Nat → Nat} {cI cZ cC : ClassId} {th : Nat} {M : MS} {n0 oa : Nat} {H H1 : Heap} (h : va_P D vwCl (mws ad cI cZ cC th M) H) (hk : ∀ q : Nat, q < H.size → ¬ (lA n0 ad oa q ∨ q = oa) → H1[q]? = H[q]?) (ho : ¬ mA ad oa) : va_P D vwCl (mws ad cI cZ cC th M) H1 :=
  h.kept (fun k q hq => hk q.1 (h k q hq).lt (fun z => by
    have hm := mws_fst hq
    rcases z with z | z
    · exact z.2.1 hm
    · rw [z] at hm; exact ho hm))
/-- the reference moved: the class's cells are as they were -/
theorem cP_keep {D : va_G} {ad : Nat → Nat} {n0 oa : Nat} {ws : va_W} {H H1 : Heap} (h : va_P D vwCl ws H) (hD : va_D (lA n0 ad oa) ws) (hk : ∀ q : Nat, q < H.size → ¬ mA ad q → H1[q]? = H[q]?) : va_P D vwCl ws H1 :=
  h.kept (fun k q hq => hk q.1 (h k q hq).lt (fun z => (hD.2 k q hq).2.1 z))
theorem cSt.dis {cI cO : ClassId} {eA : Nat} {st : Nat → Nat} {A : Nat → Prop} {h : Nat} {M : MS} {ws : va_W} (hc : cSt cI cO eA st A h M ws) : va_D A ws := by
  obtain ⟨_, _, _, _, _, _, _, q⟩ := hc
  exact q
section LR
variable {p : Program} {l : Launch} {e : Env} {R : Room} {s : State} {m : MethodId} {args : Array Value} {below : List Frame} {meth : Method} {c : Code} {H : Heap} {locs : List Loc} {cells slots : Nat} {Q : State → Prop} {cc : ByteArray} {pc : Nat} {ls : Array Slot} {rest : List Value}
theorem lw_lcmp (hexec : p.tables.exec = Jvm.exec) (hb : c.code = cc) {x : Int64} (hdg : decode cc pc = .ok (.lcmp, 1))
    (k : W p l e R s m args below meth c H locs cells slots Q (F0 m (pc + 1) ls (.int (nI 0) :: rest))) : W p l e R s m args below meth c H locs cells slots Q (F0 m pc ls (.long x :: .long x :: rest)) := by
  intro T hT X
  obtain ⟨t, a, b⟩ := k T hT X
  refine ⟨t, ?_, b⟩
  have hlt : ¬ x < x := Int64.lt_irrefl
  have hz : (nI 0) = (0 : Int32) := rfl
  rw [hz] at a
  jvm_step X.here [X.here.top, hexec, hb, hdg, hlt]
  exact a
end LR
theorem cSt.recv {D : va_G} {cI cO cb : ClassId} {eA : Nat} {st : Nat → Nat} {A : Nat → Prop} {h : Nat} {M : MS} {ws : va_W} {s : State} {H : Heap} (hc : cSt cI cO eA st A h M ws) (hK : va_K D vwCl (cty cI cO cb) s) (hP : va_P D vwCl ws H) : ∃ cell : Cell, H[h]? = some cell ∧ cell.vm.isStatics = false ∧ s.vm.findClass RX8 = some cell.cls := by
  obtain ⟨own, kd, F, L, hC, hW, ⟨tn, lo, aw, co, ct, ow, G⟩, hD⟩ := hc
  have hm_1 : (h, .inr (9, [.ref (F 0 h), .ref (F 1 h), .ref (F 2 h), .ref (F 3 h), .ref (F 4 h), .int (nI (F 5 h))])) ∈ ws := hC.at G.1.1 (by decide) (by decide)
  exact c_recv hK hP rfl hm_1
