/-! the law's big methods: the class's world and the arrays together -/
def bB (D : va_G) (ad : Nat → Nat) (cI cO cb : ClassId) (eA mi : Nat) (st : Nat → Nat) (dO dT : Nat) (vF : Value) (A B : Nat → Prop) (ws : va_W) (T : MS) : State → Prop := fun U => va_P D vwCl ws U.heap ∧ va_K D vwCl (cty cI cO cb) U ∧ gS eA mi st (fun q => A q ∨ B q) U U.heap ∧ gT dO dT vF (fun q => A q ∨ B q) U U.heap ∧ (∀ q : Nat, U.heap.size ≤ q → A q) ∧ lNc U ∧ va_P D vwCl (aws ad cI T) U.heap ∧ va_K D vwCl [(cI, .int)] U
theorem bB_blind {D : va_G} {ad : Nat → Nat} {cI cO cb : ClassId} {eA mi : Nat} {st : Nat → Nat} {dO dT : Nat} {vF : Value} {A B : Nat → Prop} {ws : va_W} {T : MS} {av : List Value} : FrameBlind (va_Pc av (bB D ad cI cO cb eA mi st dO dT vF A B ws T)) := fun a U g mk q => ⟨q.1, q.2.1, va_K.moved (u := U) (U := U.calling g mk a) (Vm.Alike.refl U.vm) q.2.2.1, q.2.2.2.1.moved (u := U) (U := U.calling g mk a) (Vm.Alike.refl U.vm), q.2.2.2.2.1.moved (u := U) (U := U.calling g mk a) (Vm.Alike.refl U.vm), q.2.2.2.2.2.1, lNc.moved (u := U) (U := U.calling g mk a) (Vm.Alike.refl U.vm) q.2.2.2.2.2.2.1, q.2.2.2.2.2.2.2.1, va_K.moved (u := U) (U := U.calling g mk a) (Vm.Alike.refl U.vm) q.2.2.2.2.2.2.2.2⟩
theorem bB_pre {D : va_G} {ad : Nat → Nat} {cI cO cb : ClassId} {eA mi : Nat} {st : Nat → Nat} {dO dT : Nat} {vF : Value} {A B A0 : Nat → Prop} {ws : va_W} {T : MS} {s : State} {H : Heap} {locs : List Loc} (hK : va_K D vwCl (cty cI cO cb) s) (hKa : va_K D vwCl [(cI, .int)] s) (hG : gS eA mi st A0 s s.heap) (hGT : gT dO dT vF A0 s s.heap) (hN : lNc s) (hAB : ∀ q, (A q ∨ B q) → A0 q) (hS : va_S A0 s.heap H locs) (hA : ∀ q : Nat, H.size ≤ q → A q) (hP : va_P D vwCl ws H) (hPa : va_P D vwCl (aws ad cI T) H) (av : List Value) : ∀ U : State, U.heap = H → s.WarmedH U.vm → va_Pc av (bB D ad cI cO cb eA mi st dO dT vF A B ws T) av.toArray U :=
  fun U hU hW => ⟨rfl, by rw [hU]; exact hP, va_K.moved hW.alike hK, by rw [hU]; exact ((hG.kept (fun q h1 h2 => hS.2.1 q h1 h2)).narrow hAB).moved hW.alike, by rw [hU]; exact ((hGT.kept (fun q h1 h2 => hS.2.1 q h1 h2)).narrow hAB).moved hW.alike, fun q hq => hA q (by rw [← hU]; exact hq), hN.moved hW.alike, by rw [hU]; exact hPa, va_K.moved hW.alike hKa⟩
theorem aP_keep {D : va_G} {ad : Nat → Nat} {cI : ClassId} {T : MS} {A B : Nat → Prop} {H H1 : Heap} (h : va_P D vwCl (aws ad cI T) H) (hd : aDis B ad) (hAB : ∀ q, A q → ¬ B q) (hk : ∀ q : Nat, q < H.size → ¬ A q → H1[q]? = H[q]?) : va_P D vwCl (aws ad cI T) H1 :=
  h.kept (fun k q hq => hk q.1 (h k q hq).lt (fun z => hAB _ z ((hd.at cI T).2 k q hq)))
theorem cP_keepB {D : va_G} {A B : Nat → Prop} {ws : va_W} {H H1 : Heap} (h : va_P D vwCl ws H) (hD : va_D A ws) (hAB : ∀ q, A q → ¬ B q) (hk : ∀ q : Nat, q < H.size → ¬ B q → H1[q]? = H[q]?) : va_P D vwCl ws H1 :=
  h.kept (fun k q hq => hk q.1 (h k q hq).lt (fun z => hAB _ (hD.2 k q hq) z))
theorem va_P_app {D : va_G} {ws ws2 : va_W} {H : Heap} (h1 : va_P D vwCl ws H) (h2 : va_P D vwCl ws2 H) : va_P D vwCl (ws ++ ws2) H := by
  intro k q hk
  rcases List.mem_append.mp (List.mem_of_getElem? hk) with h | h
  · obtain ⟨i, hi⟩ := List.getElem?_of_mem h; exact h1 i q hi
  · obtain ⟨i, hi⟩ := List.getElem?_of_mem h; exact h2 i q hi
theorem va_P_l {D : va_G} {ws ws2 : va_W} {H : Heap} (h : va_P D vwCl (ws ++ ws2) H) : va_P D vwCl ws H := fun k q hk => by
  obtain ⟨i, hi⟩ := List.getElem?_of_mem (List.mem_append_left ws2 (List.mem_of_getElem? hk))
  exact h i q hi
theorem va_P_r {D : va_G} {ws ws2 : va_W} {H : Heap} (h : va_P D vwCl (ws ++ ws2) H) : va_P D vwCl ws2 H := fun k q hk => by
  obtain ⟨i, hi⟩ := List.getElem?_of_mem (List.mem_append_right ws (List.mem_of_getElem? hk))
  exact h i q hi
theorem va_D_ab {A B : Nat → Prop} {w1 w2 : va_W} (h1 : va_D B w1) (h2 : va_D A w2) (hAB : ∀ q, A q → ¬ B q) : va_D (fun q => A q ∨ B q) (w1 ++ w2) := by
  have key : ∀ {k : Nat} {q : Nat × va_E}, (w1 ++ w2)[k]? = some q → (k < w1.length ∧ w1[k]? = some q) ∨ (w1.length ≤ k ∧ w2[k - w1.length]? = some q) := fun {k q} hk => by
    by_cases h : k < w1.length
    · rw [List.getElem?_append_left h] at hk; exact Or.inl ⟨h, hk⟩
    · rw [List.getElem?_append_right (by omega)] at hk; exact Or.inr ⟨by omega, hk⟩
  refine ⟨fun i j q1 q2 hi hj e => ?_, fun k q hk => ?_⟩
  · rcases key hi with ⟨a1, b1⟩ | ⟨a1, b1⟩ <;> rcases key hj with ⟨a2, b2⟩ | ⟨a2, b2⟩
    · exact h1.1 i j q1 q2 b1 b2 e
    · exact absurd (h1.2 _ _ b1) (hAB _ (by rw [e]; exact h2.2 _ _ b2))
    · exact absurd (h1.2 _ _ b2) (hAB _ (by rw [← e]; exact h2.2 _ _ b1))
    · have := h2.1 _ _ q1 q2 b1 b2 e
      omega
  · rcases key hk with ⟨-, b1⟩ | ⟨-, b1⟩
    · exact Or.inr (h1.2 k q b1)
    · exact Or.inl (h2.2 _ q b1)
theorem cSt.dis {cI cO : ClassId} {eA : Nat} {st : Nat → Nat} {A : Nat → Prop} {h : Nat} {M : MS} {ws : va_W} (hc : cSt cI cO eA st A h M ws) : va_D A ws := by
  obtain ⟨_, _, _, _, _, _, _, q⟩ := hc
  exact q
section BR
variable {p : Program} {l : Launch} {e : Env} {R : Room} {s : State} {m : MethodId} {args : Array Value} {below : List Frame} {meth : Method} {c : Code} {H H0 : Heap} {locs : List Loc} {cells slots : Nat} {Q : State → Prop}
variable {cc : ByteArray} {pc : Nat} {ls : Array Slot} {rest : List Value} {D : va_G} {A B : Nat → Prop} {ad : Nat → Nat} {cI : ClassId} {T : MS} {ws : va_W}
theorem b_iast (hx : p.tables.exec = Jvm.exec) (hb : c.code = cc) (hKa : va_K D vwCl [(cI, .int)] s) (hPa : va_P D vwCl (aws ad cI T) H) (hPw : va_P D vwCl ws H) (hdB : aDis B ad) (hdw : va_D A ws) (hAB : ∀ q, A q → ¬ B q) (hS : va_S (fun q => A q ∨ B q) H0 H locs) {f n i v : Nat} (hf : f < 12) (hq : (aws ad cI T)[f]? = some (ad f, lrow cI n f T)) (hi : i < n) (hn : n < 2 ^ 31) (he : (aws ad cI T).set f (ad f, .inl (cI, n, .inl (upd (fun i => nI (T f i)) i (nI v)))) = aws ad cI (mu T f i v)) (hdg : decode cc pc = .ok (.iastore, 1))
    (kk : ∀ (H1 : Heap) (locs1 : List Loc), va_P D vwCl (aws ad cI (mu T f i v)) H1 → va_P D vwCl ws H1 → va_S (fun q => A q ∨ B q) H0 H1 locs1 → W p l e R s m args below meth c H1 locs1 cells slots Q (F0 m (pc + 1) ls rest)) : W p l e R s m args below meth c H locs cells slots Q (F0 m pc ls (.int (nI v) :: .int (nI i) :: .ref (ad f) :: rest)) :=
  va_iast hx hb hKa (va_P_app hPa hPw) (va_D_ab (hdB.at cI T) hdw hAB) hS f 0 (by rw [List.getElem?_append_left (by show f < 12; exact hf)]; exact hq) rfl (vp_in_nI hi hn) hdg (fun H1 locs1 hP1 _ hS1 => by
    rw [nI_clamp (by omega), List.set_append_left _ _ (by show f < 12; exact hf), he] at hP1
    exact kk H1 locs1 (va_P_l hP1) (va_P_r hP1) hS1)
theorem b_iast2 (hx : p.tables.exec = Jvm.exec) (hb : c.code = cc) (hKa : va_K D vwCl [(cI, .int)] s) (hPa : va_P D vwCl (aws ad cI T) H) (hPw : va_P D vwCl ws H) (hdB : aDis B ad) (hdw : va_D A ws) (hAB : ∀ q, A q → ¬ B q) (hS : va_S (fun q => A q ∨ B q) H0 H locs) {i v : Nat} (hi : i < 4) (hdg : decode cc pc = .ok (.iastore, 1))
    (kk : ∀ (H1 : Heap) (locs1 : List Loc), va_P D vwCl (aws ad cI (mu T 2 i (v + 1))) H1 → va_P D vwCl ws H1 → va_S (fun q => A q ∨ B q) H0 H1 locs1 → W p l e R s m args below meth c H1 locs1 cells slots Q (F0 m (pc + 1) ls rest)) : W p l e R s m args below meth c H locs cells slots Q (F0 m pc ls (.int (nI v) :: .int (nI i) :: .ref (ad 2) :: rest)) :=
  va_iast hx hb hKa (va_P_app hPa hPw) (va_D_ab (hdB.at cI T) hdw hAB) hS 2 0 (f := fun i => nI (T 2 i) - 1) rfl rfl (vp_in_nI hi (by decide)) hdg (fun H1 locs1 hP1 _ hS1 => by
    rw [nI_clamp (by omega), List.set_append_left _ _ (by show 2 < 12; decide), aset_2] at hP1
    exact kk H1 locs1 (va_P_l hP1) (va_P_r hP1) hS1)
/-- ways that meet again -/
theorem w_join {nL pc1 : Nat} {sk1 : List Value} {fr0 : JFrame} (I : Nat → List (Nat × Value)) (P : Nat → Prop) (k : ∀ x, P x → ∀ ls, lv_has ls nL (I x) → W p l e R s m args below meth c H locs cells slots Q (F0 m pc1 ls sk1)) (h : (∀ x, P x → ∀ ls, lv_has ls nL (I x) → W p l e R s m args below meth c H locs cells slots Q (F0 m pc1 ls sk1)) → W p l e R s m args below meth c H locs cells slots Q fr0) : W p l e R s m args below meth c H locs cells slots Q fr0 := h k
end BR
theorem va_Kint {D : va_G} {cI cO cb : ClassId} {s : State} (h : va_K D vwCl (cty cI cO cb) s) : va_K D vwCl [(cI, .int)] s := ⟨h.1, fun k q hk => by
  match k, hk with
  | 0, hk => exact h.2 0 q hk
  | n + 1, hk => simp at hk⟩
/-- what stands behind a turn of the law -/
def LQ (cI cO : ClassId) (eA : Nat) (st : Nat → Nat) (A : Nat → Prop) (h n : Nat) (u : va_W × MS × MS) : Prop := cSt cI cO eA st A h u.2.1 u.1 ∧ MI u.2.1 ∧ m_LB u.2.1 ∧ u.2.1 15 0 ≤ n ∧ LR u.2.1 u.2.2 ∧ LT u.2.2
