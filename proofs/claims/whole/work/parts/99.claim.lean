/-! THE CLAIM OUT OF ONE WALK OF THE LAW'S BODY. Your part is whole_start (and what it stands on); all else here is the same for every law, but numbers. -/
def R_law : String := "TenderHallLaw"
def lw_P (b : Addr) (xs : List Int32) (args : Array Value) (s : State) : Prop := args = #[.ref b] ∧ s.IntsAt b xs ∧ xs.length ≤ 3072 ∧ (Jvm.Cond.and given_1 narrow_1).before args s = true
def lw_Q (_ : Array Value) (s : State) (o : Outcome) (t : State) : Prop := o = .returned (some (.int 1)) ∧ Framed s o t [] 601024 7293033
def lw_Z (below : List Frame) (a : Array Value) (s : State) : State → Prop := fun t => ∃ o, t.status = .running ∧ Ended t below o ∧ lw_Q a s o t
/-- the law's own end, with 1 on the stack, nothing written that was there before, its room as the claim has it -/
theorem lw_ret {p : Program} {l : Launch} {e : Env} {s : State} {m : MethodId} {below : List Frame} {meth : Method} {c : Code} {b : Nat} (hx : p.tables.exec = Jvm.exec) (hb : c.code = code) (hr : meth.sig.returnType = ret) (hlocks : meth.locks = false) {pc : Nat} {H : Heap} {ls : Array Slot} (hdg : decode code pc = .ok (.ireturn, 1)) : W p l e room_1 s m #[Value.ref b] below meth c H [] 601024 7293033 (lw_Z below #[Value.ref b] s) (F0 m pc ls [.int 1]) := by
  intro T hT X
  obtain ⟨fs, hret, hrun, hended, hW, hframe⟩ := X.leave (v := some (.int 1)) (hlocks := hlocks) (fun h => by rw [hr] at h; cases h)
  have hmeth' : T.vm.method? m = some meth := X.method'
  refine ⟨T.setFrames fs, ?_, .returned (some (.int 1)), hrun, hended, rfl, ⟨_, rfl⟩, hW, hframe⟩
  jvm_step X.here [X.here.top, hx, hb, hdg, hmeth', hr, ret, narrow_b1]
  (try refine ⟨rfl, ?_⟩); (try refine ⟨rfl, ?_⟩)
  first | (intro acts; rw [hret _ acts rfl rfl rfl]) | rw [hret _ _ rfl rfl rfl]
  exact Steps.refl _
/-- what holds at the law's entry: the machine, the code, the tables' words (any of lw_tbl by 'hts w (by decide +kernel)'), the script of L ints xs at the cell b, what the Statement gives of the start (any of its parts by flat_of_before) -/
def lw_At (p : Program) (s : State) (m : MethodId) (meth : Method) (c : Code) (b L : Nat) (xs : Nat → Int32) : Prop :=
  p.tables.exec = Jvm.exec ∧ c.code = code ∧ meth.sig.returnType = ret ∧ c.maxLocals = 7 ∧ s.vm.findClass R_law = some m.cls ∧ (∀ w ∈ lw_tbl, w.before #[Value.ref b] s = true) ∧ va_X b L xs s s.heap ∧ b < s.heap.size ∧ meth.locks = false ∧ (Jvm.Cond.and given_1 narrow_1).before #[Value.ref b] s = true
-- ===== YOUR PART BEGINS =====
set_option maxHeartbeats 4000000 in
set_option maxRecDepth 100000 in
/-- from the entry, for every script of at most 3072 ints, the law comes to its end with true -/
theorem whole_start {p : Program} {e : Env} {s : State} {m : MethodId} {below : List Frame} {meth : Method} {c : Code} (l : Launch) (hflags : l.flags = flags0) {b L : Nat} {xs : Nat → Int32} (hL : L ≤ 3072) (C0 : lw_At p s m meth c b L xs) : W p l e room_1 s m #[Value.ref b] below meth c s.heap [] 0 0 (lw_Z below #[Value.ref b] s) (entryFrame m ([Value.ref b] : List Value).toArray 7) := by
  obtain ⟨hx, hb, hr, hml, hown, hts00, hX, hbl, hlocks, hgv⟩ := C0
  have hts0 : ∀ w ∈ lw_tbl3, w.before #[Value.ref b] s = true := lw_tbl3_ok hts00
  have hown : s.vm.findClass RL = some m.cls := hown
  have hb : c.code = cL_law := hb
  have hst : l.stackTraces = false := by
    unfold Launch.stackTraces
    rw [hflags]
    decide +kernel
  obtain ⟨D, cI, cO, cb, cZ, cC, cJ, eA, mi, st, dO, dT, vF, hK, hKm, hKJ, hG, hGT, hN, hsI⟩ := st_facts hts0 hgv
  have hts : ∀ w ∈ wsL_law, w.before #[Value.ref b] s = true := fun w h => hts0 w (wsL_law_in w h)
  have hA : ∀ q : Nat, s.heap.size ≤ q → (fun q : Nat => s.heap.size ≤ q) q := fun _ h => h
  have hS : va_S (fun q : Nat => s.heap.size ≤ q) s.heap s.heap [] := va_S.rf
  have hP : va_P D vwCl [] s.heap := fun k q h => by simp at h
  have hD : va_D (fun q : Nat => s.heap.size ≤ q) [] := ⟨fun i j p q h => by simp at h, fun k q h => by simp at h⟩
  have hl := lv_entry ([.ref b]) (n := 7) (Nat.le_of_ble_eq_true rfl)
  rw [lg_entry_eq]
  generalize (lg_sl ([.ref b]) ++ List.replicate (7 - (lg_sl ([.ref b])).length) Slot.unset).toArray = ls at hl ⊢
  have hl : lv_has ls 7 [(0, .ref b)] := hl
  have w8 : ∀ w ∈ lsW, w.before #[Value.ref b] s = true := fun w h => hts0 w (lsW_in w h)
  refine va_new (ci := 9) (fs := [.null, .null, .null, .null, .null, .int (nI 0)]) hx hb hts0 inX8 tyX8 tyX8_ok hown (w8 _ (List.mem_of_getElem? (i := 0) rfl)) (w8 _ (List.mem_of_getElem? (i := 1) rfl)) (w8 _ (List.mem_of_getElem? (i := 2) rfl)) hK hP hD hS hA rfl (fun j9 h9 => by rcases j9 with _ | _ | _ | _ | _ | _ | j9 <;> first | rfl | omega) (Nat.le_of_ble_eq_true rfl) (Nat.le_of_ble_eq_true rfl) dL_law_0 (fun h H hP hD hS => ?_)
  refine lv_dup hx hb dL_law_3 rfl ?_
  refine va_callv (va_runI (As := []) (rest := [.ref h]) ⟨hx, hb, hml, hown, hts⟩ (ci_X8 l D cI cO cb eA mi st ([] ++ [(h, .inr (9, [.null, .null, .null, .null, .null, .int (nI 0)]))]) hD h (List.mem_append_right _ (List.mem_singleton.mpr rfl))) (cwI 0 hts gL_law_X8_init rfl rfl rfl (w8 _ (List.mem_of_getElem? (i := 2) rfl)) (w8 _ (List.mem_of_getElem? (i := 3) rfl)) (w8 _ (List.mem_of_getElem? (i := 4) rfl)) rfl kd_X8_init ⟨Nat.le_of_ble_eq_true rfl, Nat.le_of_ble_eq_true rfl⟩) ⟨cB_blind, cB_pre hK hG hA hS hP _⟩ rfl rfl hl.1 rfl (lv_room (Nat.le_of_ble_eq_true rfl)) dL_law_4 ⟨Nat.le_of_ble_eq_true rfl, Nat.le_of_ble_eq_true rfl⟩) hS (fun q _ h => h) hA (fun u t H1 locs1 ht hvm hw hB hz1 hk1 hS1 => ?_)
  obtain ⟨pa, r1, r2, r3, r4⟩ := u
  obtain ⟨hD1, hB⟩ := hB
  rw [ht] at hB
  have ez : ((((((wup ([] ++ [(h, .inr (9, [.null, .null, .null, .null, .null, .int (nI 0)]))]) h (.inr (9, [.ref pa, .ref r1, .ref r2, .ref r3, .ref r4, .int (nI 0)]))) ++ [(pa, .inl (cI, 48, .inl (fM1 48)))]) ++ [(r1, eL (nI 0) eA 0)]) ++ [(r2, eL (nI 0) eA 0)]) ++ [(r3, eL (nI 0) eA 0)]) ++ [(r4, eL (nI 0) eA 0)]) = zws cI eA h pa r1 r2 r3 r4 := by simp [wup, zws]
  have hDz : va_D (fun q : Nat => s.heap.size ≤ q) (zws cI eA h pa r1 r2 r3 r4) := by rw [← ez]; exact hD1
  have hPz : va_P D vwCl (zws cI eA h pa r1 r2 r3 r4) H1 := by rw [← ez]; exact hB
  clear hB hD1 ez hS hP hD
  refine lv_astore_n (lv' := [(1, .ref h), (0, .ref b)]) hx hb dL_law_7 rfl hl (by decide) rfl (fun ls hl => ?_)
  refine va_new (ci := 10) (fs := [.int (nI 0), .int (nI 0), .null, .int (nI 0), .null, .null, .null, .null, .null, .null, .null, .null, .null, .null, .null, .int (nI 0), .int (nI 0), .null, .null, .null, .null, .null, .int (nI 0), .null, .null, .null, .null, .null, .null, .int (nI 0), .null, .null, .null, .int (nI 0), .null]) hx hb hts0 inX9 tyX9 tyX9_ok hown (w8 _ (List.mem_of_getElem? (i := 5) rfl)) (w8 _ (List.mem_of_getElem? (i := 6) rfl)) (w8 _ (List.mem_of_getElem? (i := 7) rfl)) hK hPz hDz hS1 hA rfl (fun j9 h9 => by rcases j9 with _ | _ | _ | _ | _ | _ | _ | _ | _ | _ | _ | _ | _ | _ | _ | _ | _ | _ | _ | _ | _ | _ | _ | _ | _ | _ | _ | _ | _ | _ | _ | _ | _ | _ | _ | j9 <;> first | rfl | omega) (Nat.le_of_ble_eq_true rfl) (Nat.le_of_ble_eq_true rfl) dL_law_8 (fun q H2 hP hD hS => ?_)
  refine lv_dup hx hb dL_law_11 rfl ?_
  have hne : ∀ x ∈ zws cI eA h pa r1 r2 r3 r4, x.1 ≠ q := fun x hx9 e => by
    obtain ⟨i, hi⟩ := List.getElem?_of_mem hx9
    have hlt : i < (zws cI eA h pa r1 r2 r3 r4).length := (List.getElem?_eq_some_iff.mp hi).1
    have := hD.1 i (zws cI eA h pa r1 r2 r3 r4).length x (q, .inr (10, [.int (nI 0), .int (nI 0), .null, .int (nI 0), .null, .null, .null, .null, .null, .null, .null, .null, .null, .null, .null, .int (nI 0), .int (nI 0), .null, .null, .null, .null, .null, .int (nI 0), .null, .null, .null, .null, .null, .null, .int (nI 0), .null, .null, .null, .int (nI 0), .null])) (by rw [List.getElem?_append_left hlt]; exact hi) (by rw [List.getElem?_append_right (Nat.le_refl _), Nat.sub_self]; rfl) e
    omega
  have hlt2 : ∀ x ∈ zws cI eA h pa r1 r2 r3 r4, x.1 < H2.size := fun x hx9 => by
    obtain ⟨i, hi⟩ := List.getElem?_of_mem hx9
    exact (va_P_l hP i x hi).lt
  have hqA : s.heap.size ≤ q := hD.2 (zws cI eA h pa r1 r2 r3 r4).length (q, .inr (10, [.int (nI 0), .int (nI 0), .null, .int (nI 0), .null, .null, .null, .null, .null, .null, .null, .null, .null, .null, .null, .int (nI 0), .int (nI 0), .null, .null, .null, .null, .null, .int (nI 0), .null, .null, .null, .null, .null, .null, .int (nI 0), .null, .null, .null, .int (nI 0), .null])) (by rw [List.getElem?_append_right (Nat.le_refl _), Nat.sub_self]; rfl)
  have hA2 : ∀ a : Nat, (a = q ∨ H2.size ≤ a) → s.heap.size ≤ a := fun a h9 => h9.elim (fun e => e ▸ hqA) (fun h9 => Nat.le_trans hS.1 h9)
  have hD9 : va_D (fun a => a = q ∨ H2.size ≤ a) [(q, .inr (10, [.int (nI 0), .int (nI 0), .null, .int (nI 0), .null, .null, .null, .null, .null, .null, .null, .null, .null, .null, .null, .int (nI 0), .int (nI 0), .null, .null, .null, .null, .null, .int (nI 0), .null, .null, .null, .null, .null, .null, .int (nI 0), .null, .null, .null, .int (nI 0), .null]))] := ⟨fun i j x y hi hj _ => by
    have h1 := (List.getElem?_eq_some_iff.mp hi).1
    have h2 := (List.getElem?_eq_some_iff.mp hj).1
    simp at h1 h2
    omega, fun k x hk => Or.inl (by rw [List.mem_singleton.mp (List.mem_of_getElem? hk)])⟩
  refine va_callv (va_runI (As := []) (rest := [.ref q]) ⟨hx, hb, hml, hown, hts⟩ (ci_X9 l D cI cZ cC q hD9) (cwI 0 hts gL_law_X9_init rfl rfl rfl (w8 _ (List.mem_of_getElem? (i := 7) rfl)) (w8 _ (List.mem_of_getElem? (i := 8) rfl)) (w8 _ (List.mem_of_getElem? (i := 9) rfl)) rfl kd_X9_init ⟨Nat.le_of_ble_eq_true rfl, Nat.le_of_ble_eq_true rfl⟩) ⟨fun a U g mk q => ⟨q.1, q.2.1, va_K.moved (u := U) (U := U.calling g mk a) (Vm.Alike.refl U.vm) q.2.2.1, trivial, q.2.2.2.2⟩, fun U hU hW => ⟨rfl, by rw [hU]; exact va_P_r hP, va_K.moved hW.alike hKm, trivial, fun q9 hq9 => Or.inr (by rw [← hU]; exact hq9)⟩⟩ rfl rfl hl.1 rfl (lv_room (Nat.le_of_ble_eq_true rfl)) dL_law_12 ⟨Nat.le_of_ble_eq_true rfl, Nat.le_of_ble_eq_true rfl⟩) hS (fun a _ h9 => hA2 a h9) (fun a h9 => hA2 a h9) (fun ad t2 H3 locs2 ht2 hvm2 hw2 hB2 hz2 hk2 hS2 => ?_)
  obtain ⟨hmd, hPm⟩ := hB2
  rw [ht2] at hPm
  have hPz3 : va_P D vwCl (zws cI eA h pa r1 r2 r3 r4) H3 := fun k x hk => (va_P_l hP k x hk).kept (hk2 x.1 (va_P_l hP k x hk).lt (fun h9 => h9.elim (fun e => hne x (List.mem_of_getElem? hk) e) (fun h9 => by have := hlt2 x (List.mem_of_getElem? hk); omega)))
  have hcat : va_D (fun q : Nat => s.heap.size ≤ q) (zws cI eA h pa r1 r2 r3 r4 ++ mws ad cI cZ cC 0 (fun _ _ => 0)) := va_D_cat hDz (hmd.at cI cZ cC 0 (fun _ _ => 0)) hA2 (fun x hx9 h9 => h9.elim (fun e => hne x hx9 e) (fun h9 => by have := hlt2 x hx9; omega))
  have hPc := va_P_app hPz3 hPm
  have hw2 : ad 0 = q := hw2
  subst hw2
  clear hP hD hS hPz hPz3 hPm hS1
  refine lv_astore_n (lv' := [(2, .ref (ad 0)), (1, .ref h), (0, .ref b)]) hx hb dL_law_15 rfl hl (by decide) rfl (fun ls hl => ?_)
  refine lv_iconst (v := nI 1) hx hb dL_law_16 (by decide) ?_
  refine c_newl hx hb (w8 _ (List.mem_of_getElem? (i := 10) rfl)) (t0 := 0) hKJ rfl hPc hcat hS2 hA (n := 1) (by decide) (Nat.le_of_ble_eq_true rfl) (Nat.le_of_ble_eq_true rfl) dL_law_17 (fun oa H4 hP hD hS => ?_)
  refine lv_astore_n (lv' := [(3, .ref oa), (2, .ref (ad 0)), (1, .ref h), (0, .ref b)]) hx hb dL_law_19 rfl hl (by decide) rfl (fun ls hl => ?_)
  refine lv_iconst (v := nI 0) hx hb dL_law_20 (by decide) ?_
  refine lv_istore (lv' := [(4, .int (nI 0)), (3, .ref oa), (2, .ref (ad 0)), (1, .ref h), (0, .ref b)]) hx hb dL_law_21 hl (by decide) rfl (fun ls hl => ?_)
  have hoaD : ∀ x ∈ zws cI eA h pa r1 r2 r3 r4 ++ mws ad cI cZ cC 0 (fun _ _ => 0), x.1 ≠ oa := fun x hx9 e => by
    obtain ⟨i, hi⟩ := List.getElem?_of_mem hx9
    have hlt : i < (zws cI eA h pa r1 r2 r3 r4 ++ mws ad cI cZ cC 0 (fun _ _ => 0)).length := (List.getElem?_eq_some_iff.mp hi).1
    have := hD.1 i (zws cI eA h pa r1 r2 r3 r4 ++ mws ad cI cZ cC 0 (fun _ _ => 0)).length x (oa, oE cJ 0) (by rw [List.getElem?_append_left hlt]; exact hi) (by rw [List.getElem?_append_right (Nat.le_refl _), Nat.sub_self]; rfl) e
    omega
  have hon : s.heap.size ≤ oa := hD.2 (zws cI eA h pa r1 r2 r3 r4 ++ mws ad cI cZ cC 0 (fun _ _ => 0)).length (oa, oE cJ 0) (by rw [List.getElem?_append_right (Nat.le_refl _), Nat.sub_self]; rfl)
  have hmA : ∀ q, mA ad q → ∃ x ∈ mws ad cI cZ cC 0 (fun _ _ => 0), x.1 = q := fun q h9 => by
    obtain ⟨k, y, g1, g2⟩ := h9
    have g3 : ((mws ad cI cZ cC 0 (fun _ _ => 0)).map (·.1))[k]? = some y.1 := by
      rw [show (mws ad cI cZ cC 0 (fun _ _ => 0)).map (·.1) = (mws ad 0 0 0 0 (fun _ _ => 0)).map (·.1) from rfl, List.getElem?_map, g1]; rfl
    rw [List.getElem?_map] at g3
    rcases g4 : (mws ad cI cZ cC 0 (fun _ _ => 0))[k]? with _ | z
    · rw [g4] at g3; cases g3
    · rw [g4] at g3
      exact ⟨z, List.mem_of_getElem? g4, (Option.some.inj g3).trans g2⟩
  have hmn : ∀ q, mA ad q → s.heap.size ≤ q := fun q h9 => by
    obtain ⟨x, g1, rfl⟩ := hmA q h9
    obtain ⟨i, hi⟩ := List.getElem?_of_mem (List.mem_append_right (zws cI eA h pa r1 r2 r3 r4) g1)
    exact hcat.2 i x hi
  have hnm : ¬ mA ad oa := fun h9 => by
    obtain ⟨x, g1, g2⟩ := hmA oa h9
    exact hoaD x (List.mem_append_right _ g1) g2
  have hdis : mDis (mA ad) ad := ⟨hmd.1, fun k x hk => ⟨k, x, hk, rfl⟩⟩
  have hDl : va_D (lA s.heap.size ad oa) (zws cI eA h pa r1 r2 r3 r4) := ⟨hDz.1, fun k x hk => ⟨hDz.2 k x hk, fun h9 => by
    obtain ⟨y, g1, g2⟩ := hmA x.1 h9
    obtain ⟨j, hj⟩ := List.getElem?_of_mem g1
    have hlt : k < (zws cI eA h pa r1 r2 r3 r4).length := (List.getElem?_eq_some_iff.mp hk).1
    have := hcat.1 k ((zws cI eA h pa r1 r2 r3 r4).length + j) x y (by rw [List.getElem?_append_left hlt]; exact hk) (by rw [List.getElem?_append_right (Nat.le_add_right _ _), Nat.add_sub_cancel_left]; exact hj) g2.symm
    omega, hoaD x (List.mem_append_left _ (List.mem_of_getElem? hk))⟩⟩
  obtain ⟨hCW, hWF, hRel⟩ := z_start (cO := cO) (st := st) hDl
  have C1 : LC p s m #[Value.ref b] c b L xs D cI cO cb cZ cC cJ eA mi st ad dO dT vF oa := ⟨hx, hb, hml, hown, hts, hX, hbl, hK, hKm, hKJ, hG, hGT, hN, hsI, hdis, hmn, hon, hnm⟩
  have hI : LI D cI cO eA st cZ cC cJ s ad h oa 0 (fun _ _ => 0) (zws cI eA h pa r1 r2 r3 r4) 0 0 H4 locs2 := ⟨⟨fun _ => 0, _, _, _, hCW, hWF, hRel, hDl⟩, fun f i => Nat.zero_le _, fun b9 => Nat.zero_le _, Nat.le_refl 0, va_P_l (va_P_l hP), va_P_r (va_P_l hP), va_P_r hP 0 _ rfl, hS⟩
  refine W.widen (k := 35 + 241 * 0) (n := 1726 + 12126 * 0) (by omega) (by omega) ?_
  exact law_loop (c0 := 35) (s0 := 1726) hst C1 hL (by omega) (by omega) (fun H locs cells slots hS hc hs ls => by
    refine lv_iconst (v := nI 1) hx hb dL_law_2060 (by decide) ?_
    refine va_forget (fun q hq => hS.2.2 q hq) ?_
    refine W.widen (k := 601024) (n := 7293033) hc hs ?_
    exact lw_ret hx hb hr hlocks dL_law_2061) 513 0 (by omega) (by omega) hI ls (lv_sub hl [4, 3, 2, 1, 0] rfl)
-- ===== YOUR PART ENDS =====
set_option maxHeartbeats 4000000 in
theorem lw_walk (l : Launch) (hflags : l.flags = flags0) (b : Addr) (xs : List Int32) : MetFree l x (headSpec (Jvm.Cond.code x code maxLocals ret :: tables_1) room_1) (lw_P b xs) (fun _ _ _ _ _ => True) lw_Q := by
  refine MetFree.of_bodyS (code := code) (maxLocals := maxLocals) (ret := ret) (by decide) ?_ ?_
  · intro args s m h hn
    obtain ⟨meth, c, h1, h2, h3, h4, h5, h6, -, -⟩ := Cond.code_spec hn (atoms_spec (ws := Jvm.Cond.code x code maxLocals ret :: tables_1) h _ List.mem_cons_self)
    exact ⟨meth, c, h1, h2, h3, h4, h5, h6⟩
  · intro p e s m args below meth c s₁ B hml0 hP _
    obtain ⟨rfl, hx, hbd, hgv⟩ := hP
    obtain ⟨scr, harrAt, hlist, hof, hsmall⟩ := hx
    obtain ⟨hcb, hkn, -, -⟩ := State.arrayAt?_spec harrAt
    have hown : s.vm.findClass R_law = some m.cls := findClass_of_methodNamed B.named
    have hts0 : ∀ c ∈ (Jvm.Cond.code x code maxLocals ret :: tables_1), c.before #[Value.ref b] s = true := atoms_spec (ws := Jvm.Cond.code x code maxLocals ret :: tables_1) B.pre
    have hts : ∀ w ∈ lw_tbl, w.before #[Value.ref b] s = true := k2_hts_sels lw_privs (fun w hw => hts0 w (List.mem_cons_of_mem _ hw)) lw_privs_ok
    have hml : c.maxLocals = 7 := B.maxLocals_eq (hts0 _ List.mem_cons_self)
    have X₀ : Stand p l e room_1 s m #[Value.ref b] below meth c s₁ [] 0 0 := Stand.of_body B
    have hh0 : s₁.heap = s.heap := by rw [B.state]; rfl
    have hsz : scr.slots.size = xs.length := by rw [← Array.length_toList, hlist, List.length_map]
    have hval : ∀ j : Nat, j < xs.length → scr.slots[j]? = some (.int (xs.getD j 0)) := fun j hj => by
      rw [← Array.getElem?_toList, hlist]
      simp [hj]
    have hbl : b < s.heap.size := (Array.getElem?_eq_some_iff.mp hcb).1
    have hX : va_X b xs.length (fun j => xs.getD j 0) s s.heap := ⟨scr, hcb, hof, hkn, hsz, hval⟩
    have K : W p l e room_1 s m #[Value.ref b] below meth c s₁.heap [] 0 0 (lw_Z below #[Value.ref b] s) (entryFrame m ([Value.ref b] : List Value).toArray 7) := by
      rw [hh0]
      exact whole_start l hflags hbd ⟨B.exec, B.bytes, B.returns, hml, hown, hts, hX, hbl, B.notSynchronized, hgv⟩
    obtain ⟨t, a1, o, b1, b2, b3⟩ := K s₁ rfl X₀
    exact ⟨t, o, a1, b1, b2, b3⟩
theorem lw_pre_spec {args : Array Value} {s : State} (h : (Jvm.Cond.and given_1 narrow_1).before args s = true) (hr : rest_1_c.before args s = true) : ∃ (b : Addr) (xs : List Int32), lw_P b xs args s := by
  have hs := flat_of_before _ h
  have hq := flat_of_before _ hr
  have hc : (Cond.count 1).before args s = true := hs _ (by decide +kernel)
  have harr : (Cond.arrayOf (.arg 0) .int).before args s = true := hs _ (by decide +kernel)
  have hle : (Cond.le (.length (.arg 0)) (.int 3072)).before args s = true := hs _ (by decide +kernel)
  have hlen : (Cond.isInt (.length (.arg 0))).before args s = true := hq _ (by decide +kernel)
  have hall : (Cond.all (.arg 0) (.isInt (.elem (.arg 0) (.index 0)))).before args s = true := hq _ (by decide +kernel)
  obtain ⟨b, xs, hb, hx⟩ := State.ints_of_pre rfl harr hlen hall
  have hsm : xs.length < 2 ^ 31 := hx.choose_spec.2.2.2
  have hev : (Term.length (.arg 0)).eval args s none [] s = some (.int xs.length.toInt32) := hx.length_eval hb
  have hv := Cond.le_ints hev (show (Term.int 3072).eval args s none [] s = some (.int 3072) from rfl)
  have hd : xs.length.toInt32 ≤ 3072 := by
    simpa [Cond.before, Cond.holds, hv] using hle
  have hN : xs.length ≤ 3072 := (Int32.ofNat_le_ofNat hsm (by decide)).mp (show Int32.ofNat xs.length ≤ Int32.ofNat 3072 from hd)
  exact ⟨b, xs, Cond.one_arg hc (show args[0]? = some (.ref b) from hb), hx, hN, h⟩
theorem lw_comes (l : Launch) (hflags : l.flags = flags0) : Comes l x (Jvm.Cond.code x code maxLocals ret :: tables_1) room_1 (fun tb e args s => Calls_1 tb e args s ∧ rest_1 tb e args s ∧ Pre_1 tb e args s)
    (fun _ _ args s o t => lw_Q args s o t) := by
  intro p e ha hc hk s m args below hf hfit hheap happ hpre
  obtain ⟨b, xs, hP⟩ := lw_pre_spec hpre.2.2 hpre.2.1
  obtain ⟨k, o, h1, h2, h3, hQ⟩ := lw_walk l hflags b xs p e ha hc hk s m args below hf ((Spec.applies_iff_loose hf).mp happ).1 hP trivial
  exact ⟨k, o, h1, h2, h3, hQ⟩
theorem lw_frame {s t : State} {o : Outcome} {args : Array Value} (h : Framed s o t [] 601024 7293033) :
    Framed s o t (fieldLocs frame_1_writes args s ++ arrayLocs frame_1_arrays args s ++ staticLocs frame_1_statics s) 601024 7293033 := h
theorem lw_limb (L : Cond) (hL : ∀ (args : Array Value) (s t : State), L.after args s (.returned (some (.int 1))) t = true) :
    ArmFor flags0 classFile x code maxLocals ret World_1 tables_1 room_1 Calls_1 rest_1 Pre_1
      (fun tb e a s o t => postC L tb e a s o t ∧ Framed s o t (fieldLocs frame_1_writes a s ++ arrayLocs frame_1_arrays a s ++ staticLocs frame_1_statics s) 601024 7293033) := by
  intro l hflags _ _ p e ha hc hk s m args below hf hfit hheap happ hpre
  obtain ⟨k, o, h1, h2, h3, rfl, hF⟩ := lw_comes l hflags p e ha hc hk s m args below hf hfit hheap happ hpre
  exact ⟨k, _, h1, h2, h3, hL args s _, lw_frame hF⟩
theorem i_vc : Claimed_1_1 ∧ Claimed_1_2 := ⟨lw_limb limb_1_1 (fun args s t => by simp [limb_1_1, Cond.after, Cond.holds, Cond.value]), lw_limb limb_1_2 (fun args s t => Cond.after_iff.mpr (by
  first | (rw [show limb_1_2 = Cond.eq .result (.int 1) from rfl, Cond.eq_ints (x := 1) (y := 1) rfl rfl]; simp; done) | (simp [limb_1_2, Cond.value, Term.eval]; done)))⟩
