/-! THE CLAIM OUT OF ONE WALK OF THE LAW'S BODY. Your part is whole_start (and what it stands on); all else here is the same for every law, but numbers. -/
def R_law : String := "TenderHallLaw"
def lw_P (b : Addr) (xs : List Int32) (args : Array Value) (s : State) : Prop := args = #[.ref b] ∧ s.IntsAt b xs ∧ xs.length ≤ 260 ∧ (Jvm.Cond.and given_1 narrow_1).before args s = true
def lw_Q (_ : Array Value) (s : State) (o : Outcome) (t : State) : Prop := o = .returned (some (.int 1)) ∧ Framed s o t [] 852110 6545367
def lw_Z (below : List Frame) (a : Array Value) (s : State) : State → Prop := fun t => ∃ o, t.status = .running ∧ Ended t below o ∧ lw_Q a s o t
/-- the law's own end, with 1 on the stack, nothing written that was there before, its room as the claim has it -/
theorem lw_ret {p : Program} {l : Launch} {e : Env} {s : State} {m : MethodId} {below : List Frame} {meth : Method} {c : Code} {b : Nat} (hx : p.tables.exec = Jvm.exec) (hb : c.code = code) (hr : meth.sig.returnType = ret) (hlocks : meth.locks = false) {pc : Nat} {H : Heap} {ls : Array Slot} (hdg : decode code pc = .ok (.ireturn, 1)) : W p l e room_1 s m #[Value.ref b] below meth c H [] 852110 6545367 (lw_Z below #[Value.ref b] s) (F0 m pc ls [.int 1]) := by
  intro T hT X
  obtain ⟨fs, hret, hrun, hended, hW, hframe⟩ := X.leave (v := some (.int 1)) (hlocks := hlocks) (fun h => by rw [hr] at h; cases h)
  have hmeth' : T.vm.method? m = some meth := X.method'
  refine ⟨T.setFrames fs, ?_, .returned (some (.int 1)), hrun, hended, rfl, ⟨_, rfl⟩, hW, hframe⟩
  jvm_step X.here [X.here.top, hx, hb, hdg, hmeth', hr, ret, narrow_b1]
  (try refine ⟨rfl, ?_⟩); (try refine ⟨rfl, ?_⟩)
  first | (intro acts; rw [hret _ acts rfl rfl rfl]) | rw [hret _ _ rfl rfl rfl]
  exact Steps.refl _
/-- what holds at the law's entry: the machine, the code, the tables' words (any of lw_tbl by 'hts w (by decide +kernel)'), the script of L ints xs at the cell b, what the Statement gives of the start (any of its parts by flat_of_before) -/
def lw_At (p : Program) (s : State) (m : MethodId) (meth : Method) (c : Code) (b L : Nat) (xs : Nat → Int32) : Prop :=
  p.tables.exec = Jvm.exec ∧ c.code = code ∧ meth.sig.returnType = ret ∧ c.maxLocals = 20 ∧ s.vm.findClass R_law = some m.cls ∧ (∀ w ∈ lw_tbl, w.before #[Value.ref b] s = true) ∧ va_X b L xs s s.heap ∧ b < s.heap.size ∧ meth.locks = false ∧ (Jvm.Cond.and given_1 narrow_1).before #[Value.ref b] s = true
-- ===== YOUR PART BEGINS =====
set_option maxHeartbeats 4000000 in
set_option maxRecDepth 100000 in
/-- from the entry, for every script of at most 260 ints, the law comes to its end with true -/
theorem whole_start {p : Program} {e : Env} {s : State} {m : MethodId} {below : List Frame} {meth : Method} {c : Code} (l : Launch) (hflags : l.flags = flags0) {b L : Nat} {xs : Nat → Int32} (hL : L ≤ 260) (C0 : lw_At p s m meth c b L xs) : W p l e room_1 s m #[Value.ref b] below meth c s.heap [] 0 0 (lw_Z below #[Value.ref b] s) (entryFrame m ([Value.ref b] : List Value).toArray 20) := by
  obtain ⟨hx, hb, hr, hml, hown, hts00, hX, hbl, hlocks, hgv⟩ := C0
  have hts0 : ∀ w ∈ lw_tbl3, w.before #[Value.ref b] s = true := lw_tbl3_ok hts00
  have hown : s.vm.findClass RL = some m.cls := hown
  have hb : c.code = cL_law := hb
  have hst : l.stackTraces = false := by
    unfold Launch.stackTraces
    rw [hflags]
    decide +kernel
  obtain ⟨D, cI, cO, cb, eA, mi, st, dO, dT, vF, hK, hKa, hG, hGT, hN, hsI⟩ := st_facts hts0 hgv
  have hts : ∀ w ∈ wsL_law, w.before #[Value.ref b] s = true := fun w h => hts0 w (wsL_law_in w h)
  have hA : ∀ q : Nat, s.heap.size ≤ q → (fun q : Nat => s.heap.size ≤ q) q := fun _ h => h
  have hS : va_S (fun q : Nat => s.heap.size ≤ q) s.heap s.heap [] := va_S.rf
  have hP : va_P D vwCl [] s.heap := fun k q h => by simp at h
  have hD : va_D (fun q : Nat => s.heap.size ≤ q) [] := ⟨fun i j p q h => by simp at h, fun k q h => by simp at h⟩
  have hl := lv_entry ([.ref b]) (n := 20) (Nat.le_of_ble_eq_true rfl)
  rw [lg_entry_eq]
  generalize (lg_sl ([.ref b]) ++ List.replicate (20 - (lg_sl ([.ref b])).length) Slot.unset).toArray = ls at hl ⊢
  have hl : lv_has ls 20 [(0, .ref b)] := hl
  have w8 : ∀ w ∈ lsW, w.before #[Value.ref b] s = true := fun w h => hts0 w (lsW_in w h)
  refine va_new (ci := 9) (fs := [.null, .null, .null, .null, .null, .int (nI 0)]) hx hb hts0 inX8 tyX8 tyX8_ok hown (w8 _ (List.mem_of_getElem? (i := 0) rfl)) (w8 _ (List.mem_of_getElem? (i := 1) rfl)) (w8 _ (List.mem_of_getElem? (i := 2) rfl)) hK hP hD hS hA rfl (fun j9 h9 => by rcases j9 with _ | _ | _ | _ | _ | _ | j9 <;> first | rfl | omega) (Nat.le_of_ble_eq_true rfl) (Nat.le_of_ble_eq_true rfl) dL_law_0 (fun h H hP hD hS => ?_)
  refine lv_dup hx hb dL_law_3 rfl ?_
  refine va_callv (va_runI (As := []) (rest := [.ref h]) ⟨hx, hb, hml, hown, hts⟩ (ci_X8 l D cI cO cb eA mi st ([] ++ [(h, .inr (9, [.null, .null, .null, .null, .null, .int (nI 0)]))]) hD h (List.mem_append_right _ (List.mem_singleton.mpr rfl))) (cwI 0 hts gL_law_X8_init rfl rfl rfl (w8 _ (List.mem_of_getElem? (i := 2) rfl)) (w8 _ (List.mem_of_getElem? (i := 3) rfl)) (w8 _ (List.mem_of_getElem? (i := 4) rfl)) rfl kd_X8_init ⟨Nat.le_of_ble_eq_true rfl, Nat.le_of_ble_eq_true rfl⟩) ⟨cB_blind, cB_pre hK hG hA hS hP _⟩ rfl rfl hl.1 rfl (lv_room (Nat.le_of_ble_eq_true rfl)) dL_law_4 ⟨Nat.le_of_ble_eq_true rfl, Nat.le_of_ble_eq_true rfl⟩) hS (fun q _ h => h) hA (fun u t H1 locs1 ht hvm hw hB hz1 hk1 hS1 => ?_)
  obtain ⟨pa, r1, r2, r3, r4⟩ := u
  obtain ⟨hD1, hB⟩ := hB
  rw [ht] at hB
  have ez : ((((((wup ([] ++ [(h, .inr (9, [.null, .null, .null, .null, .null, .int (nI 0)]))]) h (.inr (9, [.ref pa, .ref r1, .ref r2, .ref r3, .ref r4, .int (nI 0)]))) ++ [(pa, .inl (cI, 48, .inl (fM1 48)))]) ++ [(r1, eL (nI 0) eA 0)]) ++ [(r2, eL (nI 0) eA 0)]) ++ [(r3, eL (nI 0) eA 0)]) ++ [(r4, eL (nI 0) eA 0)]) = zws cI eA h pa r1 r2 r3 r4 := by simp [wup, zws]
  have hDz : va_D (fun q : Nat => s.heap.size ≤ q) (zws cI eA h pa r1 r2 r3 r4) := by rw [← ez]; exact hD1
  have hPz : va_P D vwCl (zws cI eA h pa r1 r2 r3 r4) H1 := by rw [← ez]; exact hB
  clear hB hD1 ez hS hP hD
  refine lv_astore_n (lv' := [(1, .ref h), (0, .ref b)]) hx hb dL_law_7 rfl hl (by decide) rfl (fun ls hl => ?_)
  refine lv_bipush (v := nI 24) hx hb dL_law_8 (by decide) ?_
  refine c_newi hx hb (w8 _ (List.mem_of_getElem? (i := 5) rfl)) (t0 := 0) hKa rfl hPz hDz hS1 hA (n := 24) (by decide) (Nat.le_of_ble_eq_true rfl) (Nat.le_of_ble_eq_true rfl) dL_law_10 (fun a0 H2 hP0 hD0 hS0 => ?_)
  refine lv_astore_n (lv' := [(2, .ref a0), (1, .ref h), (0, .ref b)]) hx hb dL_law_12 rfl hl (by decide) rfl (fun ls hl => ?_)
  refine lv_iconst (v := nI 2) hx hb dL_law_13 (by decide) ?_
  refine c_newi hx hb (w8 _ (List.mem_of_getElem? (i := 5) rfl)) (t0 := 0) hKa rfl hP0 hD0 hS0 hA (n := 2) (by decide) (Nat.le_of_ble_eq_true rfl) (Nat.le_of_ble_eq_true rfl) dL_law_14 (fun a1 H3 hP1 hD1 hS1 => ?_)
  clear hP0 hD0 hS0
  refine lv_astore_n (lv' := [(3, .ref a1), (2, .ref a0), (1, .ref h), (0, .ref b)]) hx hb dL_law_16 rfl hl (by decide) rfl (fun ls hl => ?_)
  refine lv_iconst (v := nI 4) hx hb dL_law_17 (by decide) ?_
  refine c_newi hx hb (w8 _ (List.mem_of_getElem? (i := 5) rfl)) (t0 := 0) hKa rfl hP1 hD1 hS1 hA (n := 4) (by decide) (Nat.le_of_ble_eq_true rfl) (Nat.le_of_ble_eq_true rfl) dL_law_18 (fun a2 H4 hP2 hD2 hS2 => ?_)
  clear hP1 hD1 hS1
  refine lv_astore (lv' := [(4, .ref a2), (3, .ref a1), (2, .ref a0), (1, .ref h), (0, .ref b)]) hx hb dL_law_20 hl (by decide) rfl (fun ls hl => ?_)
  refine lv_bipush (v := nI 16) hx hb dL_law_22 (by decide) ?_
  refine c_newi hx hb (w8 _ (List.mem_of_getElem? (i := 5) rfl)) (t0 := 0) hKa rfl hP2 hD2 hS2 hA (n := 16) (by decide) (Nat.le_of_ble_eq_true rfl) (Nat.le_of_ble_eq_true rfl) dL_law_24 (fun a3 H5 hP3 hD3 hS3 => ?_)
  clear hP2 hD2 hS2
  refine lv_astore (lv' := [(5, .ref a3), (4, .ref a2), (3, .ref a1), (2, .ref a0), (1, .ref h), (0, .ref b)]) hx hb dL_law_26 hl (by decide) rfl (fun ls hl => ?_)
  refine lv_bipush (v := nI 16) hx hb dL_law_28 (by decide) ?_
  refine c_newi hx hb (w8 _ (List.mem_of_getElem? (i := 5) rfl)) (t0 := 0) hKa rfl hP3 hD3 hS3 hA (n := 16) (by decide) (Nat.le_of_ble_eq_true rfl) (Nat.le_of_ble_eq_true rfl) dL_law_30 (fun a4 H6 hP4 hD4 hS4 => ?_)
  clear hP3 hD3 hS3
  refine lv_astore (lv' := [(6, .ref a4), (5, .ref a3), (4, .ref a2), (3, .ref a1), (2, .ref a0), (1, .ref h), (0, .ref b)]) hx hb dL_law_32 hl (by decide) rfl (fun ls hl => ?_)
  refine lv_bipush (v := nI 16) hx hb dL_law_34 (by decide) ?_
  refine c_newi hx hb (w8 _ (List.mem_of_getElem? (i := 5) rfl)) (t0 := 0) hKa rfl hP4 hD4 hS4 hA (n := 16) (by decide) (Nat.le_of_ble_eq_true rfl) (Nat.le_of_ble_eq_true rfl) dL_law_36 (fun a5 H7 hP5 hD5 hS5 => ?_)
  clear hP4 hD4 hS4
  refine lv_astore (lv' := [(7, .ref a5), (6, .ref a4), (5, .ref a3), (4, .ref a2), (3, .ref a1), (2, .ref a0), (1, .ref h), (0, .ref b)]) hx hb dL_law_38 hl (by decide) rfl (fun ls hl => ?_)
  refine lv_bipush (v := nI 60) hx hb dL_law_40 (by decide) ?_
  refine c_newi hx hb (w8 _ (List.mem_of_getElem? (i := 5) rfl)) (t0 := 0) hKa rfl hP5 hD5 hS5 hA (n := 60) (by decide) (Nat.le_of_ble_eq_true rfl) (Nat.le_of_ble_eq_true rfl) dL_law_42 (fun a6 H8 hP6 hD6 hS6 => ?_)
  clear hP5 hD5 hS5
  refine lv_astore (lv' := [(8, .ref a6), (7, .ref a5), (6, .ref a4), (5, .ref a3), (4, .ref a2), (3, .ref a1), (2, .ref a0), (1, .ref h), (0, .ref b)]) hx hb dL_law_44 hl (by decide) rfl (fun ls hl => ?_)
  refine lv_bipush (v := nI 32) hx hb dL_law_46 (by decide) ?_
  refine c_newi hx hb (w8 _ (List.mem_of_getElem? (i := 5) rfl)) (t0 := 0) hKa rfl hP6 hD6 hS6 hA (n := 32) (by decide) (Nat.le_of_ble_eq_true rfl) (Nat.le_of_ble_eq_true rfl) dL_law_48 (fun a7 H9 hP7 hD7 hS7 => ?_)
  clear hP6 hD6 hS6
  refine lv_astore (lv' := [(9, .ref a7), (8, .ref a6), (7, .ref a5), (6, .ref a4), (5, .ref a3), (4, .ref a2), (3, .ref a1), (2, .ref a0), (1, .ref h), (0, .ref b)]) hx hb dL_law_50 hl (by decide) rfl (fun ls hl => ?_)
  refine lv_bipush (v := nI 32) hx hb dL_law_52 (by decide) ?_
  refine c_newi hx hb (w8 _ (List.mem_of_getElem? (i := 5) rfl)) (t0 := 0) hKa rfl hP7 hD7 hS7 hA (n := 32) (by decide) (Nat.le_of_ble_eq_true rfl) (Nat.le_of_ble_eq_true rfl) dL_law_54 (fun a8 H10 hP8 hD8 hS8 => ?_)
  clear hP7 hD7 hS7
  refine lv_astore (lv' := [(10, .ref a8), (9, .ref a7), (8, .ref a6), (7, .ref a5), (6, .ref a4), (5, .ref a3), (4, .ref a2), (3, .ref a1), (2, .ref a0), (1, .ref h), (0, .ref b)]) hx hb dL_law_56 hl (by decide) rfl (fun ls hl => ?_)
  refine lv_bipush (v := nI 32) hx hb dL_law_58 (by decide) ?_
  refine c_newi hx hb (w8 _ (List.mem_of_getElem? (i := 5) rfl)) (t0 := 0) hKa rfl hP8 hD8 hS8 hA (n := 32) (by decide) (Nat.le_of_ble_eq_true rfl) (Nat.le_of_ble_eq_true rfl) dL_law_60 (fun a9 H11 hP9 hD9 hS9 => ?_)
  clear hP8 hD8 hS8
  refine lv_astore (lv' := [(11, .ref a9), (10, .ref a8), (9, .ref a7), (8, .ref a6), (7, .ref a5), (6, .ref a4), (5, .ref a3), (4, .ref a2), (3, .ref a1), (2, .ref a0), (1, .ref h), (0, .ref b)]) hx hb dL_law_62 hl (by decide) rfl (fun ls hl => ?_)
  refine lv_iconst (v := nI 4) hx hb dL_law_64 (by decide) ?_
  refine c_newi hx hb (w8 _ (List.mem_of_getElem? (i := 5) rfl)) (t0 := 0) hKa rfl hP9 hD9 hS9 hA (n := 4) (by decide) (Nat.le_of_ble_eq_true rfl) (Nat.le_of_ble_eq_true rfl) dL_law_65 (fun a10 H12 hP10 hD10 hS10 => ?_)
  clear hP9 hD9 hS9
  refine lv_astore (lv' := [(12, .ref a10), (11, .ref a9), (10, .ref a8), (9, .ref a7), (8, .ref a6), (7, .ref a5), (6, .ref a4), (5, .ref a3), (4, .ref a2), (3, .ref a1), (2, .ref a0), (1, .ref h), (0, .ref b)]) hx hb dL_law_67 hl (by decide) rfl (fun ls hl => ?_)
  refine lv_bipush (v := nI 7) hx hb dL_law_69 (by decide) ?_
  refine c_newi hx hb (w8 _ (List.mem_of_getElem? (i := 5) rfl)) (t0 := 0) hKa rfl hP10 hD10 hS10 hA (n := 7) (by decide) (Nat.le_of_ble_eq_true rfl) (Nat.le_of_ble_eq_true rfl) dL_law_71 (fun a11 H13 hP11 hD11 hS11 => ?_)
  clear hP10 hD10 hS10
  refine lv_astore (lv' := [(13, .ref a11), (12, .ref a10), (11, .ref a9), (10, .ref a8), (9, .ref a7), (8, .ref a6), (7, .ref a5), (6, .ref a4), (5, .ref a3), (4, .ref a2), (3, .ref a1), (2, .ref a0), (1, .ref h), (0, .ref b)]) hx hb dL_law_73 hl (by decide) rfl (fun ls hl => ?_)
  refine lv_iconst (v := nI 0) hx hb dL_law_75 (by decide) ?_
  refine lv_istore (lv' := [(14, .int (nI 0)), (13, .ref a11), (12, .ref a10), (11, .ref a9), (10, .ref a8), (9, .ref a7), (8, .ref a6), (7, .ref a5), (6, .ref a4), (5, .ref a3), (4, .ref a2), (3, .ref a1), (2, .ref a0), (1, .ref h), (0, .ref b)]) hx hb dL_law_76 hl (by decide) rfl (fun ls hl => ?_)
  have ez : ((((((((((((zws cI eA h pa r1 r2 r3 r4 ++ [(a0, .inl (cI, 24, .inl (fun _ => 0)))]) ++ [(a1, .inl (cI, 2, .inl (fun _ => 0)))]) ++ [(a2, .inl (cI, 4, .inl (fun _ => 0)))]) ++ [(a3, .inl (cI, 16, .inl (fun _ => 0)))]) ++ [(a4, .inl (cI, 16, .inl (fun _ => 0)))]) ++ [(a5, .inl (cI, 16, .inl (fun _ => 0)))]) ++ [(a6, .inl (cI, 60, .inl (fun _ => 0)))]) ++ [(a7, .inl (cI, 32, .inl (fun _ => 0)))]) ++ [(a8, .inl (cI, 32, .inl (fun _ => 0)))]) ++ [(a9, .inl (cI, 32, .inl (fun _ => 0)))]) ++ [(a10, .inl (cI, 4, .inl (fun _ => 0)))]) ++ [(a11, .inl (cI, 7, .inl (fun _ => 0)))]) = zws cI eA h pa r1 r2 r3 r4 ++ aws (adr a0 a1 a2 a3 a4 a5 a6 a7 a8 a9 a10 a11) cI (t_z 0) := by
    rw [z_arrays]
    simp only [List.append_assoc, List.cons_append, List.nil_append]
  rw [ez] at hP11 hD11
  clear ez
  generalize ead : (adr a0 a1 a2 a3 a4 a5 a6 a7 a8 a9 a10 a11) = ad at hP11 hD11
  have hPw : va_P D vwCl (zws cI eA h pa r1 r2 r3 r4) H13 := va_P_l hP11
  have hPa : va_P D vwCl (aws ad cI (t_z 0)) H13 := va_P_r hP11
  have hr0 : va_D (fun q : Nat => s.heap.size ≤ q) (aws ad 0 (fun _ _ => 0)) := my_Dc (va_D_r hD11) rfl
  have hmn : ∀ q : Nat, aA ad q → s.heap.size ≤ q := fun q h9 => by
    obtain ⟨k, y, g1, g2⟩ := h9
    rw [← g2]; exact hr0.2 k y g1
  have hdB : aDis (aA ad) ad := ⟨hr0.1, fun k x hk => ⟨k, x, hk, rfl⟩⟩
  have hDl : va_D (fun q : Nat => s.heap.size ≤ q ∧ ¬ aA ad q) (zws cI eA h pa r1 r2 r3 r4) := ⟨hDz.1, fun k x hk => ⟨hDz.2 k x hk, fun h9 => by
    obtain ⟨j, y, g1, g2⟩ := aws_fst (cI := cI) (T := t_z 0) h9
    exact va_D_apart hD11 hk g1 g2.symm⟩⟩
  have hAn : ∀ q : Nat, ((s.heap.size ≤ q ∧ ¬ aA ad q) ∨ aA ad q) → s.heap.size ≤ q := fun q h9 => h9.elim (fun z => z.1) (hmn q)
  have hG2 : gS eA mi st (fun q : Nat => (s.heap.size ≤ q ∧ ¬ aA ad q) ∨ aA ad q) s s.heap := hG.narrow hAn
  have hGT2 : gT dO dT vF (fun q : Nat => (s.heap.size ≤ q ∧ ¬ aA ad q) ∨ aA ad q) s s.heap := hGT.narrow hAn
  have hS2 : va_S (fun q : Nat => (s.heap.size ≤ q ∧ ¬ aA ad q) ∨ aA ad q) s.heap H13 locs1 := ⟨hS11.1, fun q h1 h2 => hS11.2.1 q h1 (Nat.not_le.mpr h1), fun q hq => (Classical.em (aA ad q.base)).elim Or.inr (fun z => Or.inl ⟨hS11.2.2 q hq, z⟩)⟩
  obtain ⟨hCW, hWF, hRel⟩ := z_start (cO := cO) (st := st) hDl
  have hc : cSt cI cO eA st (fun q : Nat => s.heap.size ≤ q ∧ ¬ aA ad q) h (fun _ _ => 0) (zws cI eA h pa r1 r2 r3 r4) := ⟨fun _ => 0, _, _, _, hCW, hWF, hRel, hDl⟩
  refine W.widen (k := 18) (n := 311) (Nat.le_of_ble_eq_true rfl) (Nat.le_of_ble_eq_true rfl) ?_
  have hl : lv_has ls 20 [(0, .ref b), (1, .ref h), (2, .ref (ad 0)), (3, .ref (ad 1)), (4, .ref (ad 2)), (5, .ref (ad 3)), (6, .ref (ad 4)), (7, .ref (ad 5)), (8, .ref (ad 6)), (9, .ref (ad 7)), (10, .ref (ad 8)), (11, .ref (ad 9)), (12, .ref (ad 10)), (13, .ref (ad 11)), (14, .int (nI 0))] := by rw [← ead]; exact lv_sub hl [14, 13, 12, 11, 10, 9, 8, 7, 6, 5, 4, 3, 2, 1, 0] rfl
  exact law_run l hst D ad cI cO cb eA mi st dO dT vF (A := fun q : Nat => s.heap.size ≤ q ∧ ¬ aA ad q) (B := aA ad) (fun q h9 => h9.2) hsI hdB hx hb hml hown hts hX hbl hL hK hKa hG2 hGT2 hN hAn (fun T H locs hP hS q h9 => ⟨Nat.le_trans hS.1 h9, fun z => absurd (aA_lt hP z) (Nat.not_lt.mpr h9)⟩) (fun H locs cells slots pc ls hS hc hs hdg => by
    refine va_forget (fun q hq => hAn q.base (hS.2.2 q hq)) ?_
    refine W.widen (k := 852110) (n := 6545367) hc hs ?_
    exact lw_ret hx hb hr hlocks hdg) hc (fun f i => Nat.zero_le _) (fun b9 => Nat.zero_le _) (Nat.le_refl 0) lr_start lt_start hPw hPa hS2 ls hl
-- ===== YOUR PART ENDS =====
set_option maxHeartbeats 4000000 in
theorem lw_walk (l : Launch) (hflags : l.flags = flags0) (b : Addr) (xs : List Int32) : MetFree l x (headSpec (Jvm.Cond.code x code maxLocals ret :: tables_1) room_1) (lw_P b xs) (fun _ _ _ _ _ => True) lw_Q := by
  refine MetFree.of_bodyS (code := code) (maxLocals := maxLocals) (ret := ret) (by decide) ?_ ?_
  · intro args s m h hn
    obtain ⟨meth, c, h1, h2, h3, h4, h5, h6, -, -⟩ := Cond.code_spec hn (atoms_spec (ws := Jvm.Cond.code x code maxLocals ret :: tables_1) h _ List.mem_cons_self)
    exact ⟨meth, c, h1, h2, h3, h4, h5, h6⟩
  · intro p e s m args below meth c s₁ B hml0 hP _
    obtain ⟨rfl, hx, hbd, hgv⟩ := hP
    obtain ⟨scr, harrAt, hlist, hof, hsmall⟩ := hx
    obtain ⟨hcb, hkn, -, -⟩ := State.arrayAt?_spec harrAt
    have hown : s.vm.findClass R_law = some m.cls := findClass_of_methodNamed B.named
    have hts0 : ∀ c ∈ (Jvm.Cond.code x code maxLocals ret :: tables_1), c.before #[Value.ref b] s = true := atoms_spec (ws := Jvm.Cond.code x code maxLocals ret :: tables_1) B.pre
    have hts : ∀ w ∈ lw_tbl, w.before #[Value.ref b] s = true := k2_hts_sels lw_privs (fun w hw => hts0 w (List.mem_cons_of_mem _ hw)) lw_privs_ok
    have hml : c.maxLocals = 20 := B.maxLocals_eq (hts0 _ List.mem_cons_self)
    have X₀ : Stand p l e room_1 s m #[Value.ref b] below meth c s₁ [] 0 0 := Stand.of_body B
    have hh0 : s₁.heap = s.heap := by rw [B.state]; rfl
    have hsz : scr.slots.size = xs.length := by rw [← Array.length_toList, hlist, List.length_map]
    have hval : ∀ j : Nat, j < xs.length → scr.slots[j]? = some (.int (xs.getD j 0)) := fun j hj => by
      rw [← Array.getElem?_toList, hlist]
      simp [hj]
    have hbl : b < s.heap.size := (Array.getElem?_eq_some_iff.mp hcb).1
    have hX : va_X b xs.length (fun j => xs.getD j 0) s s.heap := ⟨scr, hcb, hof, hkn, hsz, hval⟩
    have K : W p l e room_1 s m #[Value.ref b] below meth c s₁.heap [] 0 0 (lw_Z below #[Value.ref b] s) (entryFrame m ([Value.ref b] : List Value).toArray 20) := by
      rw [hh0]
      exact whole_start l hflags hbd ⟨B.exec, B.bytes, B.returns, hml, hown, hts, hX, hbl, B.notSynchronized, hgv⟩
    obtain ⟨t, a1, o, b1, b2, b3⟩ := K s₁ rfl X₀
    exact ⟨t, o, a1, b1, b2, b3⟩
theorem lw_pre_spec {args : Array Value} {s : State} (h : (Jvm.Cond.and given_1 narrow_1).before args s = true) (hr : rest_1_c.before args s = true) : ∃ (b : Addr) (xs : List Int32), lw_P b xs args s := by
  have hs := flat_of_before _ h
  have hq := flat_of_before _ hr
  have hc : (Cond.count 1).before args s = true := hs _ (by decide +kernel)
  have harr : (Cond.arrayOf (.arg 0) .int).before args s = true := hs _ (by decide +kernel)
  have hle : (Cond.le (.length (.arg 0)) (.int 260)).before args s = true := hs _ (by decide +kernel)
  have hlen : (Cond.isInt (.length (.arg 0))).before args s = true := hq _ (by decide +kernel)
  have hall : (Cond.all (.arg 0) (.isInt (.elem (.arg 0) (.index 0)))).before args s = true := hq _ (by decide +kernel)
  obtain ⟨b, xs, hb, hx⟩ := State.ints_of_pre rfl harr hlen hall
  have hsm : xs.length < 2 ^ 31 := hx.choose_spec.2.2.2
  have hev : (Term.length (.arg 0)).eval args s none [] s = some (.int xs.length.toInt32) := hx.length_eval hb
  have hv := Cond.le_ints hev (show (Term.int 260).eval args s none [] s = some (.int 260) from rfl)
  have hd : xs.length.toInt32 ≤ 260 := by
    simpa [Cond.before, Cond.holds, hv] using hle
  have hN : xs.length ≤ 260 := (Int32.ofNat_le_ofNat hsm (by decide)).mp (show Int32.ofNat xs.length ≤ Int32.ofNat 260 from hd)
  exact ⟨b, xs, Cond.one_arg hc (show args[0]? = some (.ref b) from hb), hx, hN, h⟩
theorem lw_comes (l : Launch) (hflags : l.flags = flags0) : Comes l x (Jvm.Cond.code x code maxLocals ret :: tables_1) room_1 (fun tb e args s => Calls_1 tb e args s ∧ rest_1 tb e args s ∧ Pre_1 tb e args s)
    (fun _ _ args s o t => lw_Q args s o t) := by
  intro p e ha hc hk s m args below hf hfit hheap happ hpre
  obtain ⟨b, xs, hP⟩ := lw_pre_spec hpre.2.2 hpre.2.1
  obtain ⟨k, o, h1, h2, h3, hQ⟩ := lw_walk l hflags b xs p e ha hc hk s m args below hf ((Spec.applies_iff_loose hf).mp happ).1 hP trivial
  exact ⟨k, o, h1, h2, h3, hQ⟩
theorem lw_frame {s t : State} {o : Outcome} {args : Array Value} (h : Framed s o t [] 852110 6545367) :
    Framed s o t (fieldLocs frame_1_writes args s ++ arrayLocs frame_1_arrays args s ++ staticLocs frame_1_statics s) 852110 6545367 := h
theorem lw_limb (L : Cond) (hL : ∀ (args : Array Value) (s t : State), L.after args s (.returned (some (.int 1))) t = true) :
    ArmFor flags0 classFile x code maxLocals ret World_1 tables_1 room_1 Calls_1 rest_1 Pre_1
      (fun tb e a s o t => postC L tb e a s o t ∧ Framed s o t (fieldLocs frame_1_writes a s ++ arrayLocs frame_1_arrays a s ++ staticLocs frame_1_statics s) 852110 6545367) := by
  intro l hflags _ _ p e ha hc hk s m args below hf hfit hheap happ hpre
  obtain ⟨k, o, h1, h2, h3, rfl, hF⟩ := lw_comes l hflags p e ha hc hk s m args below hf hfit hheap happ hpre
  exact ⟨k, _, h1, h2, h3, hL args s _, lw_frame hF⟩
theorem i_vc : Claimed_1_1 ∧ Claimed_1_2 := ⟨lw_limb limb_1_1 (fun args s t => by simp [limb_1_1, Cond.after, Cond.holds, Cond.value]), lw_limb limb_1_2 (fun args s t => Cond.after_iff.mpr (by
  first | (rw [show limb_1_2 = Cond.eq .result (.int 1) from rfl, Cond.eq_ints (x := 1) (y := 1) rfl rfl]; simp; done) | (simp [limb_1_2, Cond.value, Term.eval]; done)))⟩
