/-! the law's start: what the tables and the premises say -/
section
variable {p : Program} {l : Launch} {e : Env} {R : Room} {s : State} {m : MethodId} {args : Array Value} {below : List Frame} {meth : Method} {c : Code} {H H0 : Heap} {locs : List Loc} {cells slots : Nat} {Q : State → Prop}
variable {cc : ByteArray} {pc : Nat} {ls : Array Slot} {rest : List Value} {D : va_G} {A : Nat → Prop} {tys : List (ClassId × FieldType)} {ws : va_W}
theorem c_newl (hx : p.tables.exec = Jvm.exec) (hb : c.code = cc) (harr : (Cond.arrayClass .long).before args s = true) {t0 : Nat} {cJ : ClassId} (hK : va_K D vwCl tys s) (ht : tys[t0]? = some (cJ, .long)) (hP : va_P D vwCl ws H) (hD : va_D A ws) (hS : va_S A H0 H locs) (hA : ∀ q, H0.size ≤ q → A q)
    {n : Nat} (hn : n ≤ 1000) (hcells : cells + 1 ≤ R.cells) (hslots : slots + n ≤ R.slots) (hdg : decode cc pc = .ok (.newarray .long, 2))
    (kk : ∀ (q : Nat) (H1 : Heap), va_P D vwCl (ws ++ [(q, .inl (cJ, n, .inr (.inl (fun _ => 0))))]) H1 → va_D A (ws ++ [(q, .inl (cJ, n, .inr (.inl (fun _ => 0))))]) → va_S A H0 H1 locs → W p l e R s m args below meth c H1 locs (cells + 1) (slots + n) Q (F0 m (pc + 2) ls (.ref q :: rest))) : W p l e R s m args below meth c H locs cells slots Q (F0 m pc ls (.int (nI n) :: rest)) := by
  refine va_newa (atype := .long) (ty := .long) (a0 := (n, .inr (.inl (fun _ => 0)))) hx hb harr rfl hK hP hD hS hA (fun cA => rfl) (nI_pos (by omega)) (nI_clamp (by omega)) (by show n * 8 ≤ _; omega) hcells hslots hdg (fun q cA H1 g0 g1 g2 g3 => ?_)
  have k1 := (g0.2 tys.length _ (by rw [List.getElem?_append_right (Nat.le_refl _), Nat.sub_self]; rfl)).2
  have k2 := (hK.2 t0 _ ht).2
  have k3 : s.vm.findClass ("[" ++ (FieldType.long).toString) = some cA := k1
  have k4 : s.vm.findClass ("[" ++ (FieldType.long).toString) = some cJ := k2
  obtain rfl : cA = cJ := Option.some.inj (k3.symm.trans k4)
  exact kk q H1 g1 g2 g3
end
theorem arr_K {args : Array Value} {s : State} {ty : FieldType} (h : (Cond.arrayClass ty).before args s = true) : ∃ cA : ClassId, ArrOfT s cA ty ∧ s.vm.findClass ("[" ++ ty.toString) = some cA := by
  obtain ⟨c, k, comp, h1, h2, h3⟩ := Cond.arrayClass_spec h
  exact ⟨c, fun N z => ⟨(fun k h => by cases h), k, h2, comp, h3⟩, h1⟩
theorem arr_O {args : Array Value} {s : State} (h : (Cond.arrayOver (.object "java/lang/Object")).before args s = true) : ∃ cA : ClassId, ArrOfT s cA (.object "java/lang/Object") ∧ va_RA s cA (.object "java/lang/Object") := by
  obtain ⟨comp, c, k, h1, h2, h3, h4, h5⟩ := Cond.arrayOver_spec h
  exact ⟨c, fun N z => ⟨(fun k h => by cases h), k, h3, comp, h4⟩, k, comp, h3, h4, h1, h5⟩
theorem st_ne {args : Array Value} {s : State} {X Y : Term} {a b : Nat} (h : (Cond.not (.eq X Y)).before args s = true) (hx : X.eval args s none [] s = some (.ref a)) (hy : Y.eval args s none [] s = some (.ref b)) : a ≠ b := by
  rintro rfl
  simp [Cond.before, Cond.holds, Cond.value, hx, hy] at h
theorem cl_all {s : State} (h : ∀ (k : Nat) (q : vw_C), vwCl[k]? = some q → ∃ (cC : ClassId) (iS : Nat → Nat), u_Kn s q.1 q.2.1 q.2.2 cC iS) : ∃ D : va_G, ∀ (k : Nat) (q : vw_C), vwCl[k]? = some q → u_Kn s q.1 q.2.1 q.2.2 (D.1 k) (D.2 k) := by
  have f : ∀ k : Nat, ∃ (cC : ClassId) (iS : Nat → Nat), ∀ q : vw_C, vwCl[k]? = some q → u_Kn s q.1 q.2.1 q.2.2 cC iS := fun k => by
    rcases hk : vwCl[k]? with _ | q
    · exact ⟨0, fun _ => 0, fun q hq => by cases hq⟩
    · obtain ⟨x, y, z⟩ := h k q hk
      exact ⟨x, y, fun q2 h2 => by obtain rfl : q = q2 := Option.some.inj h2; exact z⟩
  exact ⟨(fun k => Classical.choose (f k), fun k => Classical.choose (Classical.choose_spec (f k))), fun k q hq => Classical.choose_spec (Classical.choose_spec (f k)) q hq⟩
def stW : List Cond := [.instantiable RJ4 4, .instantiable RJx4a65c 3, .instantiable RX0 7, .instantiable RX1 6, .instantiable RX2 3, .instantiable RX3 6, .instantiable RX4 2, .instantiable RX5 5, .instantiable RX7 6, .instantiable RX8 6, .instantiable RX9 35, .arrayClass .int, .arrayClass .byte, .arrayClass .boolean, .arrayClass .char, .arrayClass .long, .arrayOver (.object "java/lang/Object"), .laysStatic Bundle.tN "UNASSIGNED_STACK" Bundle.steD, .initialized Bundle.tN, .laysStatic Bundle.tN "SUPPRESSED_SENTINEL" Bundle.listD, .laysStatic "java/util/ArrayList" "DEFAULTCAPACITY_EMPTY_ELEMENTDATA" "[Ljava/lang/Object;", .initialized "java/util/ArrayList", .laysStatic RX6 "SEALED" "LTenderHall$Status;", .initialized RX6, .laysStatic RX6 "IN" "LTenderHall$Status;", .laysStatic RX6 "LACKS_PAPERS" "LTenderHall$Status;", .laysStatic RX6 "OUT_FOR_GOOD" "LTenderHall$Status;", .laysStatic "java/lang/String" "COMPACT_STRINGS" "Z", .initialized "java/lang/String", .laysStatic "java/lang/Integer" "DigitOnes" "[B", .initialized "java/lang/Integer", .laysStatic "java/lang/Integer" "DigitTens" "[B", .laysStatic "jdk/internal/util/Preconditions" "SIOOBE_FORMATTER" "Ljava/util/function/BiFunction;", .initialized "jdk/internal/util/Preconditions"]
theorem stW_in : ∀ w ∈ stW, w ∈ lw_tbl3 := by decide +kernel
def nW : List Cond := [.arrayOf (.static "java/util/ArrayList" "DEFAULTCAPACITY_EMPTY_ELEMENTDATA" "[Ljava/lang/Object;") (.object "java/lang/Object"), .eq (.length (.static "java/util/ArrayList" "DEFAULTCAPACITY_EMPTY_ELEMENTDATA" "[Ljava/lang/Object;")) (.int 0), .isRef (.mirror "[Ljava/lang/Object;"), .exactly (.static RX6 "SEALED" "LTenderHall$Status;") RX6, .exactly (.static RX6 "IN" "LTenderHall$Status;") RX6, .exactly (.static RX6 "LACKS_PAPERS" "LTenderHall$Status;") RX6, .exactly (.static RX6 "OUT_FOR_GOOD" "LTenderHall$Status;") RX6, .not (.eq (.static RX6 "SEALED" "LTenderHall$Status;") (.static RX6 "IN" "LTenderHall$Status;")), .not (.eq (.static RX6 "SEALED" "LTenderHall$Status;") (.static RX6 "LACKS_PAPERS" "LTenderHall$Status;")), .not (.eq (.static RX6 "SEALED" "LTenderHall$Status;") (.static RX6 "OUT_FOR_GOOD" "LTenderHall$Status;")), .not (.eq (.static RX6 "IN" "LTenderHall$Status;") (.static RX6 "LACKS_PAPERS" "LTenderHall$Status;")), .not (.eq (.static RX6 "IN" "LTenderHall$Status;") (.static RX6 "OUT_FOR_GOOD" "LTenderHall$Status;")), .not (.eq (.static RX6 "LACKS_PAPERS" "LTenderHall$Status;") (.static RX6 "OUT_FOR_GOOD" "LTenderHall$Status;")), .arrayOf (.static "java/lang/Integer" "DigitOnes" "[B") .byte, .eq (.length (.static "java/lang/Integer" "DigitOnes" "[B")) (.int 100), .arrayOf (.static "java/lang/Integer" "DigitTens" "[B") .byte, .eq (.length (.static "java/lang/Integer" "DigitTens" "[B")) (.int 100), .isRef (.static "jdk/internal/util/Preconditions" "SIOOBE_FORMATTER" "Ljava/util/function/BiFunction;"), .isRef (.static Bundle.tN "UNASSIGNED_STACK" Bundle.steD), .isRef (.static Bundle.tN "SUPPRESSED_SENTINEL" Bundle.listD), .eq (.static "java/lang/String" "COMPACT_STRINGS" "Z") (.int 1), .not (.castable "java/lang/IllegalArgumentException" "java/lang/IndexOutOfBoundsException"), .not (.castable "java/lang/IllegalStateException" "java/lang/IndexOutOfBoundsException"), .not (.castable "java/lang/IllegalStateException" "java/lang/IllegalArgumentException")]
theorem nW_in : ∀ w ∈ nW, w ∈ flatC (Jvm.Cond.and given_1 narrow_1) := by decide +kernel
theorem nD1a : ((flatC (Jvm.Cond.and given_1 narrow_1)).drop 32).take 100 = (List.range 100).map (fun j => Cond.eq (.elem (.static "java/lang/Integer" "DigitOnes" "[B") (.int (Int32.ofNat j))) (.int (nI (48 + j % 10)))) := by decide +kernel
theorem nD1 : ∀ j : Nat, j < 100 → Cond.eq (.elem (.static "java/lang/Integer" "DigitOnes" "[B") (.int (Int32.ofNat j))) (.int (nI (48 + j % 10))) ∈ flatC (Jvm.Cond.and given_1 narrow_1) := fun j hj => List.mem_of_mem_drop (List.mem_of_mem_take (by rw [nD1a]; exact List.mem_map.mpr ⟨j, List.mem_range.mpr hj, rfl⟩))
theorem nD2a : ((flatC (Jvm.Cond.and given_1 narrow_1)).drop 135).take 100 = (List.range 100).map (fun j => Cond.eq (.elem (.static "java/lang/Integer" "DigitTens" "[B") (.int (Int32.ofNat j))) (.int (nI (48 + j / 10)))) := by decide +kernel
theorem nD2 : ∀ j : Nat, j < 100 → Cond.eq (.elem (.static "java/lang/Integer" "DigitTens" "[B") (.int (Int32.ofNat j))) (.int (nI (48 + j / 10))) ∈ flatC (Jvm.Cond.and given_1 narrow_1) := fun j hj => List.mem_of_mem_drop (List.mem_of_mem_take (by rw [nD2a]; exact List.mem_map.mpr ⟨j, List.mem_range.mpr hj, rfl⟩))
def lsW : List Cond := [.classLink RL 8 RX8, .instantiable RX8 6, .initialized RX8, .methodLink RL 105 yX8_init, .instanceMethod yX8_init, .classLink RL 106 RX9, .instantiable RX9 35, .initialized RX9, .methodLink RL 108 yX9_init, .instanceMethod yX9_init, .arrayClass .long]
theorem lsW_in : ∀ w ∈ lsW, w ∈ lw_tbl3 := by decide +kernel
theorem cXc : ∀ q ∈ gXc, Cond.castable q.1 q.2 ∈ lw_tbl3 := by decide +kernel
theorem cXd : ∀ y ∈ gXd, Cond.declares y ∈ lw_tbl3 := by decide +kernel
set_option maxHeartbeats 4000000 in
theorem st_facts {s : State} {b : Nat} (hts : ∀ w ∈ lw_tbl3, w.before #[Value.ref b] s = true) (hgv : (Jvm.Cond.and given_1 narrow_1).before #[Value.ref b] s = true) : ∃ (D : va_G) (cI cO cb cZ cC cJ : ClassId) (eA mi : Nat) (st : Nat → Nat) (dO dT : Nat) (vF : Value), va_K D vwCl (cty cI cO cb) s ∧ va_K D vwCl (mty cI cZ cC) s ∧ va_K D vwCl [(cJ, .long)] s ∧ gS eA mi st (fun q => s.heap.size ≤ q) s s.heap ∧ gT dO dT vF (fun q => s.heap.size ≤ q) s s.heap ∧ lNc s ∧ sInj st := by
  have hq := flat_of_before _ hgv
  have W1 : ∀ (k : Nat) (w : Cond), stW[k]? = some w → w.before #[Value.ref b] s = true := fun k w h => hts w (stW_in w (List.mem_of_getElem? h))
  have N1 : ∀ (k : Nat) (w : Cond), nW[k]? = some w → w.before #[Value.ref b] s = true := fun k w h => hq w (nW_in w (List.mem_of_getElem? h))
  have hA : ∀ a : Nat, a < s.heap.size → ¬ (fun q : Nat => s.heap.size ≤ q) a := fun a h => Nat.not_le.mpr h
  obtain ⟨D, hcl⟩ := cl_all (s := s) (fun k q hk => by
    match k, hk with
    | 0, hk => cases hk; exact u_known hts inJ4 (W1 0 _ rfl)
    | 1, hk => cases hk; exact u_known hts inJx4a65c (W1 1 _ rfl)
    | 2, hk => cases hk; exact u_known hts inX0 (W1 2 _ rfl)
    | 3, hk => cases hk; exact u_known hts inX1 (W1 3 _ rfl)
    | 4, hk => cases hk; exact u_known hts inX2 (W1 4 _ rfl)
    | 5, hk => cases hk; exact u_known hts inX3 (W1 5 _ rfl)
    | 6, hk => cases hk; exact u_known hts inX4 (W1 6 _ rfl)
    | 7, hk => cases hk; exact u_known hts inX5 (W1 7 _ rfl)
    | 8, hk => cases hk; exact u_known hts inX7 (W1 8 _ rfl)
    | 9, hk => cases hk; exact u_known hts inX8 (W1 9 _ rfl)
    | 10, hk => cases hk; exact u_known hts inX9 (W1 10 _ rfl)
    | n + 11, hk => simp [vwCl] at hk)
  obtain ⟨cI, aI, fI⟩ := arr_K (W1 11 _ rfl)
  obtain ⟨cb, aB, fB⟩ := arr_K (W1 12 _ rfl)
  obtain ⟨cZ, aZ, fZ⟩ := arr_K (W1 13 _ rfl)
  obtain ⟨cC, aC, fC⟩ := arr_K (W1 14 _ rfl)
  obtain ⟨cJ, aJ, fJ⟩ := arr_K (W1 15 _ rfl)
  obtain ⟨cO, aO⟩ := arr_O (W1 16 _ rfl)
  obtain ⟨eA, hEv, hET⟩ := va_Tof (N := 0) (f := fun _ => .null) (A := fun q => s.heap.size ≤ q) (by decide) (N1 0 _ rfl) (va_eqt (N1 1 _ rfl)) (fun j hj => absurd hj (Nat.not_lt_zero j)) hA
  obtain ⟨mi, hmi⟩ := va_Mi.of (N1 2 _ rfl)
  obtain ⟨a0, _, _, _, e0, -⟩ := Cond.exactly_spec (N1 3 _ rfl)
  obtain ⟨a1, _, _, _, e1, -⟩ := Cond.exactly_spec (N1 4 _ rfl)
  obtain ⟨a2, _, _, _, e2, -⟩ := Cond.exactly_spec (N1 5 _ rfl)
  obtain ⟨a3, _, _, _, e3, -⟩ := Cond.exactly_spec (N1 6 _ rfl)
  have d01 := st_ne (N1 7 _ rfl) e0 e1
  have d02 := st_ne (N1 8 _ rfl) e0 e2
  have d03 := st_ne (N1 9 _ rfl) e0 e3
  have d12 := st_ne (N1 10 _ rfl) e1 e2
  have d13 := st_ne (N1 11 _ rfl) e1 e3
  have d23 := st_ne (N1 12 _ rfl) e2 e3
  obtain ⟨dO, hOv, hOT⟩ := va_Tof (N := 100) (f := fun i => .int (nI (48 + i % 10))) (A := fun q => s.heap.size ≤ q) (by decide) (N1 13 _ rfl) (va_eqt (N1 14 _ rfl)) (fun j hj => va_eqt (hq _ (nD1 j hj))) hA
  obtain ⟨dT, hTv, hTT⟩ := va_Tof (N := 100) (f := fun i => .int (nI (48 + i / 10))) (A := fun q => s.heap.size ≤ q) (by decide) (N1 15 _ rfl) (va_eqt (N1 16 _ rfl)) (fun j hj => va_eqt (hq _ (nD2 j hj))) hA
  obtain ⟨vF, hFv, hFr⟩ := Cond.isRef_spec (N1 17 _ rfl)
  have hvF : vF = .null ∨ ∃ r, vF = .ref r := by cases vF <;> simp [Value.isRef] at hFr ⊢
  have hK : va_K D vwCl (cty cI cO cb) s := ⟨hcl, fun k q hk => by
    match k, hk with
    | 0, hk => cases hk; exact ⟨aI, fI⟩
    | 1, hk => cases hk; exact aO
    | 2, hk => cases hk; exact ⟨aB, fB⟩
    | n + 3, hk => simp at hk⟩
  have hKm : va_K D vwCl (mty cI cZ cC) s := ⟨hcl, fun k q hk => by
    match k, hk with
    | 0, hk => cases hk; exact ⟨aI, fI⟩
    | 1, hk => cases hk; exact ⟨aZ, fZ⟩
    | 2, hk => cases hk; exact ⟨aC, fC⟩
    | n + 3, hk => simp at hk⟩
  have hKJ : va_K D vwCl [(cJ, .long)] s := ⟨hcl, fun k q hk => by
    match k, hk with
    | 0, hk => cases hk; exact ⟨aJ, fJ⟩
    | n + 1, hk => simp at hk⟩
  have hG : gS eA mi (fun i => if i = 0 then a0 else if i = 1 then a1 else if i = 2 then a2 else a3) (fun q => s.heap.size ≤ q) s s.heap := ⟨vx_Zqof (W1 17 _ rfl) (W1 18 _ rfl) (N1 18 _ rfl) hA, vx_Zqof (W1 19 _ rfl) (W1 18 _ rfl) (N1 19 _ rfl) hA, va_Zref (W1 20 _ rfl) (W1 21 _ rfl) hEv hA, hET, va_AO.of (W1 16 _ rfl), hmi, ⟨fun q h9 => va_tabs (u := s) rfl rfl (hts _ (cXc q h9)), fun y h9 => va_tabs (u := s) rfl rfl (hts _ (cXd y h9))⟩, va_Zref (W1 22 _ rfl) (W1 23 _ rfl) e0 hA, va_Zref (W1 24 _ rfl) (W1 23 _ rfl) e1 hA, va_Zref (W1 25 _ rfl) (W1 23 _ rfl) e2 hA, va_Zref (W1 26 _ rfl) (W1 23 _ rfl) e3 hA⟩
  have hGT : gT dO dT vF (fun q => s.heap.size ≤ q) s s.heap := ⟨va_Zof (W1 27 _ rfl) (W1 28 _ rfl) (va_eqi (N1 20 _ rfl)) hA, va_Zref (W1 29 _ rfl) (W1 30 _ rfl) hOv hA, va_Zref (W1 31 _ rfl) (W1 30 _ rfl) hTv hA, hOT, hTT, va_Zof (W1 32 _ rfl) (W1 33 _ rfl) hFv hA, hvF⟩
  have hN : lNc s := ⟨va_Nc.of (N1 21 _ rfl), va_Nc.of (N1 22 _ rfl), va_Nc.of (N1 23 _ rfl)⟩
  refine ⟨D, cI, cO, cb, cZ, cC, cJ, eA, mi, (fun i => if i = 0 then a0 else if i = 1 then a1 else if i = 2 then a2 else a3), dO, dT, vF, hK, hKm, hKJ, hG, hGT, hN, fun i j hi hj h9 => ?_⟩
  rcases (show i = 0 ∨ i = 1 ∨ i = 2 ∨ i = 3 by omega) with rfl | rfl | rfl | rfl <;> rcases (show j = 0 ∨ j = 1 ∨ j = 2 ∨ j = 3 by omega) with rfl | rfl | rfl | rfl <;> first | rfl | exact absurd h9 d01 | exact absurd h9 d02 | exact absurd h9 d03 | exact absurd h9 d12 | exact absurd h9 d13 | exact absurd h9 d23 | exact absurd h9.symm d01 | exact absurd h9.symm d02 | exact absurd h9.symm d03 | exact absurd h9.symm d12 | exact absurd h9.symm d13 | exact absurd h9.symm d23
theorem va_D_cat {A B : Nat → Prop} {w1 w2 : va_W} (h1 : va_D A w1) (h2 : va_D B w2) (hBA : ∀ q, B q → A q) (hd : ∀ x ∈ w1, ¬ B x.1) : va_D A (w1 ++ w2) := by
  have key : ∀ {k : Nat} {q : Nat × va_E}, (w1 ++ w2)[k]? = some q → (k < w1.length ∧ w1[k]? = some q) ∨ (w1.length ≤ k ∧ w2[k - w1.length]? = some q) := fun {k q} hk => by
    by_cases h : k < w1.length
    · rw [List.getElem?_append_left h] at hk; exact Or.inl ⟨h, hk⟩
    · rw [List.getElem?_append_right (by omega)] at hk; exact Or.inr ⟨by omega, hk⟩
  refine ⟨fun i j q1 q2 hi hj e => ?_, fun k q hk => ?_⟩
  · rcases key hi with ⟨a1, b1⟩ | ⟨a1, b1⟩ <;> rcases key hj with ⟨a2, b2⟩ | ⟨a2, b2⟩
    · exact h1.1 i j q1 q2 b1 b2 e
    · exact absurd (by rw [e]; exact h2.2 _ q2 b2) (hd q1 (List.mem_of_getElem? b1))
    · exact absurd (by rw [← e]; exact h2.2 _ q1 b1) (hd q2 (List.mem_of_getElem? b2))
    · have := h2.1 _ _ q1 q2 b1 b2 e
      omega
  · rcases key hk with ⟨-, b1⟩ | ⟨-, b1⟩
    · exact h1.2 k q b1
    · exact hBA _ (h2.2 _ q b1)
/-! the first state -/
def zws (cI : ClassId) (eA h pa r1 r2 r3 r4 : Nat) : va_W := [(h, .inr (9, [.ref pa, .ref r1, .ref r2, .ref r3, .ref r4, .int (nI 0)])), (pa, .inl (cI, 48, .inl (fM1 48))), (r1, eL (nI 0) eA 0), (r2, eL (nI 0) eA 0), (r3, eL (nI 0) eA 0), (r4, eL (nI 0) eA 0)]
def kz (h pa r1 r2 r3 r4 a : Nat) : Nat := if a = h then 9 else if a = pa then 11 else if a = r1 then 28 else if a = r2 then 22 else if a = r3 then 25 else if a = r4 then 26 else 0
def Fz (h pa r1 r2 r3 r4 f a : Nat) : Nat := if a = h then (if f = 0 then pa else if f = 1 then r1 else if f = 2 then r2 else if f = 3 then r3 else if f = 4 then r4 else 0) else if a = pa then (if f < 48 then 0 else 1) else 0
theorem rg_out {k f : Nat} (h : k = 0 ∨ 20 ≤ k) : rg k f = 0 := by
  unfold rg
  split <;> first | rfl | omega
theorem rk_out {k f : Nat} (h : k = 0 ∨ 20 ≤ k) : rk k f = 0 := by
  unfold rk
  split <;> first | rfl | omega
theorem z_start {cI cO : ClassId} {eA : Nat} {st : Nat → Nat} {A : Nat → Prop} {h pa r1 r2 r3 r4 : Nat} (hD : va_D A (zws cI eA h pa r1 r2 r3 r4)) : CW cI cO eA st (fun _ => 0) (kz h pa r1 r2 r3 r4) (Fz h pa r1 r2 r3 r4) (fun _ => []) (zws cI eA h pa r1 r2 r3 r4) ∧ WF (kz h pa r1 r2 r3 r4) (Fz h pa r1 r2 r3 r4) (fun _ => []) ∧ Rel (kz h pa r1 r2 r3 r4) (Fz h pa r1 r2 r3 r4) (fun _ => []) h (fun _ _ => 0) := by
  have ne : ∀ (i j : Nat) (x y : Nat × va_E), (zws cI eA h pa r1 r2 r3 r4)[i]? = some x → (zws cI eA h pa r1 r2 r3 r4)[j]? = some y → i ≠ j → x.1 ≠ y.1 := fun i j x y hi hj hn e => hn (hD.1 i j x y hi hj e)
  have n10 : pa ≠ h := ne 1 0 _ _ rfl rfl (by decide)
  have n20 : r1 ≠ h := ne 2 0 _ _ rfl rfl (by decide)
  have n21 : r1 ≠ pa := ne 2 1 _ _ rfl rfl (by decide)
  have n30 : r2 ≠ h := ne 3 0 _ _ rfl rfl (by decide)
  have n31 : r2 ≠ pa := ne 3 1 _ _ rfl rfl (by decide)
  have n32 : r2 ≠ r1 := ne 3 2 _ _ rfl rfl (by decide)
  have n40 : r3 ≠ h := ne 4 0 _ _ rfl rfl (by decide)
  have n41 : r3 ≠ pa := ne 4 1 _ _ rfl rfl (by decide)
  have n42 : r3 ≠ r1 := ne 4 2 _ _ rfl rfl (by decide)
  have n43 : r3 ≠ r2 := ne 4 3 _ _ rfl rfl (by decide)
  have n50 : r4 ≠ h := ne 5 0 _ _ rfl rfl (by decide)
  have n51 : r4 ≠ pa := ne 5 1 _ _ rfl rfl (by decide)
  have n52 : r4 ≠ r1 := ne 5 2 _ _ rfl rfl (by decide)
  have n53 : r4 ≠ r2 := ne 5 3 _ _ rfl rfl (by decide)
  have n54 : r4 ≠ r3 := ne 5 4 _ _ rfl rfl (by decide)
  have kh : kz h pa r1 r2 r3 r4 h = 9 := if_pos rfl
  have kp : kz h pa r1 r2 r3 r4 pa = 11 := by unfold kz; rw [if_neg n10, if_pos rfl]
  have k1 : kz h pa r1 r2 r3 r4 r1 = 28 := by unfold kz; rw [if_neg n20, if_neg n21, if_pos rfl]
  have k2 : kz h pa r1 r2 r3 r4 r2 = 22 := by unfold kz; rw [if_neg n30, if_neg n31, if_neg n32, if_pos rfl]
  have k3 : kz h pa r1 r2 r3 r4 r3 = 25 := by unfold kz; rw [if_neg n40, if_neg n41, if_neg n42, if_neg n43, if_pos rfl]
  have k4 : kz h pa r1 r2 r3 r4 r4 = 26 := by unfold kz; rw [if_neg n50, if_neg n51, if_neg n52, if_neg n53, if_neg n54, if_pos rfl]
  have kc : ∀ a, a = h ∨ a = pa ∨ a = r1 ∨ a = r2 ∨ a = r3 ∨ a = r4 ∨ kz h pa r1 r2 r3 r4 a = 0 := fun a => by
    by_cases c0 : a = h
    · exact Or.inl c0
    by_cases c1 : a = pa
    · exact Or.inr (Or.inl c1)
    by_cases c2 : a = r1
    · exact Or.inr (Or.inr (Or.inl c2))
    by_cases c3 : a = r2
    · exact Or.inr (Or.inr (Or.inr (Or.inl c3)))
    by_cases c4 : a = r3
    · exact Or.inr (Or.inr (Or.inr (Or.inr (Or.inl c4))))
    by_cases c5 : a = r4
    · exact Or.inr (Or.inr (Or.inr (Or.inr (Or.inr (Or.inl c5)))))
    refine Or.inr (Or.inr (Or.inr (Or.inr (Or.inr (Or.inr ?_)))))
    unfold kz
    rw [if_neg c0, if_neg c1, if_neg c2, if_neg c3, if_neg c4, if_neg c5]
  have fh : ∀ f, Fz h pa r1 r2 r3 r4 f h = if f = 0 then pa else if f = 1 then r1 else if f = 2 then r2 else if f = 3 then r3 else if f = 4 then r4 else 0 := fun f => if_pos rfl
  have fp : ∀ f, Fz h pa r1 r2 r3 r4 f pa = if f < 48 then 0 else 1 := fun f => by unfold Fz; rw [if_neg n10, if_pos rfl]
  have f0 : Fz h pa r1 r2 r3 r4 0 h = pa := fh 0
  have f1 : Fz h pa r1 r2 r3 r4 1 h = r1 := fh 1
  have f2 : Fz h pa r1 r2 r3 r4 2 h = r2 := fh 2
  have f3 : Fz h pa r1 r2 r3 r4 3 h = r3 := fh 3
  have f4 : Fz h pa r1 r2 r3 r4 4 h = r4 := fh 4
  have f5 : Fz h pa r1 r2 r3 r4 5 h = 0 := fh 5
  refine ⟨⟨fun a g0 g2 => ?_, fun a g2 => ?_⟩, ⟨fun a f => ?_, fun a f => ?_, fun a g2 => ?_⟩, ?_⟩
  · rcases kc a with rfl | rfl | rfl | rfl | rfl | rfl | e
    · rw [kh]
      show (a, (.inr (9, [.ref (Fz a pa r1 r2 r3 r4 0 a), .ref (Fz a pa r1 r2 r3 r4 1 a), .ref (Fz a pa r1 r2 r3 r4 2 a), .ref (Fz a pa r1 r2 r3 r4 3 a), .ref (Fz a pa r1 r2 r3 r4 4 a), .int (nI (Fz a pa r1 r2 r3 r4 5 a))]) : va_E)) ∈ _
      rw [f0, f1, f2, f3, f4, f5]
      exact List.mem_of_getElem? (i := 0) rfl
    · rw [kp]
      show (a, (.inl (cI, 48, .inl (fun i => nI (Fz h a r1 r2 r3 r4 i a) - 1)) : va_E)) ∈ _
      have e : (fun i => nI (Fz h a r1 r2 r3 r4 i a) - 1) = fM1 48 := by
        funext i
        rw [fp i]
        unfold fM1
        by_cases hi : i < 48
        · rw [if_pos hi, if_pos hi]; rfl
        · rw [if_neg hi, if_neg hi]; rfl
      rw [e]
      exact List.mem_of_getElem? (i := 1) rfl
    · rw [k1] at g2; omega
    · rw [k2] at g2; omega
    · rw [k3] at g2; omega
    · rw [k4] at g2; omega
    · exact absurd e g0
  · rcases kc a with rfl | rfl | rfl | rfl | rfl | rfl | e
    · rw [kh] at g2; omega
    · rw [kp] at g2; omega
    · exact ⟨nI 0, eA, List.mem_of_getElem? (i := 2) rfl, Or.inl ⟨rfl, rfl⟩⟩
    · exact ⟨nI 0, eA, List.mem_of_getElem? (i := 3) rfl, Or.inl ⟨rfl, rfl⟩⟩
    · exact ⟨nI 0, eA, List.mem_of_getElem? (i := 4) rfl, Or.inl ⟨rfl, rfl⟩⟩
    · exact ⟨nI 0, eA, List.mem_of_getElem? (i := 5) rfl, Or.inl ⟨rfl, rfl⟩⟩
    · rw [e] at g2; omega
  · rcases kc a with rfl | rfl | rfl | rfl | rfl | rfl | e
    · rw [kh]
      by_cases c5 : f = 5
      · subst c5; right; rw [f5]; decide
      · left
        unfold rg
        split <;> first | rfl | omega | contradiction
    · rw [kp]
      right
      rw [fp f]
      show _ < 2002
      split <;> omega
    · exact Or.inl (rg_out (Or.inr (by rw [k1]; decide)))
    · exact Or.inl (rg_out (Or.inr (by rw [k2]; decide)))
    · exact Or.inl (rg_out (Or.inr (by rw [k3]; decide)))
    · exact Or.inl (rg_out (Or.inr (by rw [k4]; decide)))
    · exact Or.inl (rg_out (Or.inl e))
  · rcases kc a with rfl | rfl | rfl | rfl | rfl | rfl | e
    · rw [kh]
      rcases f with _ | _ | _ | _ | _ | f
      · right; rw [f0]; exact kp
      · right; rw [f1]; exact k1
      · right; rw [f2]; exact k2
      · right; rw [f3]; exact k3
      · right; rw [f4]; exact k4
      · left; rfl
    · rw [kp]; exact Or.inl rfl
    · exact Or.inl (rk_out (Or.inr (by rw [k1]; decide)))
    · exact Or.inl (rk_out (Or.inr (by rw [k2]; decide)))
    · exact Or.inl (rk_out (Or.inr (by rw [k3]; decide)))
    · exact Or.inl (rk_out (Or.inr (by rw [k4]; decide)))
    · exact Or.inl (rk_out (Or.inl e))
  · refine ⟨?_, ?_, Nat.zero_le _, fun x hx => by cases hx⟩ <;> rcases kc a with rfl | rfl | rfl | rfl | rfl | rfl | e
    · rw [kh]; decide
    · rw [kp]; decide
    · rw [k1]; decide
    · rw [k2]; decide
    · rw [k3]; decide
    · rw [k4]; decide
    · rw [e]; decide
    · rw [kh] at g2; omega
    · rw [kp] at g2; omega
    · rw [k1]; decide
    · rw [k2]; decide
    · rw [k3]; decide
    · rw [k4]; decide
    · rw [e] at g2; omega
  · exact ⟨fun _ => 0, fun _ _ => 0, fun _ => 0, fun _ => 0, fun _ => 0, fun _ => 0,
      ⟨kh, by rw [f0]; exact kp, f5, fun i hi => by rw [f0, fp i, if_pos hi], rfl, rfl, rfl, rfl⟩,
      fun t ht => absurd ht (Nat.not_lt_zero t), fun t k ht => absurd ht (Nat.not_lt_zero t),
      ⟨fun _ _ _ => rfl, fun g b _ _ => ⟨Or.inl rfl, fun _ => ⟨rfl, rfl⟩, fun _ => rfl⟩⟩,
      fun a ha => absurd ha (Nat.not_lt_zero a), ⟨fun a b ha => absurd ha (Nat.not_lt_zero a), fun a ha => absurd ha (Nat.not_lt_zero a)⟩,
      ⟨fun a ha => absurd ha (Nat.not_lt_zero a), fun a b ha => absurd ha (Nat.not_lt_zero a)⟩, fun a ha => absurd ha (Nat.not_lt_zero a),
      ⟨fun a ha => absurd ha (Nat.not_lt_zero a), fun a b ha => absurd ha (Nat.not_lt_zero a)⟩, ⟨fun a ha => absurd ha (Nat.not_lt_zero a), rfl⟩,
      ⟨fun b _ => rfl, fun a ha => absurd ha (Nat.not_lt_zero a)⟩, fun t k ht => absurd ht (Nat.not_lt_zero t),
      ⟨fun _ _ => ⟨rfl, rfl, rfl⟩, fun _ _ => ⟨rfl, rfl⟩, fun _ _ => rfl⟩⟩
