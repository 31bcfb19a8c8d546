/-! the law's start: what the tables and the premises say -/
theorem arr_K {args : Array Value} {s : State} {ty : FieldType} (h : (Cond.arrayClass ty).before args s = true) : ∃ cA : ClassId, ArrOfT s cA ty ∧ s.vm.findClass ("[" ++ ty.toString) = some cA := by
  obtain ⟨c, k, comp, h1, h2, h3⟩ := Cond.arrayClass_spec h
  exact ⟨c, fun N z => ⟨(fun k h => by cases h), k, h2, comp, h3⟩, h1⟩
theorem arr_O {args : Array Value} {s : State} (h : (Cond.arrayOver (.object "java/lang/Object")).before args s = true) : ∃ cA : ClassId, ArrOfT s cA (.object "java/lang/Object") ∧ va_RA s cA (.object "java/lang/Object") := by
  obtain ⟨comp, c, k, h1, h2, h3, h4, h5⟩ := Cond.arrayOver_spec h
  exact ⟨c, fun N z => ⟨(fun k h => by cases h), k, h3, comp, h4⟩, k, comp, h3, h4, h1, h5⟩
theorem st_ne {args : Array Value} {s : State} {X Y : Term} {a b : Nat} (h : (Cond.not (.eq X Y)).before args s = true) (hx : X.eval args s none [] s = some (.ref a)) (hy : Y.eval args s none [] s = some (.ref b)) : a ≠ b := by
  rintro rfl
  simp [Cond.before, Cond.holds, Cond.value, hx, hy] at h
theorem cl_all {s : State} (h : ∀ (k : Nat) (q : vw_C), vwCl[k]? = some q → ∃ (cC : ClassId) (iS : Nat → Nat), u_Kn s q.1 q.2.1 q.2.2 cC iS) : ∃ D : va_G, ∀ (k : Nat) (q : vw_C), vwCl[k]? = some q → u_Kn s q.1 q.2.1 q.2.2 (D.1 k) (D.2 k) := by
  have f : ∀ k : Nat, ∃ (cC : ClassId) (iS : Nat → Nat), ∀ q : vw_C, vwCl[k]? = some q → u_Kn s q.1 q.2.1 q.2.2 cC iS := fun k => by
    rcases hk : vwCl[k]? with _ | q
    · exact ⟨0, fun _ => 0, fun q hq => by cases hq⟩
    · obtain ⟨x, y, z⟩ := h k q hk
      exact ⟨x, y, fun q2 h2 => by obtain rfl : q = q2 := Option.some.inj h2; exact z⟩
  exact ⟨(fun k => Classical.choose (f k), fun k => Classical.choose (Classical.choose_spec (f k))), fun k q hq => Classical.choose_spec (Classical.choose_spec (f k)) q hq⟩
def stW : List Cond := [.instantiable RJ4 4, .instantiable RJx4a65c 3, .instantiable RX0 7, .instantiable RX1 6, .instantiable RX2 3, .instantiable RX3 6, .instantiable RX4 2, .instantiable RX5 5, .instantiable RX7 6, .instantiable RX8 6, .arrayClass .int, .arrayClass .byte, .arrayOver (.object "java/lang/Object"), .laysStatic Bundle.tN "UNASSIGNED_STACK" Bundle.steD, .initialized Bundle.tN, .laysStatic Bundle.tN "SUPPRESSED_SENTINEL" Bundle.listD, .laysStatic "java/util/ArrayList" "DEFAULTCAPACITY_EMPTY_ELEMENTDATA" "[Ljava/lang/Object;", .initialized "java/util/ArrayList", .laysStatic RX6 "SEALED" "LTenderHall$Status;", .initialized RX6, .laysStatic RX6 "IN" "LTenderHall$Status;", .laysStatic RX6 "LACKS_PAPERS" "LTenderHall$Status;", .laysStatic RX6 "OUT_FOR_GOOD" "LTenderHall$Status;", .laysStatic "java/lang/String" "COMPACT_STRINGS" "Z", .initialized "java/lang/String", .laysStatic "java/lang/Integer" "DigitOnes" "[B", .initialized "java/lang/Integer", .laysStatic "java/lang/Integer" "DigitTens" "[B", .laysStatic "jdk/internal/util/Preconditions" "SIOOBE_FORMATTER" "Ljava/util/function/BiFunction;", .initialized "jdk/internal/util/Preconditions"]
theorem stW_in : ∀ w ∈ stW, w ∈ lw_tbl3 := by decide +kernel
def nW : List Cond := [.arrayOf (.static "java/util/ArrayList" "DEFAULTCAPACITY_EMPTY_ELEMENTDATA" "[Ljava/lang/Object;") (.object "java/lang/Object"), .eq (.length (.static "java/util/ArrayList" "DEFAULTCAPACITY_EMPTY_ELEMENTDATA" "[Ljava/lang/Object;")) (.int 0), .isRef (.mirror "[Ljava/lang/Object;"), .exactly (.static RX6 "SEALED" "LTenderHall$Status;") RX6, .exactly (.static RX6 "IN" "LTenderHall$Status;") RX6, .exactly (.static RX6 "LACKS_PAPERS" "LTenderHall$Status;") RX6, .exactly (.static RX6 "OUT_FOR_GOOD" "LTenderHall$Status;") RX6, .not (.eq (.static RX6 "SEALED" "LTenderHall$Status;") (.static RX6 "IN" "LTenderHall$Status;")), .not (.eq (.static RX6 "SEALED" "LTenderHall$Status;") (.static RX6 "LACKS_PAPERS" "LTenderHall$Status;")), .not (.eq (.static RX6 "SEALED" "LTenderHall$Status;") (.static RX6 "OUT_FOR_GOOD" "LTenderHall$Status;")), .not (.eq (.static RX6 "IN" "LTenderHall$Status;") (.static RX6 "LACKS_PAPERS" "LTenderHall$Status;")), .not (.eq (.static RX6 "IN" "LTenderHall$Status;") (.static RX6 "OUT_FOR_GOOD" "LTenderHall$Status;")), .not (.eq (.static RX6 "LACKS_PAPERS" "LTenderHall$Status;") (.static RX6 "OUT_FOR_GOOD" "LTenderHall$Status;")), .arrayOf (.static "java/lang/Integer" "DigitOnes" "[B") .byte, .eq (.length (.static "java/lang/Integer" "DigitOnes" "[B")) (.int 100), .arrayOf (.static "java/lang/Integer" "DigitTens" "[B") .byte, .eq (.length (.static "java/lang/Integer" "DigitTens" "[B")) (.int 100), .isRef (.static "jdk/internal/util/Preconditions" "SIOOBE_FORMATTER" "Ljava/util/function/BiFunction;"), .isRef (.static Bundle.tN "UNASSIGNED_STACK" Bundle.steD), .isRef (.static Bundle.tN "SUPPRESSED_SENTINEL" Bundle.listD), .eq (.static "java/lang/String" "COMPACT_STRINGS" "Z") (.int 1), .not (.castable "java/lang/IllegalArgumentException" "java/lang/IndexOutOfBoundsException"), .not (.castable "java/lang/IllegalStateException" "java/lang/IndexOutOfBoundsException"), .not (.castable "java/lang/IllegalStateException" "java/lang/IllegalArgumentException")]
theorem nW_in : ∀ w ∈ nW, w ∈ flatC (Jvm.Cond.and given_1 narrow_1) := by decide +kernel
theorem nD1a : ((flatC (Jvm.Cond.and given_1 narrow_1)).drop 32).take 100 = (List.range 100).map (fun j => Cond.eq (.elem (.static "java/lang/Integer" "DigitOnes" "[B") (.int (Int32.ofNat j))) (.int (nI (48 + j % 10)))) := by decide +kernel
theorem nD1 : ∀ j : Nat, j < 100 → Cond.eq (.elem (.static "java/lang/Integer" "DigitOnes" "[B") (.int (Int32.ofNat j))) (.int (nI (48 + j % 10))) ∈ flatC (Jvm.Cond.and given_1 narrow_1) := fun j hj => List.mem_of_mem_drop (List.mem_of_mem_take (by rw [nD1a]; exact List.mem_map.mpr ⟨j, List.mem_range.mpr hj, rfl⟩))
theorem nD2a : ((flatC (Jvm.Cond.and given_1 narrow_1)).drop 135).take 100 = (List.range 100).map (fun j => Cond.eq (.elem (.static "java/lang/Integer" "DigitTens" "[B") (.int (Int32.ofNat j))) (.int (nI (48 + j / 10)))) := by decide +kernel
theorem nD2 : ∀ j : Nat, j < 100 → Cond.eq (.elem (.static "java/lang/Integer" "DigitTens" "[B") (.int (Int32.ofNat j))) (.int (nI (48 + j / 10))) ∈ flatC (Jvm.Cond.and given_1 narrow_1) := fun j hj => List.mem_of_mem_drop (List.mem_of_mem_take (by rw [nD2a]; exact List.mem_map.mpr ⟨j, List.mem_range.mpr hj, rfl⟩))
def lsW : List Cond := [.classLink RL 9 RX8, .instantiable RX8 6, .initialized RX8, .methodLink RL 234 yX8_init, .instanceMethod yX8_init, .arrayClass .int]
theorem lsW_in : ∀ w ∈ lsW, w ∈ lw_tbl3 := by decide +kernel
theorem cXc : ∀ q ∈ gXc, Cond.castable q.1 q.2 ∈ lw_tbl3 := by decide +kernel
theorem cXd : ∀ y ∈ gXd, Cond.declares y ∈ lw_tbl3 := by decide +kernel
set_option maxHeartbeats 4000000 in
theorem st_facts {s : State} {b : Nat} (hts : ∀ w ∈ lw_tbl3, w.before #[Value.ref b] s = true) (hgv : (Jvm.Cond.and given_1 narrow_1).before #[Value.ref b] s = true) : ∃ (D : va_G) (cI cO cb : ClassId) (eA mi : Nat) (st : Nat → Nat) (dO dT : Nat) (vF : Value), va_K D vwCl (cty cI cO cb) s ∧ va_K D vwCl [(cI, .int)] s ∧ gS eA mi st (fun q => s.heap.size ≤ q) s s.heap ∧ gT dO dT vF (fun q => s.heap.size ≤ q) s s.heap ∧ lNc s ∧ sInj st := by
  have hq := flat_of_before _ hgv
  have W1 : ∀ (k : Nat) (w : Cond), stW[k]? = some w → w.before #[Value.ref b] s = true := fun k w h => hts w (stW_in w (List.mem_of_getElem? h))
  have N1 : ∀ (k : Nat) (w : Cond), nW[k]? = some w → w.before #[Value.ref b] s = true := fun k w h => hq w (nW_in w (List.mem_of_getElem? h))
  have hA : ∀ a : Nat, a < s.heap.size → ¬ (fun q : Nat => s.heap.size ≤ q) a := fun a h => Nat.not_le.mpr h
  obtain ⟨D, hcl⟩ := cl_all (s := s) (fun k q hk => by
    match k, hk with
    | 0, hk => cases hk; exact u_known hts inJ4 (W1 0 _ rfl)
    | 1, hk => cases hk; exact u_known hts inJx4a65c (W1 1 _ rfl)
    | 2, hk => cases hk; exact u_known hts inX0 (W1 2 _ rfl)
    | 3, hk => cases hk; exact u_known hts inX1 (W1 3 _ rfl)
    | 4, hk => cases hk; exact u_known hts inX2 (W1 4 _ rfl)
    | 5, hk => cases hk; exact u_known hts inX3 (W1 5 _ rfl)
    | 6, hk => cases hk; exact u_known hts inX4 (W1 6 _ rfl)
    | 7, hk => cases hk; exact u_known hts inX5 (W1 7 _ rfl)
    | 8, hk => cases hk; exact u_known hts inX7 (W1 8 _ rfl)
    | 9, hk => cases hk; exact u_known hts inX8 (W1 9 _ rfl)
    | n + 10, hk => simp [vwCl] at hk)
  obtain ⟨cI, aI, fI⟩ := arr_K (W1 10 _ rfl)
  obtain ⟨cb, aB, fB⟩ := arr_K (W1 11 _ rfl)
  obtain ⟨cO, aO⟩ := arr_O (W1 12 _ rfl)
  obtain ⟨eA, hEv, hET⟩ := va_Tof (N := 0) (f := fun _ => .null) (A := fun q => s.heap.size ≤ q) (by decide) (N1 0 _ rfl) (va_eqt (N1 1 _ rfl)) (fun j hj => absurd hj (Nat.not_lt_zero j)) hA
  obtain ⟨mi, hmi⟩ := va_Mi.of (N1 2 _ rfl)
  obtain ⟨a0, _, _, _, e0, -⟩ := Cond.exactly_spec (N1 3 _ rfl)
  obtain ⟨a1, _, _, _, e1, -⟩ := Cond.exactly_spec (N1 4 _ rfl)
  obtain ⟨a2, _, _, _, e2, -⟩ := Cond.exactly_spec (N1 5 _ rfl)
  obtain ⟨a3, _, _, _, e3, -⟩ := Cond.exactly_spec (N1 6 _ rfl)
  have d01 := st_ne (N1 7 _ rfl) e0 e1
  have d02 := st_ne (N1 8 _ rfl) e0 e2
  have d03 := st_ne (N1 9 _ rfl) e0 e3
  have d12 := st_ne (N1 10 _ rfl) e1 e2
  have d13 := st_ne (N1 11 _ rfl) e1 e3
  have d23 := st_ne (N1 12 _ rfl) e2 e3
  obtain ⟨dO, hOv, hOT⟩ := va_Tof (N := 100) (f := fun i => .int (nI (48 + i % 10))) (A := fun q => s.heap.size ≤ q) (by decide) (N1 13 _ rfl) (va_eqt (N1 14 _ rfl)) (fun j hj => va_eqt (hq _ (nD1 j hj))) hA
  obtain ⟨dT, hTv, hTT⟩ := va_Tof (N := 100) (f := fun i => .int (nI (48 + i / 10))) (A := fun q => s.heap.size ≤ q) (by decide) (N1 15 _ rfl) (va_eqt (N1 16 _ rfl)) (fun j hj => va_eqt (hq _ (nD2 j hj))) hA
  obtain ⟨vF, hFv, hFr⟩ := Cond.isRef_spec (N1 17 _ rfl)
  have hvF : vF = .null ∨ ∃ r, vF = .ref r := by cases vF <;> simp [Value.isRef] at hFr ⊢
  have hK : va_K D vwCl (cty cI cO cb) s := ⟨hcl, fun k q hk => by
    match k, hk with
    | 0, hk => cases hk; exact ⟨aI, fI⟩
    | 1, hk => cases hk; exact aO
    | 2, hk => cases hk; exact ⟨aB, fB⟩
    | n + 3, hk => simp at hk⟩
  have hKa : va_K D vwCl [(cI, .int)] s := va_Kint hK
  have hG : gS eA mi (fun i => if i = 0 then a0 else if i = 1 then a1 else if i = 2 then a2 else a3) (fun q => s.heap.size ≤ q) s s.heap := ⟨vx_Zqof (W1 13 _ rfl) (W1 14 _ rfl) (N1 18 _ rfl) hA, vx_Zqof (W1 15 _ rfl) (W1 14 _ rfl) (N1 19 _ rfl) hA, va_Zref (W1 16 _ rfl) (W1 17 _ rfl) hEv hA, hET, va_AO.of (W1 12 _ rfl), hmi, ⟨fun q h9 => va_tabs (u := s) rfl rfl (hts _ (cXc q h9)), fun y h9 => va_tabs (u := s) rfl rfl (hts _ (cXd y h9))⟩, va_Zref (W1 18 _ rfl) (W1 19 _ rfl) e0 hA, va_Zref (W1 20 _ rfl) (W1 19 _ rfl) e1 hA, va_Zref (W1 21 _ rfl) (W1 19 _ rfl) e2 hA, va_Zref (W1 22 _ rfl) (W1 19 _ rfl) e3 hA⟩
  have hGT : gT dO dT vF (fun q => s.heap.size ≤ q) s s.heap := ⟨va_Zof (W1 23 _ rfl) (W1 24 _ rfl) (va_eqi (N1 20 _ rfl)) hA, va_Zref (W1 25 _ rfl) (W1 26 _ rfl) hOv hA, va_Zref (W1 27 _ rfl) (W1 26 _ rfl) hTv hA, hOT, hTT, va_Zof (W1 28 _ rfl) (W1 29 _ rfl) hFv hA, hvF⟩
  have hN : lNc s := ⟨va_Nc.of (N1 21 _ rfl), va_Nc.of (N1 22 _ rfl), va_Nc.of (N1 23 _ rfl)⟩
  refine ⟨D, cI, cO, cb, eA, mi, (fun i => if i = 0 then a0 else if i = 1 then a1 else if i = 2 then a2 else a3), dO, dT, vF, hK, hKa, hG, hGT, hN, fun i j hi hj h9 => ?_⟩
  rcases (show i = 0 ∨ i = 1 ∨ i = 2 ∨ i = 3 by omega) with rfl | rfl | rfl | rfl <;> rcases (show j = 0 ∨ j = 1 ∨ j = 2 ∨ j = 3 by omega) with rfl | rfl | rfl | rfl <;> first | rfl | exact absurd h9 d01 | exact absurd h9 d02 | exact absurd h9 d03 | exact absurd h9 d12 | exact absurd h9 d13 | exact absurd h9 d23 | exact absurd h9.symm d01 | exact absurd h9.symm d02 | exact absurd h9.symm d03 | exact absurd h9.symm d12 | exact absurd h9.symm d13 | exact absurd h9.symm d23
theorem va_D_cat {A B : Nat → Prop} {w1 w2 : va_W} (h1 : va_D A w1) (h2 : va_D B w2) (hBA : ∀ q, B q → A q) (hd : ∀ x ∈ w1, ¬ B x.1) : va_D A (w1 ++ w2) := by
  have key : ∀ {k : Nat} {q : Nat × va_E}, (w1 ++ w2)[k]? = some q → (k < w1.length ∧ w1[k]? = some q) ∨ (w1.length ≤ k ∧ w2[k - w1.length]? = some q) := fun {k q} hk => by
    by_cases h : k < w1.length
    · rw [List.getElem?_append_left h] at hk; exact Or.inl ⟨h, hk⟩
    · rw [List.getElem?_append_right (by omega)] at hk; exact Or.inr ⟨by omega, hk⟩
  refine ⟨fun i j q1 q2 hi hj e => ?_, fun k q hk => ?_⟩
  · rcases key hi with ⟨a1, b1⟩ | ⟨a1, b1⟩ <;> rcases key hj with ⟨a2, b2⟩ | ⟨a2, b2⟩
    · exact h1.1 i j q1 q2 b1 b2 e
    · exact absurd (by rw [e]; exact h2.2 _ q2 b2) (hd q1 (List.mem_of_getElem? b1))
    · exact absurd (by rw [← e]; exact h2.2 _ q1 b1) (hd q2 (List.mem_of_getElem? b2))
    · have := h2.1 _ _ q1 q2 b1 b2 e
      omega
  · rcases key hk with ⟨-, b1⟩ | ⟨-, b1⟩
    · exact h1.2 k q b1
    · exact hBA _ (h2.2 _ q b1)
/-! the first state -/
def zws (cI : ClassId) (eA h pa r1 r2 r3 r4 : Nat) : va_W := [(h, .inr (9, [.ref pa, .ref r1, .ref r2, .ref r3, .ref r4, .int (nI 0)])), (pa, .inl (cI, 48, .inl (fM1 48))), (r1, eL (nI 0) eA 0), (r2, eL (nI 0) eA 0), (r3, eL (nI 0) eA 0), (r4, eL (nI 0) eA 0)]
def kz (h pa r1 r2 r3 r4 a : Nat) : Nat := if a = h then 9 else if a = pa then 11 else if a = r1 then 28 else if a = r2 then 22 else if a = r3 then 25 else if a = r4 then 26 else 0
def Fz (h pa r1 r2 r3 r4 f a : Nat) : Nat := if a = h then (if f = 0 then pa else if f = 1 then r1 else if f = 2 then r2 else if f = 3 then r3 else if f = 4 then r4 else 0) else if a = pa then (if f < 48 then 0 else 1) else 0
theorem rg_out {k f : Nat} (h : k = 0 ∨ 20 ≤ k) : rg k f = 0 := by
  unfold rg
  split <;> first | rfl | omega
theorem rk_out {k f : Nat} (h : k = 0 ∨ 20 ≤ k) : rk k f = 0 := by
  unfold rk
  split <;> first | rfl | omega
theorem z_start {cI cO : ClassId} {eA : Nat} {st : Nat → Nat} {A : Nat → Prop} {h pa r1 r2 r3 r4 : Nat} (hD : va_D A (zws cI eA h pa r1 r2 r3 r4)) : CW cI cO eA st (fun _ => 0) (kz h pa r1 r2 r3 r4) (Fz h pa r1 r2 r3 r4) (fun _ => []) (zws cI eA h pa r1 r2 r3 r4) ∧ WF (kz h pa r1 r2 r3 r4) (Fz h pa r1 r2 r3 r4) (fun _ => []) ∧ Rel (kz h pa r1 r2 r3 r4) (Fz h pa r1 r2 r3 r4) (fun _ => []) h (fun _ _ => 0) := by
  have ne : ∀ (i j : Nat) (x y : Nat × va_E), (zws cI eA h pa r1 r2 r3 r4)[i]? = some x → (zws cI eA h pa r1 r2 r3 r4)[j]? = some y → i ≠ j → x.1 ≠ y.1 := fun i j x y hi hj hn e => hn (hD.1 i j x y hi hj e)
  have n10 : pa ≠ h := ne 1 0 _ _ rfl rfl (by decide)
  have n20 : r1 ≠ h := ne 2 0 _ _ rfl rfl (by decide)
  have n21 : r1 ≠ pa := ne 2 1 _ _ rfl rfl (by decide)
  have n30 : r2 ≠ h := ne 3 0 _ _ rfl rfl (by decide)
  have n31 : r2 ≠ pa := ne 3 1 _ _ rfl rfl (by decide)
  have n32 : r2 ≠ r1 := ne 3 2 _ _ rfl rfl (by decide)
  have n40 : r3 ≠ h := ne 4 0 _ _ rfl rfl (by decide)
  have n41 : r3 ≠ pa := ne 4 1 _ _ rfl rfl (by decide)
  have n42 : r3 ≠ r1 := ne 4 2 _ _ rfl rfl (by decide)
  have n43 : r3 ≠ r2 := ne 4 3 _ _ rfl rfl (by decide)
  have n50 : r4 ≠ h := ne 5 0 _ _ rfl rfl (by decide)
  have n51 : r4 ≠ pa := ne 5 1 _ _ rfl rfl (by decide)
  have n52 : r4 ≠ r1 := ne 5 2 _ _ rfl rfl (by decide)
  have n53 : r4 ≠ r2 := ne 5 3 _ _ rfl rfl (by decide)
  have n54 : r4 ≠ r3 := ne 5 4 _ _ rfl rfl (by decide)
  have kh : kz h pa r1 r2 r3 r4 h = 9 := if_pos rfl
  have kp : kz h pa r1 r2 r3 r4 pa = 11 := by unfold kz; rw [if_neg n10, if_pos rfl]
  have k1 : kz h pa r1 r2 r3 r4 r1 = 28 := by unfold kz; rw [if_neg n20, if_neg n21, if_pos rfl]
  have k2 : kz h pa r1 r2 r3 r4 r2 = 22 := by unfold kz; rw [if_neg n30, if_neg n31, if_neg n32, if_pos rfl]
  have k3 : kz h pa r1 r2 r3 r4 r3 = 25 := by unfold kz; rw [if_neg n40, if_neg n41, if_neg n42, if_neg n43, if_pos rfl]
  have k4 : kz h pa r1 r2 r3 r4 r4 = 26 := by unfold kz; rw [if_neg n50, if_neg n51, if_neg n52, if_neg n53, if_neg n54, if_pos rfl]
  have kc : ∀ a, a = h ∨ a = pa ∨ a = r1 ∨ a = r2 ∨ a = r3 ∨ a = r4 ∨ kz h pa r1 r2 r3 r4 a = 0 := fun a => by
    by_cases c0 : a = h
    · exact Or.inl c0
    by_cases c1 : a = pa
    · exact Or.inr (Or.inl c1)
    by_cases c2 : a = r1
    · exact Or.inr (Or.inr (Or.inl c2))
    by_cases c3 : a = r2
    · exact Or.inr (Or.inr (Or.inr (Or.inl c3)))
    by_cases c4 : a = r3
    · exact Or.inr (Or.inr (Or.inr (Or.inr (Or.inl c4))))
    by_cases c5 : a = r4
    · exact Or.inr (Or.inr (Or.inr (Or.inr (Or.inr (Or.inl c5)))))
    refine Or.inr (Or.inr (Or.inr (Or.inr (Or.inr (Or.inr ?_)))))
    unfold kz
    rw [if_neg c0, if_neg c1, if_neg c2, if_neg c3, if_neg c4, if_neg c5]
  have fh : ∀ f, Fz h pa r1 r2 r3 r4 f h = if f = 0 then pa else if f = 1 then r1 else if f = 2 then r2 else if f = 3 then r3 else if f = 4 then r4 else 0 := fun f => if_pos rfl
  have fp : ∀ f, Fz h pa r1 r2 r3 r4 f pa = if f < 48 then 0 else 1 := fun f => by unfold Fz; rw [if_neg n10, if_pos rfl]
  have f0 : Fz h pa r1 r2 r3 r4 0 h = pa := fh 0
  have f1 : Fz h pa r1 r2 r3 r4 1 h = r1 := fh 1
  have f2 : Fz h pa r1 r2 r3 r4 2 h = r2 := fh 2
  have f3 : Fz h pa r1 r2 r3 r4 3 h = r3 := fh 3
  have f4 : Fz h pa r1 r2 r3 r4 4 h = r4 := fh 4
  have f5 : Fz h pa r1 r2 r3 r4 5 h = 0 := fh 5
  refine ⟨⟨fun a g0 g2 => ?_, fun a g2 => ?_⟩, ⟨fun a f => ?_, fun a f => ?_, fun a g2 => ?_⟩, ?_⟩
  · rcases kc a with rfl | rfl | rfl | rfl | rfl | rfl | e
    · rw [kh]
      show (a, (.inr (9, [.ref (Fz a pa r1 r2 r3 r4 0 a), .ref (Fz a pa r1 r2 r3 r4 1 a), .ref (Fz a pa r1 r2 r3 r4 2 a), .ref (Fz a pa r1 r2 r3 r4 3 a), .ref (Fz a pa r1 r2 r3 r4 4 a), .int (nI (Fz a pa r1 r2 r3 r4 5 a))]) : va_E)) ∈ _
      rw [f0, f1, f2, f3, f4, f5]
      exact List.mem_of_getElem? (i := 0) rfl
    · rw [kp]
      show (a, (.inl (cI, 48, .inl (fun i => nI (Fz h a r1 r2 r3 r4 i a) - 1)) : va_E)) ∈ _
      have e : (fun i => nI (Fz h a r1 r2 r3 r4 i a) - 1) = fM1 48 := by
        funext i
        rw [fp i]
        unfold fM1
        by_cases hi : i < 48
        · rw [if_pos hi, if_pos hi]; rfl
        · rw [if_neg hi, if_neg hi]; rfl
      rw [e]
      exact List.mem_of_getElem? (i := 1) rfl
    · rw [k1] at g2; omega
    · rw [k2] at g2; omega
    · rw [k3] at g2; omega
    · rw [k4] at g2; omega
    · exact absurd e g0
  · rcases kc a with rfl | rfl | rfl | rfl | rfl | rfl | e
    · rw [kh] at g2; omega
    · rw [kp] at g2; omega
    · exact ⟨nI 0, eA, List.mem_of_getElem? (i := 2) rfl, Or.inl ⟨rfl, rfl⟩⟩
    · exact ⟨nI 0, eA, List.mem_of_getElem? (i := 3) rfl, Or.inl ⟨rfl, rfl⟩⟩
    · exact ⟨nI 0, eA, List.mem_of_getElem? (i := 4) rfl, Or.inl ⟨rfl, rfl⟩⟩
    · exact ⟨nI 0, eA, List.mem_of_getElem? (i := 5) rfl, Or.inl ⟨rfl, rfl⟩⟩
    · rw [e] at g2; omega
  · rcases kc a with rfl | rfl | rfl | rfl | rfl | rfl | e
    · rw [kh]
      by_cases c5 : f = 5
      · subst c5; right; rw [f5]; decide
      · left
        unfold rg
        split <;> first | rfl | omega | contradiction
    · rw [kp]
      right
      rw [fp f]
      show _ < 2002
      split <;> omega
    · exact Or.inl (rg_out (Or.inr (by rw [k1]; decide)))
    · exact Or.inl (rg_out (Or.inr (by rw [k2]; decide)))
    · exact Or.inl (rg_out (Or.inr (by rw [k3]; decide)))
    · exact Or.inl (rg_out (Or.inr (by rw [k4]; decide)))
    · exact Or.inl (rg_out (Or.inl e))
  · rcases kc a with rfl | rfl | rfl | rfl | rfl | rfl | e
    · rw [kh]
      rcases f with _ | _ | _ | _ | _ | f
      · right; rw [f0]; exact kp
      · right; rw [f1]; exact k1
      · right; rw [f2]; exact k2
      · right; rw [f3]; exact k3
      · right; rw [f4]; exact k4
      · left; rfl
    · rw [kp]; exact Or.inl rfl
    · exact Or.inl (rk_out (Or.inr (by rw [k1]; decide)))
    · exact Or.inl (rk_out (Or.inr (by rw [k2]; decide)))
    · exact Or.inl (rk_out (Or.inr (by rw [k3]; decide)))
    · exact Or.inl (rk_out (Or.inr (by rw [k4]; decide)))
    · exact Or.inl (rk_out (Or.inl e))
  · refine ⟨?_, ?_, Nat.zero_le _, fun x hx => by cases hx⟩ <;> rcases kc a with rfl | rfl | rfl | rfl | rfl | rfl | e
    · rw [kh]; decide
    · rw [kp]; decide
    · rw [k1]; decide
    · rw [k2]; decide
    · rw [k3]; decide
    · rw [k4]; decide
    · rw [e]; decide
    · rw [kh] at g2; omega
    · rw [kp] at g2; omega
    · rw [k1]; decide
    · rw [k2]; decide
    · rw [k3]; decide
    · rw [k4]; decide
    · rw [e] at g2; omega
  · exact ⟨fun _ => 0, fun _ _ => 0, fun _ => 0, fun _ => 0, fun _ => 0, fun _ => 0,
      ⟨kh, by rw [f0]; exact kp, f5, fun i hi => by rw [f0, fp i, if_pos hi], rfl, rfl, rfl, rfl⟩,
      fun t ht => absurd ht (Nat.not_lt_zero t), fun t k ht => absurd ht (Nat.not_lt_zero t),
      ⟨fun _ _ _ => rfl, fun g b _ _ => ⟨Or.inl rfl, fun _ => ⟨rfl, rfl⟩, fun _ => rfl⟩⟩,
      fun a ha => absurd ha (Nat.not_lt_zero a), ⟨fun a b ha => absurd ha (Nat.not_lt_zero a), fun a ha => absurd ha (Nat.not_lt_zero a)⟩,
      ⟨fun a ha => absurd ha (Nat.not_lt_zero a), fun a b ha => absurd ha (Nat.not_lt_zero a)⟩, fun a ha => absurd ha (Nat.not_lt_zero a),
      ⟨fun a ha => absurd ha (Nat.not_lt_zero a), fun a b ha => absurd ha (Nat.not_lt_zero a)⟩, ⟨fun a ha => absurd ha (Nat.not_lt_zero a), rfl⟩,
      ⟨fun b _ => rfl, fun a ha => absurd ha (Nat.not_lt_zero a)⟩, fun t k ht => absurd ht (Nat.not_lt_zero t),
      ⟨fun _ _ => ⟨rfl, rfl, rfl⟩, fun _ _ => ⟨rfl, rfl⟩, fun _ _ => rfl⟩⟩
/-! the law's arrays at the start -/
/-- the law's numbers at the start, k of the lots' deposits set to none -/
def t_z (k : Nat) : MS := fun f i => if f = 2 ∧ k ≤ i then 1 else 0
theorem t_z0 {k f i : Nat} (h : f ≠ 2) : t_z k f i = 0 := if_neg (fun z => h z.1)
theorem lr_start : LR (fun _ _ => 0) (t_z 4) := by
  refine ⟨⟨t_z0 (by decide), t_z0 (by decide), Nat.zero_le _, t_z0 (by decide), t_z0 (by decide), t_z0 (by decide), t_z0 (by decide)⟩, fun i _ => t_z0 (by decide), fun t ht => absurd ht (Nat.not_lt_zero t), ⟨fun j hj => ?_, fun t _ => Nat.zero_le _, fun t _ => rfl⟩, ⟨fun q hq => ⟨by show t_z 4 3 q % 1048576 = 0; simp [t_z], fun _ => t_z0 (by decide), fun h => absurd h (Nat.lt_irrefl 0)⟩, fun q r _ _ h => absurd h (Nat.lt_irrefl 0), fun g b _ _ => rfl, fun g b _ _ => rfl⟩, ⟨fun q hq => ⟨?_, fun h => absurd h (Nat.lt_irrefl 0)⟩, fun q _ _ h => absurd h (Nat.not_lt_zero _), fun q _ _ => ⟨t_z0 (by decide), rfl, rfl⟩, fun q _ => by simp [t_z], fun k hk => absurd hk (by simp [t_z])⟩, fun k hk => absurd hk (Nat.not_lt_zero k), fun k hk => absurd hk (Nat.not_lt_zero k), fun k hk => absurd hk (Nat.not_lt_zero k), fun b _ => t_z0 (by decide), ⟨fun c _ => ⟨rfl, rfl, rfl⟩, fun a _ => ⟨rfl, rfl⟩, fun c _ => rfl⟩⟩
  · rw [if_neg (Nat.not_lt_zero _)]
    exact if_neg (fun z => by omega)
  · unfold t_tk
    rw [show t_z 4 11 3 = 0 from t_z0 (by decide), t_tkf]
    simp [t_z, m_tp]
theorem lt_start : LT (t_z 4) := by
  refine ⟨fun f i => ?_, by simp [t_z], by simp [t_z], by simp [t_z], by simp [t_z], by simp [t_z]⟩
  by_cases h : f = 2
  · subst h
    show t_z 4 2 i ≤ 10001
    unfold t_z
    split <;> omega
  · rw [t_z0 h]; exact Nat.zero_le _
theorem mu_tz (k : Nat) : mu (t_z k) 2 k 0 = t_z (k + 1) := by
  funext f i
  unfold mu t_z
  by_cases h : f = 2 ∧ i = k
  · rw [if_pos h, if_neg (fun z => by omega)]
  · rw [if_neg h]
    by_cases h2 : f = 2 ∧ k ≤ i
    · rw [if_pos h2, if_pos ⟨h2.1, by omega⟩]
    · rw [if_neg h2, if_neg (fun z => h2 ⟨z.1, by omega⟩)]
theorem aset_2m (ad : Nat → Nat) (cI : ClassId) (T : MS) (j : Nat) : (aws ad cI T).set 2 (ad 2, .inl (cI, 4, .inl (upd (fun i => nI (T 2 i) - 1) j (-1)))) = aws ad cI (mu T 2 j 0) := by
  have e : upd (fun i => nI (T 2 i) - 1) j (-1) = fun i => nI (if i = j then 0 else T 2 i) - 1 := by
    funext i
    by_cases h : i = j
    · first | (simp [upd, h]; done) | (simp [upd, h]; decide)
    · simp [upd, h]
  rw [e]
  simp [mu]
section
variable {p : Program} {l : Launch} {e : Env} {R : Room} {s : State} {m : MethodId} {args : Array Value} {below : List Frame} {meth : Method} {c : Code} {H H0 : Heap} {locs : List Loc} {cells slots : Nat} {Q : State → Prop}
variable {cc : ByteArray} {pc : Nat} {ls : Array Slot} {rest : List Value} {D : va_G} {A B : Nat → Prop} {ad : Nat → Nat} {cI : ClassId} {T : MS} {ws : va_W}
theorem b_iast2m (hx : p.tables.exec = Jvm.exec) (hb : c.code = cc) (hKa : va_K D vwCl [(cI, .int)] s) (hPa : va_P D vwCl (aws ad cI T) H) (hPw : va_P D vwCl ws H) (hdB : aDis B ad) (hdw : va_D A ws) (hAB : ∀ q, A q → ¬ B q) (hS : va_S (fun q => A q ∨ B q) H0 H locs) {i : Nat} (hi : i < 4) (hdg : decode cc pc = .ok (.iastore, 1))
    (kk : ∀ (H1 : Heap) (locs1 : List Loc), va_P D vwCl (aws ad cI (mu T 2 i 0)) H1 → va_P D vwCl ws H1 → va_S (fun q => A q ∨ B q) H0 H1 locs1 → W p l e R s m args below meth c H1 locs1 cells slots Q (F0 m (pc + 1) ls rest)) : W p l e R s m args below meth c H locs cells slots Q (F0 m pc ls (.int (-1) :: .int (nI i) :: .ref (ad 2) :: rest)) :=
  va_iast hx hb hKa (va_P_app hPa hPw) (va_D_ab (hdB.at cI T) hdw hAB) hS 2 0 (f := fun i => nI (T 2 i) - 1) rfl rfl (vp_in_nI hi (by decide)) hdg (fun H1 locs1 hP1 _ hS1 => by
    rw [nI_clamp (by omega), List.set_append_left _ _ (by show 2 < 12; decide), aset_2m] at hP1
    exact kk H1 locs1 (va_P_l hP1) (va_P_r hP1) hS1)
end
/-- where the law's arrays lie -/
def aA (ad : Nat → Nat) (q : Nat) : Prop := ∃ (k : Nat) (x : Nat × va_E), (aws ad 0 (fun _ _ => 0))[k]? = some x ∧ x.1 = q
theorem aws_fst {ad : Nat → Nat} {cI : ClassId} {T : MS} {q : Nat} (h : aA ad q) : ∃ (k : Nat) (x : Nat × va_E), (aws ad cI T)[k]? = some x ∧ x.1 = q := by
  obtain ⟨k, y, g1, g2⟩ := h
  have g3 : ((aws ad cI T).map (·.1))[k]? = some y.1 := by
    rw [show (aws ad cI T).map (·.1) = (aws ad 0 (fun _ _ => 0)).map (·.1) from rfl, List.getElem?_map, g1]; rfl
  rw [List.getElem?_map] at g3
  rcases g4 : (aws ad cI T)[k]? with _ | z
  · rw [g4] at g3; cases g3
  · rw [g4] at g3
    exact ⟨k, z, g4, (Option.some.inj g3).trans g2⟩
theorem aA_lt {D : va_G} {ad : Nat → Nat} {cI : ClassId} {T : MS} {H : Heap} (hP : va_P D vwCl (aws ad cI T) H) {q : Nat} (h : aA ad q) : q < H.size := by
  obtain ⟨k, x, g1, g2⟩ := aws_fst (cI := cI) (T := T) h
  rw [← g2]; exact (hP k x g1).lt
theorem va_D_r {A : Nat → Prop} {w1 w2 : va_W} (h : va_D A (w1 ++ w2)) : va_D A w2 := ⟨fun i j x y hi hj e => by
    have := h.1 (w1.length + i) (w1.length + j) x y (by rw [List.getElem?_append_right (Nat.le_add_right _ _), Nat.add_sub_cancel_left]; exact hi) (by rw [List.getElem?_append_right (Nat.le_add_right _ _), Nat.add_sub_cancel_left]; exact hj) e
    omega, fun k x hk => h.2 (w1.length + k) x (by rw [List.getElem?_append_right (Nat.le_add_right _ _), Nat.add_sub_cancel_left]; exact hk)⟩
theorem va_D_apart {A : Nat → Prop} {w1 w2 : va_W} (h : va_D A (w1 ++ w2)) {k j : Nat} {x y : Nat × va_E} (hk : w1[k]? = some x) (hj : w2[j]? = some y) : x.1 ≠ y.1 := fun e => by
    have hlt := (List.getElem?_eq_some_iff.mp hk).1
    have := h.1 k (w1.length + j) x y (by rw [List.getElem?_append_left hlt]; exact hk) (by rw [List.getElem?_append_right (Nat.le_add_right _ _), Nat.add_sub_cancel_left]; exact hj) e
    omega
/-- addresses by number -/
def adr (a0 a1 a2 a3 a4 a5 a6 a7 a8 a9 a10 a11 : Nat) : Nat → Nat
  | 0 => a0 | 1 => a1 | 2 => a2 | 3 => a3 | 4 => a4 | 5 => a5 | 6 => a6 | 7 => a7 | 8 => a8 | 9 => a9 | 10 => a10 | 11 => a11 | _ => 0
theorem z_arrays (cI : ClassId) (a0 a1 a2 a3 a4 a5 a6 a7 a8 a9 a10 a11 : Nat) : aws (adr a0 a1 a2 a3 a4 a5 a6 a7 a8 a9 a10 a11) cI (t_z 0) = [(a0, .inl (cI, 24, .inl (fun _ => 0))), (a1, .inl (cI, 2, .inl (fun _ => 0))), (a2, .inl (cI, 4, .inl (fun _ => 0))), (a3, .inl (cI, 16, .inl (fun _ => 0))), (a4, .inl (cI, 16, .inl (fun _ => 0))), (a5, .inl (cI, 16, .inl (fun _ => 0))), (a6, .inl (cI, 60, .inl (fun _ => 0))), (a7, .inl (cI, 32, .inl (fun _ => 0))), (a8, .inl (cI, 32, .inl (fun _ => 0))), (a9, .inl (cI, 32, .inl (fun _ => 0))), (a10, .inl (cI, 4, .inl (fun _ => 0))), (a11, .inl (cI, 7, .inl (fun _ => 0)))] := by
  have z : ∀ f, f ≠ 2 → (fun i => nI (t_z 0 f i)) = (fun _ => (0 : Int32)) := fun f h => by funext i; exact (congrArg nI (t_z0 h)).trans rfl
  have z2 : (fun i => nI (t_z 0 2 i) - 1) = (fun _ => (0 : Int32)) := by
    funext i
    exact (congrArg (fun x => nI x - 1) (show t_z 0 2 i = 1 from if_pos ⟨rfl, Nat.zero_le i⟩)).trans (show nI 1 - 1 = (0 : Int32) by decide)
  have r : ∀ n f, f ≠ 2 → lrow cI n f (t_z 0) = .inl (cI, n, .inl (fun _ => 0)) := fun n f h => by
    unfold lrow
    rw [z f h]
  unfold aws
  rw [r 24 0 (by decide), r 2 1 (by decide), r 16 3 (by decide), r 16 4 (by decide), r 16 5 (by decide), r 60 6 (by decide), r 32 7 (by decide), r 32 8 (by decide), r 32 9 (by decide), r 4 10 (by decide), r 7 11 (by decide), z2]
  all_goals rfl
