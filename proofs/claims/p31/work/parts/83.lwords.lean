/-! the law's words hold: most lie in lw_tbl; three are of inherited private methods -/
def lw3 : List Cond := [.selects RJ4 yJ5_ensureCapacityInternal_d00df yJ5_ensureCapacityInternal_d00df, .selects RJ4 yJ5_newCapacity_0f7a4 yJ5_newCapacity_0f7a4, .selects RJ4 yJ5_inflate_da8c8 yJ5_inflate_da8c8]
def lw_tbl3 : List Cond := lw_tbl ++ lw3
def lw3w : List Cond := [.instantiable RJ4 4, .sameMethod yJ5_ensureCapacityInternal_d00df.cls yJ5_ensureCapacityInternal_d00df.cls yJ5_ensureCapacityInternal_d00df.name yJ5_ensureCapacityInternal_d00df.desc, .privateMethod yJ5_ensureCapacityInternal_d00df, .instanceMethod yJ5_ensureCapacityInternal_d00df, .sameMethod yJ5_newCapacity_0f7a4.cls yJ5_newCapacity_0f7a4.cls yJ5_newCapacity_0f7a4.name yJ5_newCapacity_0f7a4.desc, .privateMethod yJ5_newCapacity_0f7a4, .instanceMethod yJ5_newCapacity_0f7a4, .sameMethod yJ5_inflate_da8c8.cls yJ5_inflate_da8c8.cls yJ5_inflate_da8c8.name yJ5_inflate_da8c8.desc, .privateMethod yJ5_inflate_da8c8, .instanceMethod yJ5_inflate_da8c8]
theorem lw3w_in : ∀ w ∈ lw3w, w ∈ lw_tbl := by decide +kernel
theorem sel_priv {y : MethodName} {C : String} {n : Nat} {s : State} {args : Array Value} (hy : y.cls ≠ "java/lang/invoke/MethodHandle" ∧ y.cls ≠ "java/lang/invoke/VarHandle") (hins : (Cond.instantiable C n).before args s = true) (hsame : (Cond.sameMethod y.cls y.cls y.name y.desc).before args s = true) (hpriv : (Cond.privateMethod y).before args s = true) (hinst : (Cond.instanceMethod y).before args s = true) : (Cond.selects C y y).before args s = true := by
  obtain ⟨c, k, hc, -⟩ := Cond.instantiable_spec hins
  obtain ⟨mk, methM, hnamed, hmethM, -, -⟩ := Cond.instanceMethod_spec hinst
  have hfound : s.methodFound? y.cls y.name y.desc = some mk := State.methodFound?_of_named hnamed hy
  have hcls : s.vm.findClass y.cls = some mk.cls := findClass_of_methodNamed hnamed
  obtain ⟨-, k2, hk2, hni⟩ := Cond.sameMethod_spec hcls hfound hsame
  have hsel : selectMethod {} s.vm c mk = .method mk := selectMethod_private hmethM (Cond.privateMethod_at hpriv mk methM hnamed hmethM)
  simp only [Cond.before, Cond.holds, Cond.value, hc, hfound, hnamed, hsel, hk2]
  simp; exact hni
theorem lw_tbl3_ok {s : State} {args : Array Value} (h : ∀ w ∈ lw_tbl, w.before args s = true) : ∀ w ∈ lw_tbl3, w.before args s = true := fun w hw => by
  have h3 : ∀ w ∈ lw3w, w.before args s = true := fun w hw => h w (lw3w_in w hw)
  rcases List.mem_append.mp hw with hw | hw
  · exact h w hw
  · have hi := h3 _ (List.mem_of_getElem? (i := 0) rfl)
    rcases List.mem_cons.mp hw with rfl | hw
    · exact sel_priv (by decide +kernel) hi (h3 _ (List.mem_of_getElem? (i := 1) rfl)) (h3 _ (List.mem_of_getElem? (i := 2) rfl)) (h3 _ (List.mem_of_getElem? (i := 3) rfl))
    · rcases List.mem_cons.mp hw with rfl | hw
      · exact sel_priv (by decide +kernel) hi (h3 _ (List.mem_of_getElem? (i := 4) rfl)) (h3 _ (List.mem_of_getElem? (i := 5) rfl)) (h3 _ (List.mem_of_getElem? (i := 6) rfl))
      · rcases List.mem_cons.mp hw with rfl | hw
        · exact sel_priv (by decide +kernel) hi (h3 _ (List.mem_of_getElem? (i := 7) rfl)) (h3 _ (List.mem_of_getElem? (i := 8) rfl)) (h3 _ (List.mem_of_getElem? (i := 9) rfl))
        · exact absurd hw List.not_mem_nil
theorem wl_ap {big a b : List Cond} (ha : ∀ w ∈ a, w ∈ big) (hb : ∀ w ∈ b, w ∈ big) : ∀ w ∈ a ++ b, w ∈ big := fun w h => (List.mem_append.mp h).elim (ha w) (hb w)
theorem wl_l {ws : List Cond} (h : ∀ w ∈ ws, w ∈ lw_tbl) : ∀ w ∈ ws, w ∈ lw_tbl3 := fun w hw => List.mem_append_left _ (h w hw)
theorem wl_r1 : ∀ w ∈ wsL_law0_r1, w ∈ lw_tbl := by decide +kernel
theorem wl_r2a : ∀ w ∈ ([Cond.methodLink RJx4a65c 1 yJxc12de_init_da8c8, Cond.instanceMethod yJxc12de_init_da8c8, Cond.initialized RJxc12de, Cond.code yJxc12de_init_da8c8 cJxc12de_init_da8c8 1 none, Cond.fieldLink RJxc12de 7 "java/util/AbstractList" "modCount" "I", Cond.methodLink RJxc12de 1 yJxa1e45_init_da8c8, Cond.instanceMethod yJxa1e45_init_da8c8, Cond.initialized RJxa1e45, Cond.code yJxa1e45_init_da8c8 cJxa1e45_init_da8c8 1 none, Cond.methodLink RJxa1e45 1 objectInit, Cond.methodLink RL 235 yL_isTold, Cond.static yL_isTold, Cond.initialized RL] : List Cond), w ∈ lw_tbl := by decide +kernel
theorem wl_r2b : ∀ w ∈ ([Cond.constant RL 233 (2147483647), Cond.methodLink RL 141 yL_best, Cond.static yL_best, Cond.code yL_best cL_best 11 (some .int), Cond.methodLink RL 114 yL_takes, Cond.static yL_takes, Cond.code yL_takes cL_takes 8 (some .boolean), Cond.methodLink RL 106 yL_isOpened, Cond.static yL_isOpened, Cond.code yL_isOpened cL_isOpened 3 (some .boolean)] : List Cond), w ∈ lw_tbl := by decide +kernel
set_option maxRecDepth 100000 in
theorem wl_w2 : Cond.code yL_isTold cL_isTold 19 (some .boolean) ∈ lw_tbl := (List.mem_append_right _ (List.mem_append_right _ (List.mem_append_right _ (List.mem_append_right _ (List.mem_append_left _ (List.mem_of_getElem? (i := 55) rfl))))))
theorem wl_r2 : ∀ w ∈ wsL_law0_r2, w ∈ lw_tbl := fun w hw => by
  have hw : w ∈ ([Cond.methodLink RJx4a65c 1 yJxc12de_init_da8c8, Cond.instanceMethod yJxc12de_init_da8c8, Cond.initialized RJxc12de, Cond.code yJxc12de_init_da8c8 cJxc12de_init_da8c8 1 none, Cond.fieldLink RJxc12de 7 "java/util/AbstractList" "modCount" "I", Cond.methodLink RJxc12de 1 yJxa1e45_init_da8c8, Cond.instanceMethod yJxa1e45_init_da8c8, Cond.initialized RJxa1e45, Cond.code yJxa1e45_init_da8c8 cJxa1e45_init_da8c8 1 none, Cond.methodLink RJxa1e45 1 objectInit, Cond.methodLink RL 235 yL_isTold, Cond.static yL_isTold, Cond.initialized RL] : List Cond) ++ (Cond.code yL_isTold cL_isTold 19 (some .boolean) :: ([Cond.constant RL 233 (2147483647), Cond.methodLink RL 141 yL_best, Cond.static yL_best, Cond.code yL_best cL_best 11 (some .int), Cond.methodLink RL 114 yL_takes, Cond.static yL_takes, Cond.code yL_takes cL_takes 8 (some .boolean), Cond.methodLink RL 106 yL_isOpened, Cond.static yL_isOpened, Cond.code yL_isOpened cL_isOpened 3 (some .boolean)] : List Cond)) := hw
  rcases List.mem_append.mp hw with h | h
  · exact wl_r2a w h
  · rcases List.mem_cons.mp h with rfl | h
    · exact wl_w2
    · exact wl_r2b w h
theorem wl_r3 : ∀ w ∈ wsL_law0_r3, w ∈ lw_tbl := by decide +kernel
theorem wl_r4 : ∀ w ∈ wsL_law0_r4, w ∈ lw_tbl := by decide +kernel
theorem wl_r5 : ∀ w ∈ wsL_law0_r5, w ∈ lw_tbl := by decide +kernel
theorem wl_r6 : ∀ w ∈ wsL_law0_r6, w ∈ lw_tbl := by decide +kernel
theorem wl_r7 : ∀ w ∈ wsL_law0_r7, w ∈ lw_tbl := by decide +kernel
theorem wl_r8 : ∀ w ∈ wsL_law0_r8, w ∈ lw_tbl := by decide +kernel
theorem wl_r9 : ∀ w ∈ wsL_law0_r9, w ∈ lw_tbl := by decide +kernel
theorem wl_r10 : ∀ w ∈ wsL_law0_r10, w ∈ lw_tbl := by decide +kernel
theorem wl_r11 : ∀ w ∈ wsL_law0_r11, w ∈ lw_tbl := by decide +kernel
theorem wl_r12 : ∀ w ∈ wsL_law0_r12, w ∈ lw_tbl := by decide +kernel
theorem wl_r13 : ∀ w ∈ wsL_law0_r13, w ∈ lw_tbl := by decide +kernel
theorem wl_r14 : ∀ w ∈ wsL_law0_r14, w ∈ lw_tbl := by decide +kernel
theorem wl_r15 : ∀ w ∈ wsL_law0_r15, w ∈ lw_tbl := by decide +kernel
theorem wl_r16 : ∀ w ∈ wsL_law0_r16, w ∈ lw_tbl := by decide +kernel
theorem wl_r17 : ∀ w ∈ wsL_law0_r17, w ∈ lw_tbl3 := by decide +kernel
theorem wl_r18 : ∀ w ∈ wsL_law0_r18, w ∈ lw_tbl3 := by decide +kernel
theorem wl_r19 : ∀ w ∈ wsL_law0_r19, w ∈ lw_tbl := by decide +kernel
theorem wl_r20 : ∀ w ∈ wsL_law0_r20, w ∈ lw_tbl := by decide +kernel
theorem wl_r21 : ∀ w ∈ wsL_law0_r21, w ∈ lw_tbl := by decide +kernel
theorem wl_r22 : ∀ w ∈ wsL_law0_r22, w ∈ lw_tbl := by decide +kernel
theorem wl_r23 : ∀ w ∈ wsL_law0_r23, w ∈ lw_tbl := by decide +kernel
theorem wl_r24 : ∀ w ∈ wsL_law0_r24, w ∈ lw_tbl := by decide +kernel
theorem wl_r25a : ∀ w ∈ ([Cond.methodLink RL 239 yL_cell, Cond.static yL_cell, Cond.code yL_cell cL_cell 2 (some .int), Cond.constant RL 7 (1205586915), Cond.methodLink RL 242 yL_tenders, Cond.static yL_tenders] : List Cond), w ∈ lw_tbl := by decide +kernel
theorem wl_r25b : ∀ w ∈ ([Cond.constant RL 166 (100000), Cond.constant RL 167 (100001), Cond.methodLink RL 148 yL_addTender, Cond.static yL_addTender, Cond.codeWith yL_addTender cL_addTender 7 (some .int) [(0, 11, 14, 14), (0, 11, 20, 16)], Cond.classLink RL 16 "java/lang/IllegalStateException", Cond.methodLink RL 8 yX8_addTender, Cond.instanceMethod yX8_addTender, Cond.selects RX8 yX8_addTender yX8_addTender, Cond.code yX8_addTender cX8_addTender 6 (some .int), Cond.classLink RX8 44 "java/lang/IllegalStateException", Cond.initialized "java/lang/IllegalStateException", Cond.classLink RX8 47 RX7, Cond.instantiable RX7 6, Cond.initialized RX7, Cond.methodLink RX8 33 yX8_isOutside, Cond.static yX8_isOutside] : List Cond), w ∈ lw_tbl := by decide +kernel
set_option maxRecDepth 100000 in
theorem wl_w25 : Cond.code yL_tenders cL_tenders 18 (some .boolean) ∈ lw_tbl := (List.mem_append_right _ (List.mem_append_left _ (List.mem_of_getElem? (i := 96) rfl)))
theorem wl_r25 : ∀ w ∈ wsL_law0_r25, w ∈ lw_tbl := fun w hw => by
  have hw : w ∈ ([Cond.methodLink RL 239 yL_cell, Cond.static yL_cell, Cond.code yL_cell cL_cell 2 (some .int), Cond.constant RL 7 (1205586915), Cond.methodLink RL 242 yL_tenders, Cond.static yL_tenders] : List Cond) ++ (Cond.code yL_tenders cL_tenders 18 (some .boolean) :: ([Cond.constant RL 166 (100000), Cond.constant RL 167 (100001), Cond.methodLink RL 148 yL_addTender, Cond.static yL_addTender, Cond.codeWith yL_addTender cL_addTender 7 (some .int) [(0, 11, 14, 14), (0, 11, 20, 16)], Cond.classLink RL 16 "java/lang/IllegalStateException", Cond.methodLink RL 8 yX8_addTender, Cond.instanceMethod yX8_addTender, Cond.selects RX8 yX8_addTender yX8_addTender, Cond.code yX8_addTender cX8_addTender 6 (some .int), Cond.classLink RX8 44 "java/lang/IllegalStateException", Cond.initialized "java/lang/IllegalStateException", Cond.classLink RX8 47 RX7, Cond.instantiable RX7 6, Cond.initialized RX7, Cond.methodLink RX8 33 yX8_isOutside, Cond.static yX8_isOutside] : List Cond)) := hw
  rcases List.mem_append.mp hw with h | h
  · exact wl_r25a w h
  · rcases List.mem_cons.mp h with rfl | h
    · exact wl_w25
    · exact wl_r25b w h
theorem wl_r26 : ∀ w ∈ wsL_law0_r26, w ∈ lw_tbl := by decide +kernel
theorem wl_r27 : ∀ w ∈ wsL_law0_r27, w ∈ lw_tbl := by decide +kernel
theorem wl_r28 : ∀ w ∈ wsL_law0_r28, w ∈ lw_tbl := by decide +kernel
theorem wl_r29 : ∀ w ∈ wsL_law0_r29, w ∈ lw_tbl := by decide +kernel
theorem wl_r30 : ∀ w ∈ wsL_law0_r30, w ∈ lw_tbl := by decide +kernel
theorem wl_r31a : ∀ w ∈ ([Cond.fieldLink RX8 286 "TenderHall$Lot" "changes" "Ljava/util/ArrayList;", Cond.methodLink RX8 289 yX5_follow, Cond.methodLink RX8 139 yX8_awardToBest, Cond.instanceMethod yX8_awardToBest, Cond.selects RX8 yX8_awardToBest yX8_awardToBest, Cond.code yX8_awardToBest cX8_awardToBest 4 (some .int), Cond.classLink RX8 144 RX0, Cond.instantiable RX0 7, Cond.initialized RX0, Cond.fieldLink RX8 280 "TenderHall$Tender" "standing" "I", Cond.methodLink RX8 283 yX0_init, Cond.instanceMethod yX0_init, Cond.code yX0_init cX0_init 5 none, Cond.methodLink RX0 1 objectInit, Cond.fieldLink RX0 7 "TenderHall$Award" "number" "I", Cond.fieldLink RX0 13 "TenderHall$Award" "lot" "LTenderHall$Lot;", Cond.fieldLink RX0 17 "TenderHall$Award" "bid" "LTenderHall$Bid;", Cond.fieldLink RX0 21 "TenderHall$Award" "finalFrom" "I", Cond.methodLink RL 249 yL_halls, Cond.static yL_halls] : List Cond), w ∈ lw_tbl := by decide +kernel
theorem wl_r31b : ∀ w ∈ ([Cond.methodLink RL 183 yL_award, Cond.static yL_award, Cond.codeWith yL_award cL_award 5 (some .int) [(0, 7, 10, 22), (0, 7, 16, 16)]] : List Cond), w ∈ lw_tbl := by decide +kernel
set_option maxRecDepth 100000 in
theorem wl_w31 : Cond.code yL_halls cL_halls 21 (some .boolean) ∈ lw_tbl := (List.mem_append_right _ (List.mem_append_right _ (List.mem_append_right _ (List.mem_append_left _ (List.mem_of_getElem? (i := 148) rfl)))))
theorem wl_r31 : ∀ w ∈ wsL_law0_r31, w ∈ lw_tbl := fun w hw => by
  have hw : w ∈ ([Cond.fieldLink RX8 286 "TenderHall$Lot" "changes" "Ljava/util/ArrayList;", Cond.methodLink RX8 289 yX5_follow, Cond.methodLink RX8 139 yX8_awardToBest, Cond.instanceMethod yX8_awardToBest, Cond.selects RX8 yX8_awardToBest yX8_awardToBest, Cond.code yX8_awardToBest cX8_awardToBest 4 (some .int), Cond.classLink RX8 144 RX0, Cond.instantiable RX0 7, Cond.initialized RX0, Cond.fieldLink RX8 280 "TenderHall$Tender" "standing" "I", Cond.methodLink RX8 283 yX0_init, Cond.instanceMethod yX0_init, Cond.code yX0_init cX0_init 5 none, Cond.methodLink RX0 1 objectInit, Cond.fieldLink RX0 7 "TenderHall$Award" "number" "I", Cond.fieldLink RX0 13 "TenderHall$Award" "lot" "LTenderHall$Lot;", Cond.fieldLink RX0 17 "TenderHall$Award" "bid" "LTenderHall$Bid;", Cond.fieldLink RX0 21 "TenderHall$Award" "finalFrom" "I", Cond.methodLink RL 249 yL_halls, Cond.static yL_halls] : List Cond) ++ (Cond.code yL_halls cL_halls 21 (some .boolean) :: ([Cond.methodLink RL 183 yL_award, Cond.static yL_award, Cond.codeWith yL_award cL_award 5 (some .int) [(0, 7, 10, 22), (0, 7, 16, 16)]] : List Cond)) := hw
  rcases List.mem_append.mp hw with h | h
  · exact wl_r31a w h
  · rcases List.mem_cons.mp h with rfl | h
    · exact wl_w31
    · exact wl_r31b w h
theorem wl_r32 : ∀ w ∈ wsL_law0_r32, w ∈ lw_tbl := by decide +kernel
theorem wl_r33 : ∀ w ∈ wsL_law0_r33, w ∈ lw_tbl := by decide +kernel
theorem wl_r34 : ∀ w ∈ wsL_law0_r34, w ∈ lw_tbl := by decide +kernel
theorem wl_r35 : ∀ w ∈ wsL_law0_r35, w ∈ lw_tbl := by decide +kernel
theorem wl_wsX80 : ∀ w ∈ wsX80, w ∈ lw_tbl := by decide +kernel
theorem wl_wsJx4a65c0 : ∀ w ∈ wsJx4a65c0, w ∈ lw_tbl := by decide +kernel
theorem wl_wsX70 : ∀ w ∈ wsX70, w ∈ lw_tbl := by decide +kernel
theorem wl_wsX50 : ∀ w ∈ wsX50, w ∈ lw_tbl := by decide +kernel
theorem wl_wsX10 : ∀ w ∈ wsX10, w ∈ lw_tbl := by decide +kernel
theorem wl_wsX20 : ∀ w ∈ wsX20, w ∈ lw_tbl := by decide +kernel
theorem wl_wsX00 : ∀ w ∈ wsX00, w ∈ lw_tbl := by decide +kernel
theorem wl_wsX30 : ∀ w ∈ wsX30, w ∈ lw_tbl := by decide +kernel
theorem wl_wsJ40 : ∀ w ∈ wsJ40, w ∈ lw_tbl := by decide +kernel
theorem wl_wsX40 : ∀ w ∈ wsX40, w ∈ lw_tbl := by decide +kernel
theorem wsL_law_in0 : ∀ w ∈ wsL_law0, w ∈ lw_tbl3 := wl_ap (wl_ap (wl_ap (wl_ap (wl_ap (wl_ap (wl_ap (wl_ap (wl_ap (wl_ap (wl_ap (wl_ap (wl_l wl_r1) (wl_ap (wl_l wl_r2) (wl_ap (wl_l wl_r3) (wl_ap (wl_l wl_r4) (wl_ap (wl_l wl_r5) (wl_ap (wl_l wl_r6) (wl_ap (wl_l wl_r7) (wl_ap (wl_l wl_r8) (wl_ap (wl_l wl_r9) (wl_ap (wl_l wl_r10) (wl_ap (wl_l wl_r11) (wl_ap (wl_l wl_r12) (wl_ap (wl_l wl_r13) (wl_ap (wl_l wl_r14) (wl_ap (wl_l wl_r15) (wl_ap (wl_l wl_r16) (wl_ap wl_r17 (wl_ap wl_r18 (wl_ap (wl_l wl_r19) (wl_ap (wl_l wl_r20) (wl_ap (wl_l wl_r21) (wl_ap (wl_l wl_r22) (wl_ap (wl_l wl_r23) (wl_ap (wl_l wl_r24) (wl_ap (wl_l wl_r25) (wl_ap (wl_l wl_r26) (wl_ap (wl_l wl_r27) (wl_ap (wl_l wl_r28) (wl_ap (wl_l wl_r29) (wl_ap (wl_l wl_r30) (wl_ap (wl_l wl_r31) (wl_ap (wl_l wl_r32) (wl_ap (wl_l wl_r33) (wl_ap (wl_l wl_r34) (wl_l wl_r35))))))))))))))))))))))))))))))))))) (wl_l wl_wsX80)) (wl_l wl_wsJx4a65c0)) (wl_l wl_wsX70)) (wl_l wl_wsX50)) (wl_l wl_wsX10)) (wl_l wl_wsX20)) (wl_l wl_wsX00)) (wl_l wl_wsX30)) (wl_l wl_wsJ40)) (wl_l wl_wsX40)) (fun w h => absurd h List.not_mem_nil)
theorem wsL_law_x0 : ∀ w ∈ (vx_at0 RX8 39 "java/lang/IllegalArgumentException" ["java/lang/RuntimeException", "java/lang/Exception"]).filter goodWord, w ∈ lw_tbl3 := by decide +kernel
theorem wsL_law_x1 : ∀ w ∈ (vx_at0 RX8 78 "java/lang/IndexOutOfBoundsException" ["java/lang/RuntimeException", "java/lang/Exception"]).filter goodWord, w ∈ lw_tbl3 := by decide +kernel
theorem wsL_law_x2 : ∀ w ∈ (vx_at0 RX8 46 "java/lang/IllegalStateException" ["java/lang/RuntimeException", "java/lang/Exception"]).filter goodWord, w ∈ lw_tbl3 := by decide +kernel
theorem wsL_law_in : ∀ w ∈ wsL_law, w ∈ lw_tbl3 := fun w h => (List.mem_append.mp h).elim (fun h => (List.mem_append.mp h).elim (fun h => (List.mem_append.mp h).elim (fun h => wsL_law_in0 w h) (fun h => wsL_law_x0 w h)) (fun h => wsL_law_x1 w h)) (fun h => wsL_law_x2 w h)
theorem inlX0 : ∀ w ∈ wsX00, w ∈ wsL_law := fun _ h => List.mem_append_left _ (List.mem_append_left _ (List.mem_append_left _ (List.mem_append_left _ (List.mem_append_left _ (List.mem_append_left _ (List.mem_append_left _ (List.mem_append_right _ h)))))))
theorem inX0 : ∀ w ∈ wsX00, w ∈ lw_tbl3 := fun w h => wsL_law_in w (inlX0 w h)
theorem inlX1 : ∀ w ∈ wsX10, w ∈ wsL_law := fun _ h => List.mem_append_left _ (List.mem_append_left _ (List.mem_append_left _ (List.mem_append_left _ (List.mem_append_left _ (List.mem_append_left _ (List.mem_append_left _ (List.mem_append_left _ (List.mem_append_left _ (List.mem_append_right _ h)))))))))
theorem inX1 : ∀ w ∈ wsX10, w ∈ lw_tbl3 := fun w h => wsL_law_in w (inlX1 w h)
theorem inlX2 : ∀ w ∈ wsX20, w ∈ wsL_law := fun _ h => List.mem_append_left _ (List.mem_append_left _ (List.mem_append_left _ (List.mem_append_left _ (List.mem_append_left _ (List.mem_append_left _ (List.mem_append_left _ (List.mem_append_left _ (List.mem_append_right _ h))))))))
theorem inX2 : ∀ w ∈ wsX20, w ∈ lw_tbl3 := fun w h => wsL_law_in w (inlX2 w h)
theorem inlX3 : ∀ w ∈ wsX30, w ∈ wsL_law := fun _ h => List.mem_append_left _ (List.mem_append_left _ (List.mem_append_left _ (List.mem_append_left _ (List.mem_append_left _ (List.mem_append_left _ (List.mem_append_right _ h))))))
theorem inX3 : ∀ w ∈ wsX30, w ∈ lw_tbl3 := fun w h => wsL_law_in w (inlX3 w h)
theorem inlX4 : ∀ w ∈ wsX40, w ∈ wsL_law := fun _ h => List.mem_append_left _ (List.mem_append_left _ (List.mem_append_left _ (List.mem_append_left _ (List.mem_append_right _ h))))
theorem inX4 : ∀ w ∈ wsX40, w ∈ lw_tbl3 := fun w h => wsL_law_in w (inlX4 w h)
theorem inlX5 : ∀ w ∈ wsX50, w ∈ wsL_law := fun _ h => List.mem_append_left _ (List.mem_append_left _ (List.mem_append_left _ (List.mem_append_left _ (List.mem_append_left _ (List.mem_append_left _ (List.mem_append_left _ (List.mem_append_left _ (List.mem_append_left _ (List.mem_append_left _ (List.mem_append_right _ h))))))))))
theorem inX5 : ∀ w ∈ wsX50, w ∈ lw_tbl3 := fun w h => wsL_law_in w (inlX5 w h)
theorem inlX7 : ∀ w ∈ wsX70, w ∈ wsL_law := fun _ h => List.mem_append_left _ (List.mem_append_left _ (List.mem_append_left _ (List.mem_append_left _ (List.mem_append_left _ (List.mem_append_left _ (List.mem_append_left _ (List.mem_append_left _ (List.mem_append_left _ (List.mem_append_left _ (List.mem_append_left _ (List.mem_append_right _ h)))))))))))
theorem inX7 : ∀ w ∈ wsX70, w ∈ lw_tbl3 := fun w h => wsL_law_in w (inlX7 w h)
theorem inlX8 : ∀ w ∈ wsX80, w ∈ wsL_law := fun _ h => List.mem_append_left _ (List.mem_append_left _ (List.mem_append_left _ (List.mem_append_left _ (List.mem_append_left _ (List.mem_append_left _ (List.mem_append_left _ (List.mem_append_left _ (List.mem_append_left _ (List.mem_append_left _ (List.mem_append_left _ (List.mem_append_left _ (List.mem_append_left _ (List.mem_append_right _ h)))))))))))))
theorem inX8 : ∀ w ∈ wsX80, w ∈ lw_tbl3 := fun w h => wsL_law_in w (inlX8 w h)
theorem inlJ4 : ∀ w ∈ wsJ40, w ∈ wsL_law := fun _ h => List.mem_append_left _ (List.mem_append_left _ (List.mem_append_left _ (List.mem_append_left _ (List.mem_append_left _ (List.mem_append_right _ h)))))
theorem inJ4 : ∀ w ∈ wsJ40, w ∈ lw_tbl3 := fun w h => wsL_law_in w (inlJ4 w h)
theorem inlJx4a65c : ∀ w ∈ wsJx4a65c0, w ∈ wsL_law := fun _ h => List.mem_append_left _ (List.mem_append_left _ (List.mem_append_left _ (List.mem_append_left _ (List.mem_append_left _ (List.mem_append_left _ (List.mem_append_left _ (List.mem_append_left _ (List.mem_append_left _ (List.mem_append_left _ (List.mem_append_left _ (List.mem_append_left _ (List.mem_append_right _ h))))))))))))
theorem inJx4a65c : ∀ w ∈ wsJx4a65c0, w ∈ lw_tbl3 := fun w h => wsL_law_in w (inlJx4a65c w h)
