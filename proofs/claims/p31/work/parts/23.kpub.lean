/-! the class: more helpers, the public questions -/
abbrev ks (a b : Nat) : Nat := if a = 0 then b else a
theorem ks_l {a b : Nat} (h : a ≠ 0) : ks a b = a := if_neg h
theorem ks_r {a b : Nat} (h : a = 0) : ks a b = b := if_pos h
theorem ks_0 {a b : Nat} (h : ks a b = 0) : a = 0 ∧ b = 0 := by
  by_cases h1 : a = 0
  · exact ⟨h1, (ks_r h1).symm.trans h⟩
  · exact absurd ((ks_l h1).symm.trans h) h1
theorem nI01 {n : Nat} (h : n < 2) : nI n = bi (decide (n = 1)) := by
  have : n = 0 ∨ n = 1 := by omega
  rcases this with rfl | rfl <;> rfl
theorem d_ge1 {a b : Nat} (ha : a < 2 ^ 31) (hb : b < 2 ^ 31) : nI b ≤ nI a - 1 ↔ b < a := by
  have h : nI a - 1 < nI b ↔ a ≤ b := n_sub1_lt ha hb
  rw [← Int32.not_lt, h]
  omega
section KG
variable (F : Nat → Nat → Nat) (L : Nat → List Nat)
abbrev kPap (h b t : Nat) : Prop := ∀ k, k < 6 → ¬ (t / 2 ^ k % 2 = 1 ∧ F (b * 6 + k) (F 0 h) ≤ F 5 h)
def kMay (h b w : Nat) (g : Int32) : Bool := match kBid F L (F 1 w) b with
  | none => false
  | some o => decide (¬ F 0 (F 2 w) = b ∧ ¬ kComp F L h b w ∧ (¬ g = nI 2 ∨ F 5 o = 2))
def kHolds (h a b : Nat) : Bool := match kBid F L a b with
  | none => false
  | some o => decide (¬ (F 5 o = 2 ∨ F 5 o = 3)) && (match kStand F L h a with | none => true | some w => decide (F 5 w = 0))
abbrev kLotK (h : Nat) (t k : Int32) : Nat := ks (kIx t (L (F 1 h)).length) (kIx k (L (F 5 (ga (L (F 1 h)) t))).length)
abbrev kLotV (h : Nat) (t k : Int32) : Nat := ga (L (F 5 (ga (L (F 1 h)) t))) k
def kIn (a b : Nat) : Bool := match kBid F L a b with
  | none => false
  | some o => decide (F 5 o = 1)
def kSc (a b : Nat) : Int32 := match kBid F L a b with
  | none => -1
  | some o => if F 5 o = 1 then nI (kScore F L a o) else -1
def kAw (h a : Nat) : Int32 := optI ((kStand F L h a).map (F 0))
def kRun (h k : Nat) : Nat := if F 4 (F 0 k) = 1 then 0 else if 0 < kOpen F L h (F 0 k) then 1 else 2
abbrev kOwes (h b : Nat) (j : Nat) : Nat := if F 4 (F 0 (gt (L (F 4 h)) j)) = 1 ∧ F 0 (F 2 (F 0 (gt (L (F 4 h)) j))) = b then F 1 (gt (L (F 4 h)) j) else 0
abbrev kLost (h b : Nat) (j : Nat) : Nat := if F 6 (gt (L (F 2 h)) j) = 1 ∧ F 0 (F 2 (gt (L (F 2 h)) j)) = b then F 2 (F 1 (gt (L (F 2 h)) j)) else 0
abbrev kHeld1 (h b a : Nat) (j : Nat) : Nat := if kHolds F L h (gt (L a) j) b = true then F 2 (gt (L a) j) else 0
abbrev kHeld (h b : Nat) (i : Nat) : Nat := sm (kHeld1 F L h b (F 5 (gt (L (F 1 h)) i))) (L (F 5 (gt (L (F 1 h)) i))).length
end KG
theorem kLot_kd {kd : Nat → Nat} {F : Nat → Nat → Nat} {L : Nat → List Nat} (hW : WF kd F L) {h : Nat} {t k : Int32} (hk : kd h = 9) (q : kLotK F L h t k = 0) : kd (kLotV F L h t k) = 7 := by
  obtain ⟨q1, q2⟩ := ks_0 q
  exact hW.ela (hW.ref (hW.ela (hW.ref hk rfl (by decide)) q1) rfl (by decide)) q2
set_option maxHeartbeats 4000000 in
set_option maxRecDepth 100000 in
theorem ck_paperSlot (l : Launch)   (b : Nat) (k : Nat) (hb8 : b < 8) (hk6 : k < 6) : Met l yX8_paperSlot wsX8_paperSlot ({ frames := 1, cells := 0, slots := 0, locals := 22 }) (va_Pc [.int (nI b), .int (nI k)] (fun _ => True)) (vp_Si (fun ri => ri = nI (b * 6 + k))) 0 0 (fun _ => False) := by
  refine Met.ofW (cc := cX8_paperSlot) (maxL := 2) (ret := (some .int)) (by decide) rfl ?_
  intro p e s m args below meth c s₁ B hml hv
  obtain ⟨rfl, -⟩ := hv
  have hx := B.exec
  have hb := B.bytes
  have hr := B.returns
  have hts := atoms_spec (ws := wsX8_paperSlot) B.pre
  have hown : s.vm.findClass RX8 = some m.cls := findClass_of_methodNamed B.named
  have hlocks := B.notSynchronized
  have hl := lv_entry ([.int (nI b), .int (nI k)]) (n := 2) (Nat.le_of_ble_eq_true rfl)
  rw [lg_entry_eq]
  generalize (lg_sl ([.int (nI b), .int (nI k)]) ++ List.replicate (2 - (lg_sl ([.int (nI b), .int (nI k)])).length) Slot.unset).toArray = ls at hl ⊢
  have hl : lv_has ls 2 [(0, .int (nI b)), (1, .int (nI k))] := hl
  refine lv_iload_n hx hb dX8_paperSlot_0 rfl (lv_at hl 0 rfl) ?_
  refine lv_iconst (v := nI 0) hx hb dX8_paperSlot_1 (by decide) ?_
  refine lv_bipush (v := nI 7) hx hb dX8_paperSlot_2 (by decide) ?_
  refine vp_callSi (W.runS (As := [.int (nI b), .int (nI 0), .int (nI 7)]) (rest := []) ⟨hx, hb, hml, hown, hts⟩ (ck_isOutside l (nI b) (nI 0) (nI 7)) (va_cwS 3 hts gX8_paperSlot_X8_isOutside rfl rfl rfl kd_X8_isOutside ⟨Nat.le_of_ble_eq_true rfl, Nat.le_of_ble_eq_true rfl⟩) ⟨fun _ _ _ _ q => q, fun U hU hW => ⟨rfl, trivial⟩⟩ rfl rfl hl.1 rfl (lv_room (Nat.le_of_ble_eq_true rfl)) dX8_paperSlot_4 ⟨Nat.le_of_ble_eq_true rfl, Nat.le_of_ble_eq_true rfl⟩) (fun r_1 hr_1 => ?_)
  subst hr_1
  refine b_if_ne (tgt := 19) hx hb dX8_paperSlot_7 (by decide)  (fun c_2 => absurd c_2 (by rw [out_no (by omega) (by omega) (by decide)]; decide)) (fun c_2 => ?_)
  refine lv_iload_n hx hb dX8_paperSlot_10 rfl (lv_at hl 1 rfl) ?_
  refine lv_iconst (v := nI 0) hx hb dX8_paperSlot_11 (by decide) ?_
  refine lv_iconst (v := nI 5) hx hb dX8_paperSlot_12 (by decide) ?_
  refine vp_callSi (W.runS (As := [.int (nI k), .int (nI 0), .int (nI 5)]) (rest := []) ⟨hx, hb, hml, hown, hts⟩ (ck_isOutside l (nI k) (nI 0) (nI 5)) (va_cwS 3 hts gX8_paperSlot_X8_isOutside rfl rfl rfl kd_X8_isOutside ⟨Nat.le_of_ble_eq_true rfl, Nat.le_of_ble_eq_true rfl⟩) ⟨fun _ _ _ _ q => q, fun U hU hW => ⟨rfl, trivial⟩⟩ rfl rfl hl.1 rfl (lv_room (Nat.le_of_ble_eq_true rfl)) dX8_paperSlot_13 ⟨Nat.le_of_ble_eq_true rfl, Nat.le_of_ble_eq_true rfl⟩) (fun r_3 hr_3 => ?_)
  subst hr_3
  refine b_if_eq (tgt := 21) hx hb dX8_paperSlot_16 (by decide)  (fun c_4 => ?_) (fun c_4 => absurd c_4 (by rw [out_no (by omega) (by omega) (by decide)]; decide))
  refine lv_iload_n hx hb dX8_paperSlot_21 rfl (lv_at hl 0 rfl) ?_
  refine lv_bipush (v := nI 6) hx hb dX8_paperSlot_22 (by decide) ?_
  refine n_imul hx hb dX8_paperSlot_24 (z := b * 6) rfl ?_
  refine lv_iload_n hx hb dX8_paperSlot_25 rfl (lv_at hl 1 rfl) ?_
  refine n_iadd hx hb dX8_paperSlot_26 (z := (b * 6) + k) rfl ?_
  exact W.iret (v := nI ((b * 6) + k)) hx hb hr (fun U9 ht hW9 => ⟨_, rfl, congrArg nI (show (b * 6) + k = b * 6 + k from by simp [c_2, c_4]), ht⟩) (fun _ h => by cases h) dX8_paperSlot_27
set_option maxHeartbeats 4000000 in
set_option maxRecDepth 100000 in
theorem ck_hasPapers (l : Launch) (D : va_G) (cI cO cb : ClassId) (eA mi : Nat) (st : Nat → Nat) {A : Nat → Prop} (ws : va_W) (hD : va_D A ws) {own kd : Nat → Nat} {F : Nat → Nat → Nat} {L : Nat → List Nat} (hC : CW cI cO eA st own kd F L ws) (hW : WF kd F L) (hs : sInj st)  (h : Nat) (hk_h : kd h = 9) (b : Nat) (t : Nat) (hb8 : b < 8) (ht64 : t < 64) : Met l yX8_hasPapers wsX8_hasPapers ({ frames := 2, cells := 0, slots := 0, locals := 43 }) (va_Pc [.ref h, .int (nI b), .int (nI t)] (cB D cI cO cb eA mi st A ws)) (vp_Si (fun ri => ri = bi (decide (kPap F h b t)))) 0 0 (fun _ => False) := by
  refine Met.ofW (cc := cX8_hasPapers) (maxL := 6) (ret := (some .boolean)) (by decide) rfl ?_
  intro p e s m args below meth c s₁ B hml hv
  obtain ⟨rfl, hP, hK, hG, hA⟩ := hv
  have hx := B.exec
  have hb := B.bytes
  have hr := B.returns
  have hts := atoms_spec (ws := wsX8_hasPapers) B.pre
  have hown : s.vm.findClass RX8 = some m.cls := findClass_of_methodNamed B.named
  have hlocks := B.notSynchronized
  have hin_X8 : ∀ w ∈ wsX80, w ∈ wsX8_hasPapers := fun w h => List.mem_cons_of_mem _ (List.mem_append_right _ h)
  have l_9 := (hts (.fieldLink RX8 9 "TenderHall" "paperUntil" "[I") (List.mem_of_getElem? (i := 1) rfl))
  have l_29 := (hts (.fieldLink RX8 29 "TenderHall" "day" "I") (List.mem_of_getElem? (i := 2) rfl))
  have hS : va_S A s.heap s.heap [] := va_S.rf
  have hD0 := hD
  have hl := lv_entry ([.ref h, .int (nI b), .int (nI t)]) (n := 6) (Nat.le_of_ble_eq_true rfl)
  rw [lg_entry_eq]
  generalize (lg_sl ([.ref h, .int (nI b), .int (nI t)]) ++ List.replicate (6 - (lg_sl ([.ref h, .int (nI b), .int (nI t)])).length) Slot.unset).toArray = ls at hl ⊢
  have hl : lv_has ls 6 [(0, .ref h), (1, .int (nI b)), (2, .int (nI t))] := hl
  refine lv_iconst (v := nI 0) hx hb dX8_hasPapers_0 (by decide) ?_
  refine lv_istore_n (lv' := [(3, .int (nI 0)), (0, .ref h), (1, .int (nI b)), (2, .int (nI t))]) hx hb dX8_hasPapers_1 rfl hl (by decide) rfl (fun ls hl => ?_)
  refine w_loopJ (n := 6) (nL := 6) (fun k => nall (fun j => t / 2 ^ j % 2 = 1 ∧ F (b * 6 + j) (F 0 h) ≤ F 5 h) k) (fun k => [(0, .ref h), (1, .int (nI b)), (2, .int (nI t)), (3, .int (nI k))]) (fun k hb_2 hJ_3 ih_1 ls hl => ?_) 0 (Nat.zero_le _) nall.zero ls (lv_sub hl [1, 2, 3, 0] rfl)
  refine lv_iload_n hx hb dX8_hasPapers_2 rfl (lv_at hl 3 rfl) ?_
  refine lv_bipush (v := nI 6) hx hb dX8_hasPapers_3 (by decide) ?_
  refine n_icmp_ge (tgt := 60) hx hb dX8_hasPapers_5 (by decide) (by omega) (by decide) (fun c_4 => ?_) (fun c_4 => ?_)
  · refine lv_iconst (v := nI 1) hx hb dX8_hasPapers_60 (by decide) ?_
    exact W.zret (v := nI 1) hx hb hr rfl (fun U9 ht hW9 => ⟨_, rfl, bi_one (by rw [decide_eq_true_eq]; exact fun j hj => hJ_3 j (by omega)), ht⟩) (fun _ h => by cases h) dX8_hasPapers_61
  · refine lv_iload_n hx hb dX8_hasPapers_8 rfl (lv_at hl 1 rfl) ?_
    refine lv_iload_n hx hb dX8_hasPapers_9 rfl (lv_at hl 3 rfl) ?_
    refine vp_callSi (W.runS (As := [.int (nI b), .int (nI k)]) (rest := []) ⟨hx, hb, hml, hown, hts⟩ (ck_paperSlot l b k (by omega) (by omega)) (va_cwS 2 hts gX8_hasPapers_X8_paperSlot rfl rfl rfl kd_X8_paperSlot ⟨Nat.le_of_ble_eq_true rfl, Nat.le_of_ble_eq_true rfl⟩) ⟨fun _ _ _ _ q => q, fun U hU hW => ⟨rfl, trivial⟩⟩ rfl rfl hl.1 rfl (lv_room (Nat.le_of_ble_eq_true rfl)) dX8_hasPapers_10 ⟨Nat.le_of_ble_eq_true rfl, Nat.le_of_ble_eq_true rfl⟩) (fun r_5 hr_5 => ?_)
    subst hr_5
    refine lv_istore (lv' := [(4, .int (nI (b * 6 + k))), (0, .ref h), (1, .int (nI b)), (2, .int (nI t)), (3, .int (nI k))]) hx hb dX8_hasPapers_13 hl (by decide) rfl (fun ls hl => ?_)
    refine lv_iload hx hb dX8_hasPapers_15 (lv_at hl 0 rfl) ?_
    refine lv_iconst (v := (-1)) hx hb dX8_hasPapers_17 (by decide) ?_
    refine lv_icmp_ne (tgt := 25) hx hb dX8_hasPapers_18 (by decide) (fun _ => ?_) (fun c9 => absurd c9 (nI_nem1 (by omega)))
    refine lv_aload_n hx hb dX8_hasPapers_25 rfl (lv_at hl 1 rfl) ?_
    have hm_6 : (h, .inr (9, [.ref (F 0 h), .ref (F 1 h), .ref (F 2 h), .ref (F 3 h), .ref (F 4 h), .int (nI (F 5 h))])) ∈ ws := hC.at hk_h (by decide) (by decide)
    refine c_get (C := RX8) (T := TX8) (N := 6) hx hb hts hin_X8 hown hK hP hm_6 rfl 0 (by decide) l_9 (fun _ h9 => h9) rfl dX8_hasPapers_26 ?_
    have hk_7 : kd (F 0 h) = 11 := hW.ref hk_h rfl (by decide)
    refine lv_iload hx hb dX8_hasPapers_29 (lv_at hl 0 rfl) ?_
    have hm_8 : ((F 0 h), .inl (cI, 48, .inl (fun i => nI (F i (F 0 h)) - 1))) ∈ ws := hC.at hk_7 (by decide) (by decide)
    have hn_9 : F (b * 6 + k) (F 0 h) < 2002 := hW.num hk_7 rfl (by decide)
    refine c_iald hx hb hK hP 0 hm_8 rfl (by omega) (by decide) dX8_hasPapers_31 ?_
    refine lv_istore (lv' := [(5, .int (nI (F (b * 6 + k) (F 0 h)) - 1)), (4, .int (nI (b * 6 + k))), (0, .ref h), (1, .int (nI b)), (2, .int (nI t)), (3, .int (nI k))]) hx hb dX8_hasPapers_32 hl (by decide) rfl (fun ls hl => ?_)
    refine lv_iload_n hx hb dX8_hasPapers_34 rfl (lv_at hl 4 rfl) ?_
    refine lv_iload_n hx hb dX8_hasPapers_35 rfl (lv_at hl 5 rfl) ?_
    refine lv_ishr hx hb dX8_hasPapers_36 ?_
    rw [show (nI t) >>> ((nI k) &&& 31) = nI (t / 2 ^ k) from (n_shr (by omega) (by omega))]
    refine lv_iconst (v := nI 1) hx hb dX8_hasPapers_37 (by decide) ?_
    refine lv_iand hx hb dX8_hasPapers_38 ?_
    rw [show (nI (t / 2 ^ k)) &&& (nI 1) = nI (t / 2 ^ k % 2) from (n_and1 (n_div2k (by omega)))]
    refine lv_iconst (v := nI 1) hx hb dX8_hasPapers_39 (by decide) ?_
    refine n_icmp_ne (tgt := 54) hx hb dX8_hasPapers_40 (by decide) (by have f1 := (Nat.mod_lt (t / 2 ^ k) (show 2 > 0 by decide)); omega) (by decide) (fun c_10 => ?_) (fun c_10 => ?_)
    · refine n_iinc (k := 5) (lv' := [(3, .int (nI (k + 1))), (5, .int (nI (F (b * 6 + k) (F 0 h)) - 1)), (4, .int (nI (b * 6 + k))), (0, .ref h), (1, .int (nI b)), (2, .int (nI t))]) hx hb dX8_hasPapers_54 hl rfl (by decide) rfl (fun ls hl => ?_)
      refine lv_goto (tgt := 2) hx hb dX8_hasPapers_57 (by decide) ?_
      refine ih_1 (by omega) (hJ_3.succ (fun q9 => by omega)) ls ?_
      show lv_has ls 6 [(0, .ref h), (1, .int (nI b)), (2, .int (nI t)), (3, .int (nI (k + 1)))]
      exact lv_sub hl [3, 4, 5, 0] rfl
    · refine lv_iload hx hb dX8_hasPapers_43 (lv_at hl 0 rfl) ?_
      refine lv_aload_n hx hb dX8_hasPapers_45 rfl (lv_at hl 2 rfl) ?_
      refine c_get (C := RX8) (T := TX8) (N := 6) hx hb hts hin_X8 hown hK hP hm_6 rfl 5 (by decide) l_29 (fun _ h9 => h9) rfl dX8_hasPapers_46 ?_
      have hn_11 : F 5 h < 2001 := hW.num hk_h rfl (by decide)
      refine lv_icmp_ge (tgt := 54) hx hb dX8_hasPapers_49 (by decide)  (fun c_12 => ?_) (fun c_12 => ?_)
      · rw [d_ge1 (by omega) (by omega)] at c_12
        refine n_iinc (k := 5) (lv' := [(3, .int (nI (k + 1))), (5, .int (nI (F (b * 6 + k) (F 0 h)) - 1)), (4, .int (nI (b * 6 + k))), (0, .ref h), (1, .int (nI b)), (2, .int (nI t))]) hx hb dX8_hasPapers_54 hl rfl (by decide) rfl (fun ls hl => ?_)
        refine lv_goto (tgt := 2) hx hb dX8_hasPapers_57 (by decide) ?_
        refine ih_1 (by omega) (hJ_3.succ (fun q9 => by omega)) ls ?_
        show lv_has ls 6 [(0, .ref h), (1, .int (nI b)), (2, .int (nI t)), (3, .int (nI (k + 1)))]
        exact lv_sub hl [3, 4, 5, 0] rfl
      · rw [d_ge1 (by omega) (by omega)] at c_12
        refine lv_iconst (v := nI 0) hx hb dX8_hasPapers_52 (by decide) ?_
        exact W.zret (v := nI 0) hx hb hr rfl (fun U9 ht hW9 => ⟨_, rfl, bi_zero (by rw [decide_eq_false_iff_not]; intro q9; exact q9 k (by omega) ⟨by omega, by omega⟩), ht⟩) (fun _ h => by cases h) dX8_hasPapers_53
set_option maxHeartbeats 4000000 in
set_option maxRecDepth 100000 in
theorem ck_mayComplain (l : Launch) (D : va_G) (cI cO cb : ClassId) (eA mi : Nat) (st : Nat → Nat) {A : Nat → Prop} (ws : va_W) (hD : va_D A ws) {own kd : Nat → Nat} {F : Nat → Nat → Nat} {L : Nat → List Nat} (hC : CW cI cO eA st own kd F L ws) (hW : WF kd F L) (hs : sInj st)  (h : Nat) (hk_h : kd h = 9) (b : Nat) (w : Nat) (hk_w : kd w = 2) (g : Int32) (hb8 : b < 8) : Met l yX8_mayComplain wsX8_mayComplain ({ frames := 4, cells := 0, slots := 0, locals := 88 }) (va_Pc [.ref h, .int (nI b), .ref w, .int g] (cB D cI cO cb eA mi st A ws)) (vp_Si (fun ri => ri = bi (kMay F L h b w g))) 0 0 (fun _ => False) := by
  refine Met.ofW (cc := cX8_mayComplain) (maxL := 5) (ret := (some .boolean)) (by decide) rfl ?_
  intro p e s m args below meth c s₁ B hml hv
  obtain ⟨rfl, hP, hK, hG, hA⟩ := hv
  have hx := B.exec
  have hb := B.bytes
  have hr := B.returns
  have hts := atoms_spec (ws := wsX8_mayComplain) B.pre
  have hown : s.vm.findClass RX8 = some m.cls := findClass_of_methodNamed B.named
  have hlocks := B.notSynchronized
  have hin_X0 : ∀ w ∈ wsX00, w ∈ wsX8_mayComplain := fun w h => List.mem_cons_of_mem _ (List.mem_append_left _ (List.mem_append_left _ (List.mem_append_left _ (List.mem_append_left _ (List.mem_append_left _ (List.mem_append_right _ h))))))
  have hin_X1 : ∀ w ∈ wsX10, w ∈ wsX8_mayComplain := fun w h => List.mem_cons_of_mem _ (List.mem_append_left _ (List.mem_append_left _ (List.mem_append_left _ (List.mem_append_left _ (List.mem_append_right _ h)))))
  have l_251 := (hts (.fieldLink RX8 251 "TenderHall$Award" "lot" "LTenderHall$Lot;") (List.mem_of_getElem? (i := 1) rfl))
  have l_152 := (hts (.fieldLink RX8 152 "TenderHall$Award" "bid" "LTenderHall$Bid;") (List.mem_of_getElem? (i := 2) rfl))
  have l_156 := (hts (.fieldLink RX8 156 "TenderHall$Bid" "bidder" "I") (List.mem_of_getElem? (i := 3) rfl))
  have l_116 := (hts (.fieldLink RX8 116 "TenderHall$Bid" "status" "LTenderHall$Status;") (List.mem_of_getElem? (i := 4) rfl))
  have l_307 := (hts (.fieldLink RX8 307 "TenderHall$Status" "LACKS_PAPERS" "LTenderHall$Status;") (List.mem_of_getElem? (i := 5) rfl))
  have hS : va_S A s.heap s.heap [] := va_S.rf
  have hD0 := hD
  have hl := lv_entry ([.ref h, .int (nI b), .ref w, .int g]) (n := 5) (Nat.le_of_ble_eq_true rfl)
  rw [lg_entry_eq]
  generalize (lg_sl ([.ref h, .int (nI b), .ref w, .int g]) ++ List.replicate (5 - (lg_sl ([.ref h, .int (nI b), .ref w, .int g])).length) Slot.unset).toArray = ls at hl ⊢
  have hl : lv_has ls 5 [(0, .ref h), (1, .int (nI b)), (2, .ref w), (3, .int g)] := hl
  refine lv_aload_n hx hb dX8_mayComplain_0 rfl (lv_at hl 2 rfl) ?_
  have hm_1 : (w, .inr (2, [.int (nI (F 0 w)), .ref (F 1 w), .ref (F 2 w), .int (nI (F 3 w)), .int (nI (F 4 w)), .int (nI (F 5 w)), .int (nI (F 6 w))])) ∈ ws := hC.at hk_w (by decide) (by decide)
  refine c_get (C := RX0) (T := TX0) (N := 7) hx hb hts hin_X0 hown hK hP hm_1 rfl 1 (by decide) l_251 (fun _ h9 => h9) rfl dX8_mayComplain_1 ?_
  have hk_2 : kd (F 1 w) = 7 := hW.ref hk_w rfl (by decide)
  refine lv_iload_n hx hb dX8_mayComplain_4 rfl (lv_at hl 1 rfl) ?_
  have hm_3 : (F 1 w, .inr (7, [.ref (F 0 (F 1 w)), .int (nI (F 1 (F 1 w))), .int (nI (F 2 (F 1 w))), .ref (F 3 (F 1 w)), .ref (F 4 (F 1 w))])) ∈ ws := hC.at hk_2 (by decide) (by decide)
  refine va_csq (W.runV (As := [.int (nI b)]) (rest := []) ⟨hx, hb, hml, hown, hts⟩ (ck_bidOf l D cI cO cb eA mi st ws hD hC hW hs (F 1 w) hk_2 b (by omega)) (cwV 1 hts gX8_mayComplain_X5_bidOf rfl rfl rfl kd_X5_bidOf ⟨Nat.le_of_ble_eq_true rfl, Nat.le_of_ble_eq_true rfl⟩) ⟨cB_blind, c_recv hK hP rfl hm_3, cB_pre hK hG hA hS hP _⟩ rfl rfl hl.1 rfl (lv_room (Nat.le_of_ble_eq_true rfl)) dX8_mayComplain_5 ⟨Nat.le_of_ble_eq_true rfl, Nat.le_of_ble_eq_true rfl⟩) (fun r_4 hr_4 => ?_)
  subst hr_4
  rcases ho_5 : kBid F L (F 1 w) b with _ | o_5
  · show W _ _ _ _ _ _ _ _ _ _ _ _ _ _ _ (F0 _ _ _ (.null :: _))
    refine lv_astoreN (lv' := [(4, .null), (0, .ref h), (1, .int (nI b)), (2, .ref w), (3, .int g)]) hx hb dX8_mayComplain_8 hl (by decide) rfl (fun ls hl => ?_)
    refine lv_aloadN hx hb dX8_mayComplain_10 (lv_at hl 0 rfl) ?_
    refine lv_ifnullN (tgt := 35) hx hb dX8_mayComplain_12 (by decide) ?_
    refine lv_iconst (v := nI 0) hx hb dX8_mayComplain_35 (by decide) ?_
    exact W.zret (v := nI 0) hx hb hr rfl (fun U9 ht hW9 => ⟨_, rfl, bi_zero (by unfold kMay; rw [ho_5]; try (show decide _ = false; rw [decide_eq_false_iff_not]; rintro ⟨q1, q2, q3⟩; first | omega | contradiction)), ht⟩) (fun _ h => by cases h) dX8_mayComplain_36
  · show W _ _ _ _ _ _ _ _ _ _ _ _ _ _ _ (F0 _ _ _ (.ref o_5 :: _))
    have hk_6 : kd o_5 = 3 := kBid_kd hW hk_2 ho_5
    refine lv_astore (lv' := [(4, .ref o_5), (0, .ref h), (1, .int (nI b)), (2, .ref w), (3, .int g)]) hx hb dX8_mayComplain_8 hl (by decide) rfl (fun ls hl => ?_)
    refine lv_aload hx hb dX8_mayComplain_10 (lv_at hl 0 rfl) ?_
    refine lv_ifnull hx hb dX8_mayComplain_12 ?_
    refine lv_aload_n hx hb dX8_mayComplain_15 rfl (lv_at hl 3 rfl) ?_
    refine c_get (C := RX0) (T := TX0) (N := 7) hx hb hts hin_X0 hown hK hP hm_1 rfl 2 (by decide) l_152 (fun _ h9 => h9) rfl dX8_mayComplain_16 ?_
    have hk_7 : kd (F 2 w) = 3 := hW.ref hk_w rfl (by decide)
    have hm_8 : (F 2 w, .inr (3, [.int (nI (F 0 (F 2 w))), .int (nI (F 1 (F 2 w))), .int (nI (F 2 (F 2 w))), .int (nI (F 3 (F 2 w))), .ref (st (F 4 (F 2 w))), .ref (st (F 5 (F 2 w)))])) ∈ ws := hC.at hk_7 (by decide) (by decide)
    refine c_get (C := RX1) (T := TX1) (N := 6) hx hb hts hin_X1 hown hK hP hm_8 rfl 0 (by decide) l_156 (fun _ h9 => h9) rfl dX8_mayComplain_19 ?_
    have hn_9 : F 0 (F 2 w) < 8 := hW.num hk_7 rfl (by decide)
    refine lv_iload_n hx hb dX8_mayComplain_22 rfl (lv_at hl 2 rfl) ?_
    refine n_icmp_eq (tgt := 35) hx hb dX8_mayComplain_23 (by decide) (by omega) (by omega) (fun c_10 => ?_) (fun c_10 => ?_)
    · refine lv_iconst (v := nI 0) hx hb dX8_mayComplain_35 (by decide) ?_
      exact W.zret (v := nI 0) hx hb hr rfl (fun U9 ht hW9 => ⟨_, rfl, bi_zero (by unfold kMay; rw [ho_5]; try (show decide _ = false; rw [decide_eq_false_iff_not]; rintro ⟨q1, q2, q3⟩; first | omega | contradiction)), ht⟩) (fun _ h => by cases h) dX8_mayComplain_36
    · refine lv_aload_n hx hb dX8_mayComplain_26 rfl (lv_at hl 1 rfl) ?_
      refine lv_iload_n hx hb dX8_mayComplain_27 rfl (lv_at hl 2 rfl) ?_
      refine lv_aload_n hx hb dX8_mayComplain_28 rfl (lv_at hl 3 rfl) ?_
      have hm_11 : (h, .inr (9, [.ref (F 0 h), .ref (F 1 h), .ref (F 2 h), .ref (F 3 h), .ref (F 4 h), .int (nI (F 5 h))])) ∈ ws := hC.at hk_h (by decide) (by decide)
      refine vp_callSi (W.runV (As := [.int (nI b), .ref w]) (rest := []) ⟨hx, hb, hml, hown, hts⟩ (ck_hasComplained l D cI cO cb eA mi st ws hD hC hW hs h hk_h b w hk_w (by omega)) (cwV 2 hts gX8_mayComplain_X8_hasComplained rfl rfl rfl kd_X8_hasComplained ⟨Nat.le_of_ble_eq_true rfl, Nat.le_of_ble_eq_true rfl⟩) ⟨cB_blind, c_recv hK hP rfl hm_11, cB_pre hK hG hA hS hP _⟩ rfl rfl hl.1 rfl (lv_room (Nat.le_of_ble_eq_true rfl)) dX8_mayComplain_29 ⟨Nat.le_of_ble_eq_true rfl, Nat.le_of_ble_eq_true rfl⟩) (fun r_12 hr_12 => ?_)
      subst hr_12
      refine b_if_eq (tgt := 37) hx hb dX8_mayComplain_32 (by decide)  (fun c_13 => ?_) (fun c_13 => ?_)
      · have dd_c_13 := of_decide_eq_false c_13
        refine lv_iload_n hx hb dX8_mayComplain_37 rfl (lv_at hl 4 rfl) ?_
        refine lv_iconst (v := nI 2) hx hb dX8_mayComplain_38 (by decide) ?_
        refine lv_icmp_ne (tgt := 53) hx hb dX8_mayComplain_39 (by decide)  (fun c_14 => ?_) (fun c_14 => ?_)
        · refine lv_iconst (v := nI 1) hx hb dX8_mayComplain_53 (by decide) ?_
          refine lv_goto (tgt := 58) hx hb dX8_mayComplain_54 (by decide) ?_
          exact W.zret (v := nI 1) hx hb hr rfl (fun U9 ht hW9 => ⟨_, rfl, bi_one (by unfold kMay; rw [ho_5]; first | (show decide _ = true; rw [decide_eq_true_eq]; exact ⟨by omega, by assumption, by first | (left; assumption) | (right; assumption)⟩) | (show decide _ = false; rw [decide_eq_false_iff_not]; rintro ⟨q1, q2, q3 | q3⟩ <;> contradiction)), ht⟩) (fun _ h => by cases h) dX8_mayComplain_58
        · refine lv_aload hx hb dX8_mayComplain_42 (lv_at hl 0 rfl) ?_
          have hm_15 : (o_5, .inr (3, [.int (nI (F 0 o_5)), .int (nI (F 1 o_5)), .int (nI (F 2 o_5)), .int (nI (F 3 o_5)), .ref (st (F 4 o_5)), .ref (st (F 5 o_5))])) ∈ ws := hC.at hk_6 (by decide) (by decide)
          refine c_get (C := RX1) (T := TX1) (N := 6) hx hb hts hin_X1 hown hK hP hm_15 rfl 5 (by decide) l_116 (fun _ h9 => h9) rfl dX8_mayComplain_44 ?_
          have hn_16 : F 5 o_5 < 4 := hW.num hk_6 rfl (by decide)
          refine va_gets hx hb hG.2.2.2.2.2.2.2.2.2.1 hS hown l_307 (fun _ h9 => h9) dX8_mayComplain_47 ?_
          refine s_acmp_ne (x := (F 5 o_5)) (y := 2) (tgt := 57) hx hb hs (by omega) (by omega) dX8_mayComplain_50 (by decide) (fun c_17 => ?_) (fun c_17 => ?_)
          · refine lv_iconst (v := nI 0) hx hb dX8_mayComplain_57 (by decide) ?_
            exact W.zret (v := nI 0) hx hb hr rfl (fun U9 ht hW9 => ⟨_, rfl, bi_zero (by unfold kMay; rw [ho_5]; first | (show decide _ = true; rw [decide_eq_true_eq]; exact ⟨by omega, by assumption, by first | (left; assumption) | (right; assumption)⟩) | (show decide _ = false; rw [decide_eq_false_iff_not]; rintro ⟨q1, q2, q3 | q3⟩ <;> contradiction)), ht⟩) (fun _ h => by cases h) dX8_mayComplain_58
          · refine lv_iconst (v := nI 1) hx hb dX8_mayComplain_53 (by decide) ?_
            refine lv_goto (tgt := 58) hx hb dX8_mayComplain_54 (by decide) ?_
            exact W.zret (v := nI 1) hx hb hr rfl (fun U9 ht hW9 => ⟨_, rfl, bi_one (by unfold kMay; rw [ho_5]; first | (show decide _ = true; rw [decide_eq_true_eq]; exact ⟨by omega, by assumption, by first | (left; assumption) | (right; assumption)⟩) | (show decide _ = false; rw [decide_eq_false_iff_not]; rintro ⟨q1, q2, q3 | q3⟩ <;> contradiction)), ht⟩) (fun _ h => by cases h) dX8_mayComplain_58
      · have dd_c_13 := of_decide_eq_true c_13
        refine lv_iconst (v := nI 0) hx hb dX8_mayComplain_35 (by decide) ?_
        exact W.zret (v := nI 0) hx hb hr rfl (fun U9 ht hW9 => ⟨_, rfl, bi_zero (by unfold kMay; rw [ho_5]; try (show decide _ = false; rw [decide_eq_false_iff_not]; rintro ⟨q1, q2, q3⟩; first | omega | contradiction)), ht⟩) (fun _ h => by cases h) dX8_mayComplain_36
set_option maxHeartbeats 4000000 in
set_option maxRecDepth 100000 in
theorem ck_holdsDeposit (l : Launch) (D : va_G) (cI cO cb : ClassId) (eA mi : Nat) (st : Nat → Nat) {A : Nat → Prop} (ws : va_W) (hD : va_D A ws) {own kd : Nat → Nat} {F : Nat → Nat → Nat} {L : Nat → List Nat} (hC : CW cI cO eA st own kd F L ws) (hW : WF kd F L) (hs : sInj st)  (h : Nat) (hk_h : kd h = 9) (a : Nat) (hk_a : kd a = 7) (b : Nat) (hb8 : b < 8) : Met l yX8_holdsDeposit wsX8_holdsDeposit ({ frames := 4, cells := 0, slots := 0, locals := 87 }) (va_Pc [.ref h, .ref a, .int (nI b)] (cB D cI cO cb eA mi st A ws)) (vp_Si (fun ri => ri = bi (kHolds F L h a b))) 0 0 (fun _ => False) := by
  refine Met.ofW (cc := cX8_holdsDeposit) (maxL := 5) (ret := (some .boolean)) (by decide) rfl ?_
  intro p e s m args below meth c s₁ B hml hv
  obtain ⟨rfl, hP, hK, hG, hA⟩ := hv
  have hx := B.exec
  have hb := B.bytes
  have hr := B.returns
  have hts := atoms_spec (ws := wsX8_holdsDeposit) B.pre
  have hown : s.vm.findClass RX8 = some m.cls := findClass_of_methodNamed B.named
  have hlocks := B.notSynchronized
  have hin_X0 : ∀ w ∈ wsX00, w ∈ wsX8_holdsDeposit := fun w h => List.mem_cons_of_mem _ (List.mem_append_left _ (List.mem_append_left _ (List.mem_append_left _ (List.mem_append_right _ h))))
  have hin_X1 : ∀ w ∈ wsX10, w ∈ wsX8_holdsDeposit := fun w h => List.mem_cons_of_mem _ (List.mem_append_left _ (List.mem_append_left _ (List.mem_append_left _ (List.mem_append_left _ (List.mem_append_right _ h)))))
  have l_116 := (hts (.fieldLink RX8 116 "TenderHall$Bid" "status" "LTenderHall$Status;") (List.mem_of_getElem? (i := 1) rfl))
  have l_307 := (hts (.fieldLink RX8 307 "TenderHall$Status" "LACKS_PAPERS" "LTenderHall$Status;") (List.mem_of_getElem? (i := 2) rfl))
  have l_314 := (hts (.fieldLink RX8 314 "TenderHall$Status" "OUT_FOR_GOOD" "LTenderHall$Status;") (List.mem_of_getElem? (i := 3) rfl))
  have l_221 := (hts (.fieldLink RX8 221 "TenderHall$Award" "signed" "Z") (List.mem_of_getElem? (i := 4) rfl))
  have hS : va_S A s.heap s.heap [] := va_S.rf
  have hD0 := hD
  have hl := lv_entry ([.ref h, .ref a, .int (nI b)]) (n := 5) (Nat.le_of_ble_eq_true rfl)
  rw [lg_entry_eq]
  generalize (lg_sl ([.ref h, .ref a, .int (nI b)]) ++ List.replicate (5 - (lg_sl ([.ref h, .ref a, .int (nI b)])).length) Slot.unset).toArray = ls at hl ⊢
  have hl : lv_has ls 5 [(0, .ref h), (1, .ref a), (2, .int (nI b))] := hl
  refine lv_aload_n hx hb dX8_holdsDeposit_0 rfl (lv_at hl 1 rfl) ?_
  refine lv_iload_n hx hb dX8_holdsDeposit_1 rfl (lv_at hl 2 rfl) ?_
  have hm_1 : (a, .inr (7, [.ref (F 0 a), .int (nI (F 1 a)), .int (nI (F 2 a)), .ref (F 3 a), .ref (F 4 a)])) ∈ ws := hC.at hk_a (by decide) (by decide)
  refine va_csq (W.runV (As := [.int (nI b)]) (rest := []) ⟨hx, hb, hml, hown, hts⟩ (ck_bidOf l D cI cO cb eA mi st ws hD hC hW hs a hk_a b (by omega)) (cwV 1 hts gX8_holdsDeposit_X5_bidOf rfl rfl rfl kd_X5_bidOf ⟨Nat.le_of_ble_eq_true rfl, Nat.le_of_ble_eq_true rfl⟩) ⟨cB_blind, c_recv hK hP rfl hm_1, cB_pre hK hG hA hS hP _⟩ rfl rfl hl.1 rfl (lv_room (Nat.le_of_ble_eq_true rfl)) dX8_holdsDeposit_2 ⟨Nat.le_of_ble_eq_true rfl, Nat.le_of_ble_eq_true rfl⟩) (fun r_2 hr_2 => ?_)
  subst hr_2
  rcases ho_3 : kBid F L a b with _ | o_3
  · show W _ _ _ _ _ _ _ _ _ _ _ _ _ _ _ (F0 _ _ _ (.null :: _))
    refine lv_astore_nN (lv' := [(3, .null), (0, .ref h), (1, .ref a), (2, .int (nI b))]) hx hb dX8_holdsDeposit_5 rfl hl (by decide) rfl (fun ls hl => ?_)
    refine lv_aload_nN hx hb dX8_holdsDeposit_6 rfl (lv_at hl 0 rfl) ?_
    refine lv_ifnullN (tgt := 30) hx hb dX8_holdsDeposit_7 (by decide) ?_
    refine lv_iconst (v := nI 0) hx hb dX8_holdsDeposit_30 (by decide) ?_
    exact W.zret (v := nI 0) hx hb hr rfl (fun U9 ht hW9 => ⟨_, rfl, bi_zero (by unfold kHolds; rw [ho_3]; try (show (decide _ && _) = false; rw [decide_eq_false (by omega)]; rfl)), ht⟩) (fun _ h => by cases h) dX8_holdsDeposit_31
  · show W _ _ _ _ _ _ _ _ _ _ _ _ _ _ _ (F0 _ _ _ (.ref o_3 :: _))
    have hk_4 : kd o_3 = 3 := kBid_kd hW hk_a ho_3
    refine lv_astore_n (lv' := [(3, .ref o_3), (0, .ref h), (1, .ref a), (2, .int (nI b))]) hx hb dX8_holdsDeposit_5 rfl hl (by decide) rfl (fun ls hl => ?_)
    refine lv_aload_n hx hb dX8_holdsDeposit_6 rfl (lv_at hl 0 rfl) ?_
    refine lv_ifnull hx hb dX8_holdsDeposit_7 ?_
    refine lv_aload_n hx hb dX8_holdsDeposit_10 rfl (lv_at hl 0 rfl) ?_
    have hm_5 : (o_3, .inr (3, [.int (nI (F 0 o_3)), .int (nI (F 1 o_3)), .int (nI (F 2 o_3)), .int (nI (F 3 o_3)), .ref (st (F 4 o_3)), .ref (st (F 5 o_3))])) ∈ ws := hC.at hk_4 (by decide) (by decide)
    refine c_get (C := RX1) (T := TX1) (N := 6) hx hb hts hin_X1 hown hK hP hm_5 rfl 5 (by decide) l_116 (fun _ h9 => h9) rfl dX8_holdsDeposit_11 ?_
    have hn_6 : F 5 o_3 < 4 := hW.num hk_4 rfl (by decide)
    refine va_gets hx hb hG.2.2.2.2.2.2.2.2.2.1 hS hown l_307 (fun _ h9 => h9) dX8_holdsDeposit_14 ?_
    refine s_acmp_eq (x := (F 5 o_3)) (y := 2) (tgt := 30) hx hb hs (by omega) (by omega) dX8_holdsDeposit_17 (by decide) (fun c_7 => ?_) (fun c_7 => ?_)
    · refine lv_iconst (v := nI 0) hx hb dX8_holdsDeposit_30 (by decide) ?_
      exact W.zret (v := nI 0) hx hb hr rfl (fun U9 ht hW9 => ⟨_, rfl, bi_zero (by unfold kHolds; rw [ho_3]; try (show (decide _ && _) = false; rw [decide_eq_false (by omega)]; rfl)), ht⟩) (fun _ h => by cases h) dX8_holdsDeposit_31
    · refine lv_aload_n hx hb dX8_holdsDeposit_20 rfl (lv_at hl 0 rfl) ?_
      refine c_get (C := RX1) (T := TX1) (N := 6) hx hb hts hin_X1 hown hK hP hm_5 rfl 5 (by decide) l_116 (fun _ h9 => h9) rfl dX8_holdsDeposit_21 ?_
      refine va_gets hx hb hG.2.2.2.2.2.2.2.2.2.2 hS hown l_314 (fun _ h9 => h9) dX8_holdsDeposit_24 ?_
      refine s_acmp_ne (x := (F 5 o_3)) (y := 3) (tgt := 32) hx hb hs (by omega) (by omega) dX8_holdsDeposit_27 (by decide) (fun c_8 => ?_) (fun c_8 => ?_)
      · refine lv_aload_n hx hb dX8_holdsDeposit_32 rfl (lv_at hl 1 rfl) ?_
        refine lv_aload_n hx hb dX8_holdsDeposit_33 rfl (lv_at hl 2 rfl) ?_
        have hm_9 : (h, .inr (9, [.ref (F 0 h), .ref (F 1 h), .ref (F 2 h), .ref (F 3 h), .ref (F 4 h), .int (nI (F 5 h))])) ∈ ws := hC.at hk_h (by decide) (by decide)
        refine va_csq (W.runV (As := [.ref a]) (rest := []) ⟨hx, hb, hml, hown, hts⟩ (ck_standingAward l D cI cO cb eA mi st ws hD hC hW hs h hk_h a hk_a) (cwV 1 hts gX8_holdsDeposit_X8_standingAward rfl rfl rfl kd_X8_standingAward ⟨Nat.le_of_ble_eq_true rfl, Nat.le_of_ble_eq_true rfl⟩) ⟨cB_blind, c_recv hK hP rfl hm_9, cB_pre hK hG hA hS hP _⟩ rfl rfl hl.1 rfl (lv_room (Nat.le_of_ble_eq_true rfl)) dX8_holdsDeposit_34 ⟨Nat.le_of_ble_eq_true rfl, Nat.le_of_ble_eq_true rfl⟩) (fun r_10 hr_10 => ?_)
        subst hr_10
        rcases ho_11 : kStand F L h a with _ | o_11
        · show W _ _ _ _ _ _ _ _ _ _ _ _ _ _ _ (F0 _ _ _ (.null :: _))
          refine lv_astoreN (lv' := [(4, .null), (3, .ref o_3), (0, .ref h), (1, .ref a), (2, .int (nI b))]) hx hb dX8_holdsDeposit_37 hl (by decide) rfl (fun ls hl => ?_)
          refine lv_aloadN hx hb dX8_holdsDeposit_39 (lv_at hl 0 rfl) ?_
          refine lv_ifnullN (tgt := 52) hx hb dX8_holdsDeposit_41 (by decide) ?_
          refine lv_iconst (v := nI 1) hx hb dX8_holdsDeposit_52 (by decide) ?_
          refine lv_goto (tgt := 57) hx hb dX8_holdsDeposit_53 (by decide) ?_
          exact W.zret (v := nI 1) hx hb hr rfl (fun U9 ht hW9 => ⟨_, rfl, bi_one (by unfold kHolds; rw [ho_3]; show (decide _ && _) = _; rw [decide_eq_true (by omega), ho_11]; first | rfl | (show decide _ = true; rw [decide_eq_true_eq]; omega) | (show (true && decide _) = true; rw [Bool.true_and, decide_eq_true_eq]; omega) | (show (true && decide _) = false; rw [Bool.true_and, decide_eq_false_iff_not]; omega)), ht⟩) (fun _ h => by cases h) dX8_holdsDeposit_57
        · show W _ _ _ _ _ _ _ _ _ _ _ _ _ _ _ (F0 _ _ _ (.ref o_11 :: _))
          have hk_12 : kd o_11 = 2 := kStand_kd hW hk_h ho_11
          refine lv_astore (lv' := [(4, .ref o_11), (3, .ref o_3), (0, .ref h), (1, .ref a), (2, .int (nI b))]) hx hb dX8_holdsDeposit_37 hl (by decide) rfl (fun ls hl => ?_)
          refine lv_aload hx hb dX8_holdsDeposit_39 (lv_at hl 0 rfl) ?_
          refine lv_ifnull hx hb dX8_holdsDeposit_41 ?_
          refine lv_aload hx hb dX8_holdsDeposit_44 (lv_at hl 0 rfl) ?_
          have hm_13 : (o_11, .inr (2, [.int (nI (F 0 o_11)), .ref (F 1 o_11), .ref (F 2 o_11), .int (nI (F 3 o_11)), .int (nI (F 4 o_11)), .int (nI (F 5 o_11)), .int (nI (F 6 o_11))])) ∈ ws := hC.at hk_12 (by decide) (by decide)
          refine c_get (C := RX0) (T := TX0) (N := 7) hx hb hts hin_X0 hown hK hP hm_13 rfl 5 (by decide) l_221 (fun _ h9 => h9) rfl dX8_holdsDeposit_46 ?_
          have hn_14 : F 5 o_11 < 2 := hW.num hk_12 rfl (by decide)
          refine n_if_ne (tgt := 56) hx hb dX8_holdsDeposit_49 (by decide) (by omega) (fun c_15 => ?_) (fun c_15 => ?_)
          · refine lv_iconst (v := nI 0) hx hb dX8_holdsDeposit_56 (by decide) ?_
            exact W.zret (v := nI 0) hx hb hr rfl (fun U9 ht hW9 => ⟨_, rfl, bi_zero (by unfold kHolds; rw [ho_3]; show (decide _ && _) = _; rw [decide_eq_true (by omega), ho_11]; first | rfl | (show decide _ = true; rw [decide_eq_true_eq]; omega) | (show (true && decide _) = true; rw [Bool.true_and, decide_eq_true_eq]; omega) | (show (true && decide _) = false; rw [Bool.true_and, decide_eq_false_iff_not]; omega)), ht⟩) (fun _ h => by cases h) dX8_holdsDeposit_57
          · refine lv_iconst (v := nI 1) hx hb dX8_holdsDeposit_52 (by decide) ?_
            refine lv_goto (tgt := 57) hx hb dX8_holdsDeposit_53 (by decide) ?_
            exact W.zret (v := nI 1) hx hb hr rfl (fun U9 ht hW9 => ⟨_, rfl, bi_one (by unfold kHolds; rw [ho_3]; show (decide _ && _) = _; rw [decide_eq_true (by omega), ho_11]; first | rfl | (show decide _ = true; rw [decide_eq_true_eq]; omega) | (show (true && decide _) = true; rw [Bool.true_and, decide_eq_true_eq]; omega) | (show (true && decide _) = false; rw [Bool.true_and, decide_eq_false_iff_not]; omega)), ht⟩) (fun _ h => by cases h) dX8_holdsDeposit_57
      · refine lv_iconst (v := nI 0) hx hb dX8_holdsDeposit_30 (by decide) ?_
        exact W.zret (v := nI 0) hx hb hr rfl (fun U9 ht hW9 => ⟨_, rfl, bi_zero (by unfold kHolds; rw [ho_3]; try (show (decide _ && _) = false; rw [decide_eq_false (by omega)]; rfl)), ht⟩) (fun _ h => by cases h) dX8_holdsDeposit_31
set_option maxHeartbeats 4000000 in
set_option maxRecDepth 100000 in
theorem cx_lotAt (l : Launch) (hst : l.stackTraces = false) (D : va_G) (cI cO cb : ClassId) (eA mi : Nat) (st : Nat → Nat) {A : Nat → Prop} (ws : va_W) (hD : va_D A ws) {own kd : Nat → Nat} {F : Nat → Nat → Nat} {L : Nat → List Nat} (hC : CW cI cO eA st own kd F L ws) (hW : WF kd F L) (hs : sInj st)  (h : Nat) (hk_h : kd h = 9) (t : Int32) (k : Int32) : vx_Met l yX8_lotAt wsX8_lotAt ({ frames := 7, cells := 2, slots := 12, locals := 102 }) (va_Pc [.ref h, .int t, .int k] (cB D cI cO cb eA mi st A ws)) (va_Qr (fun _ : Unit => kLotK F L h t k = 0) (fun _ q U9 => q = kLotV F L h t k ∧ va_P D vwCl ws U9.heap) A) (XK D ws A (kLotK F L h t k)) 2 12 A := by
  refine vx_ofW (cc := cX8_lotAt) (maxL := 4) (ret := (some (.object "TenderHall$Lot"))) (by decide) rfl ?_
  intro p e s m args below meth c s₁ B hml htab hv
  obtain ⟨rfl, hP, hK, hG, hA⟩ := hv
  have hx := B.exec
  have hb := B.bytes
  have hr := B.returns
  have hts := atoms_spec (ws := wsX8_lotAt) B.pre
  have hown : s.vm.findClass RX8 = some m.cls := findClass_of_methodNamed B.named
  have hlocks := B.notSynchronized
  have hin_X7 : ∀ w ∈ wsX70, w ∈ wsX8_lotAt := fun w h => List.mem_cons_of_mem _ (List.mem_append_left _ (List.mem_append_left _ (List.mem_append_left _ (List.mem_append_right _ h))))
  have l_60 := (hts (.fieldLink RX8 60 "TenderHall$Tender" "lots" "Ljava/util/ArrayList;") (List.mem_of_getElem? (i := 3) rfl))
  have hS : va_S A s.heap s.heap [] := va_S.rf
  have hD0 := hD
  have hl := lv_entry ([.ref h, .int t, .int k]) (n := 4) (Nat.le_of_ble_eq_true rfl)
  rw [lg_entry_eq]
  generalize (lg_sl ([.ref h, .int t, .int k]) ++ List.replicate (4 - (lg_sl ([.ref h, .int t, .int k])).length) Slot.unset).toArray = ls at hl ⊢
  have hl : lv_has ls 4 [(0, .ref h), (1, .int t), (2, .int k)] := hl
  refine lv_aload_n hx hb dX8_lotAt_0 rfl (lv_at hl 0 rfl) ?_
  refine lv_iload_n hx hb dX8_lotAt_1 rfl (lv_at hl 1 rfl) ?_
  have hm_1 : (h, .inr (9, [.ref (F 0 h), .ref (F 1 h), .ref (F 2 h), .ref (F 3 h), .ref (F 4 h), .int (nI (F 5 h))])) ∈ ws := hC.at hk_h (by decide) (by decide)
  refine vx_callr (vx_runV (As := [.int t]) (rest := []) ⟨hx, hb, hml, hown, hts⟩ (cx_tenderAt l hst D cI cO cb eA mi st ws hD hC hW hs h hk_h t) (cwV 1 hts gX8_lotAt_X8_tenderAt rfl rfl rfl kd_X8_tenderAt ⟨Nat.le_of_ble_eq_true rfl, Nat.le_of_ble_eq_true rfl⟩) ⟨cB_blind, c_recv hK hP rfl hm_1, cB_pre hK hG hA hS hP _⟩ rfl rfl hl.1 rfl (lv_room (Nat.le_of_ble_eq_true rfl)) dX8_lotAt_2 ⟨Nat.le_of_ble_eq_true rfl, Nat.le_of_ble_eq_true rfl⟩) hS (fun _ _ h => h) (fun _ h => h) (fun _ _ h => h) (fun E9 ce9 q9 u U8 H1 locs1 ht hvm hu hB hz1 hk1 hS1 hc1 hc2 hc3 => ?_) (fun u ra U8 H1 locs1 ht hvm hu hB hz1 hk1 hS1 => ?_)
  · obtain ⟨hB1, hB2, hB3⟩ := hB
    rw [ht] at hB3
    have hkx : kLotK F L h t k = (kIx t (L (F 1 h)).length) := by exact ks_l hB2
    exact vx_out (fun z9 h9 => (htab z9 h9).elim) hlocks hc1 hc2 hc3 (fun t9 g1 g2 => ⟨(), trivial, ⟨by rw [hkx]; exact hB1, by rw [hkx]; exact hB2, by rw [g1]; exact hB3⟩, hS1.F g1⟩) hS1.2.2 (Nat.le_of_ble_eq_true rfl) (Nat.le_of_ble_eq_true rfl)
  · have hk0_2 : (kIx t (L (F 1 h)).length) = 0 := hu
    obtain ⟨hra, hB2⟩ := hB
    subst hra
    replace hB2 : va_P D vwCl ws U8.heap := hB2
    rw [ht] at hB2
    clear hS
    have hS := hS1
    replace hP := hB2
    generalize H1 = H at hP hS ⊢
    have hk_3 : kd (ga (L (F 1 h)) t) = 8 := hW.ela (hW.ref hk_h rfl (by decide)) hk0_2
    have hm_4 : (ga (L (F 1 h)) t, .inr (8, [.int (nI (F 0 (ga (L (F 1 h)) t))), .int (nI (F 1 (ga (L (F 1 h)) t))), .int (nI (F 2 (ga (L (F 1 h)) t))), .int (nI (F 3 (ga (L (F 1 h)) t))), .int (nI (F 4 (ga (L (F 1 h)) t))), .ref (F 5 (ga (L (F 1 h)) t))])) ∈ ws := hC.at hk_3 (by decide) (by decide)
    refine c_get (C := RX7) (T := TX7) (N := 6) hx hb hts hin_X7 hown hK hP hm_4 rfl 5 (by decide) l_60 (fun _ h9 => h9) rfl dX8_lotAt_5 ?_
    have hk_5 : kd (F 5 (ga (L (F 1 h)) t)) = 27 := hW.ref hk_3 rfl (by decide)
    have hl_6 : (L (F 5 (ga (L (F 1 h)) t))).length ≤ 60 := hW.len hk_5 (by decide)
    refine lv_astore_n (lv' := [(3, .ref (F 5 (ga (L (F 1 h)) t))), (0, .ref h), (1, .int t), (2, .int k)]) hx hb dX8_lotAt_8 rfl hl (by decide) rfl (fun ls hl => ?_)
    refine lv_iload_n hx hb dX8_lotAt_9 rfl (lv_at hl 3 rfl) ?_
    refine lv_if_lt (tgt := 21) hx hb dX8_lotAt_10 (by decide)  (fun c_7 => ?_) (fun c_7 => ?_)
    · have hkx : kLotK F L h t k = 1 := by first | exact (ks_r hk0_2).trans (kIx_no (isIx_lo (by assumption))) | exact (ks_r hk0_2).trans (kIx_no (isIx_hi (by omega) (by assumption)))
      exact vx_throw0 (A := A) (own := RX8) (cls := "java/lang/IndexOutOfBoundsException") (names := ["java/lang/RuntimeException", "java/lang/Exception"]) (ik := 76) (ic := 78) hx hb hst hown (by decide +kernel) (by decide +kernel) (hts (.classLink RX8 76 "java/lang/IndexOutOfBoundsException") (List.mem_of_getElem? (i := 1) rfl)) (hts (.initialized "java/lang/IndexOutOfBoundsException") (List.mem_of_getElem? (i := 2) rfl)) (vx_hat (L := vx_at0 RX8 78 "java/lang/IndexOutOfBoundsException" ["java/lang/RuntimeException", "java/lang/Exception"]) (fun w9 h9 => hts w9 (List.mem_cons_of_mem _ (List.mem_append_right _ h9))) gB1 (gB_of (by decide +kernel) hG.2.2.2.2.2.2.1)) (by decide +kernel) hG.1 hG.2.1 hS (hl.1.trans hml.symm) dX8_lotAt_21 dX8_lotAt_24 dX8_lotAt_25 dX8_lotAt_28 (fun z9 h9 => (htab z9 h9).elim) (by decide) (Nat.le_of_ble_eq_true rfl) (Nat.le_of_ble_eq_true rfl) (Nat.le_of_ble_eq_true rfl) hlocks (fun t9 _ g2 g3 => ⟨(), trivial, ⟨by rw [hkx]; rfl, by rw [hkx]; decide, (x_keep hS hP g2 g3).1⟩, (x_keep hS hP g2 g3).2⟩) hS.2.2 (Nat.le_of_ble_eq_true rfl) (Nat.le_of_ble_eq_true rfl)
    · refine lv_iload_n hx hb dX8_lotAt_13 rfl (lv_at hl 3 rfl) ?_
      refine lv_aload_n hx hb dX8_lotAt_14 rfl (lv_at hl 0 rfl) ?_
      obtain ⟨fs_hm_8, hm_8⟩ := hC.obj hk_5 (by decide)
      refine vp_callSi (W.runV (As := []) (rest := [.int k]) ⟨hx, hb, hml, hown, hts⟩ ((cl_size l D cI cO cb eA mi st ws hD (F 5 (ga (L (F 1 h)) t)) (L (F 5 (ga (L (F 1 h)) t))) (hC.lst hk_5 (by decide)))) (cwV 0 hts gX8_lotAt_Jx4a65c_size_8abf5 rfl rfl rfl kd_Jx4a65c_size_8abf5 ⟨Nat.le_of_ble_eq_true rfl, Nat.le_of_ble_eq_true rfl⟩) ⟨cB_blind, c_recv hK hP rfl hm_8, cB_pre hK hG hA hS hP _⟩ rfl rfl hl.1 rfl (lv_room (Nat.le_of_ble_eq_true rfl)) dX8_lotAt_15 ⟨Nat.le_of_ble_eq_true rfl, Nat.le_of_ble_eq_true rfl⟩) (fun r_9 hr_9 => ?_)
      subst hr_9
      refine lv_icmp_lt (tgt := 29) hx hb dX8_lotAt_18 (by decide)  (fun c_10 => ?_) (fun c_10 => ?_)
      · obtain ⟨j, hj, rfl⟩ := isIx_mk (by omega) c_7 c_10
        refine lv_aload_n hx hb dX8_lotAt_29 rfl (lv_at hl 0 rfl) ?_
        refine lv_iload_n hx hb dX8_lotAt_30 rfl (lv_at hl 3 rfl) ?_
        obtain ⟨fs_hm_11, hm_11⟩ := hC.obj hk_5 (by decide)
        refine va_csr (W.runV (As := [.int (nI j)]) (rest := []) ⟨hx, hb, hml, hown, hts⟩ ((cl_get l D cI cO cb eA mi st ws hD (F 5 (ga (L (F 1 h)) t)) (L (F 5 (ga (L (F 1 h)) t))) (hC.lst hk_5 (by decide)) j (gt (L (F 5 (ga (L (F 1 h)) t))) j) (gt_some (by omega)))) (cwV 1 hts gX8_lotAt_Jx4a65c_get_915e3 rfl rfl rfl kd_Jx4a65c_get_915e3 ⟨Nat.le_of_ble_eq_true rfl, Nat.le_of_ble_eq_true rfl⟩) ⟨cB_blind, c_recv hK hP rfl hm_11, cB_pre hK hG hA hS hP _⟩ rfl rfl hl.1 rfl (lv_room (Nat.le_of_ble_eq_true rfl)) dX8_lotAt_31 ⟨Nat.le_of_ble_eq_true rfl, Nat.le_of_ble_eq_true rfl⟩) (fun r_12 hr_12 => ?_)
        subst hr_12
        have hk_13 : kd (gt (L (F 5 (ga (L (F 1 h)) t))) j) = 7 := hW.el hk_5 (by omega)
        have hm_14 : (gt (L (F 5 (ga (L (F 1 h)) t))) j, .inr (7, [.ref (F 0 (gt (L (F 5 (ga (L (F 1 h)) t))) j)), .int (nI (F 1 (gt (L (F 5 (ga (L (F 1 h)) t))) j))), .int (nI (F 2 (gt (L (F 5 (ga (L (F 1 h)) t))) j))), .ref (F 3 (gt (L (F 5 (ga (L (F 1 h)) t))) j)), .ref (F 4 (gt (L (F 5 (ga (L (F 1 h)) t))) j))])) ∈ ws := hC.at hk_13 (by decide) (by decide)
        refine va_castE hx hb hown (hts (.classLink RX8 67 "TenderHall$Lot") (List.mem_of_getElem? (i := 4) rfl)) (c_recv hK hP (ci := 7) rfl hm_14) dX8_lotAt_34 ?_
        refine W.widen (k := 2) (n := 12) (by omega) (by omega) ?_
        refine vx_ret ?_
        have hk9 : kLotK F L h t (nI j) = 0 := by exact (ks_r hk0_2).trans (kIx_yes (by omega) (by assumption))
        exact W.aret hx hb hr (Or.inl ⟨_, rfl⟩) (Or.inr ⟨_, rfl⟩) (fun U9 ht hW9 => ⟨⟨(), (gt (L (F 5 (ga (L (F 1 h)) t))) j), rfl, hk9, (show gt (L (F 5 (ga (L (F 1 h)) t))) j = kLotV F L h t (nI j) from by exact (ga_nI (by omega)).symm), by show va_P D vwCl ws U9.heap; rw [ht]; exact hP⟩, hS.F ht⟩) hS.2.2 dX8_lotAt_37
      · have hkx : kLotK F L h t k = 1 := by first | exact (ks_r hk0_2).trans (kIx_no (isIx_lo (by assumption))) | exact (ks_r hk0_2).trans (kIx_no (isIx_hi (by omega) (by assumption)))
        exact vx_throw0 (A := A) (own := RX8) (cls := "java/lang/IndexOutOfBoundsException") (names := ["java/lang/RuntimeException", "java/lang/Exception"]) (ik := 76) (ic := 78) hx hb hst hown (by decide +kernel) (by decide +kernel) (hts (.classLink RX8 76 "java/lang/IndexOutOfBoundsException") (List.mem_of_getElem? (i := 1) rfl)) (hts (.initialized "java/lang/IndexOutOfBoundsException") (List.mem_of_getElem? (i := 2) rfl)) (vx_hat (L := vx_at0 RX8 78 "java/lang/IndexOutOfBoundsException" ["java/lang/RuntimeException", "java/lang/Exception"]) (fun w9 h9 => hts w9 (List.mem_cons_of_mem _ (List.mem_append_right _ h9))) gB1 (gB_of (by decide +kernel) hG.2.2.2.2.2.2.1)) (by decide +kernel) hG.1 hG.2.1 hS (hl.1.trans hml.symm) dX8_lotAt_21 dX8_lotAt_24 dX8_lotAt_25 dX8_lotAt_28 (fun z9 h9 => (htab z9 h9).elim) (by decide) (Nat.le_of_ble_eq_true rfl) (Nat.le_of_ble_eq_true rfl) (Nat.le_of_ble_eq_true rfl) hlocks (fun t9 _ g2 g3 => ⟨(), trivial, ⟨by rw [hkx]; rfl, by rw [hkx]; decide, (x_keep hS hP g2 g3).1⟩, (x_keep hS hP g2 g3).2⟩) hS.2.2 (Nat.le_of_ble_eq_true rfl) (Nat.le_of_ble_eq_true rfl)
set_option maxHeartbeats 4000000 in
set_option maxRecDepth 100000 in
theorem cx_isIn (l : Launch) (hst : l.stackTraces = false) (D : va_G) (cI cO cb : ClassId) (eA mi : Nat) (st : Nat → Nat) {A : Nat → Prop} (ws : va_W) (hD : va_D A ws) {own kd : Nat → Nat} {F : Nat → Nat → Nat} {L : Nat → List Nat} (hC : CW cI cO eA st own kd F L ws) (hW : WF kd F L) (hs : sInj st)  (h : Nat) (hk_h : kd h = 9) (b : Int32) (t : Int32) (k : Int32) : vx_Met l yX8_isIn wsX8_isIn ({ frames := 8, cells := 3, slots := 18, locals := 125 }) (va_Pc [.ref h, .int b, .int t, .int k] (cB D cI cO cb eA mi st A ws)) (va_Qi (fun (ri : Int32) (_ : Unit) => ks (kIx b 8) (kLotK F L h t k) = 0 ∧ ri = bi (kIn F L (kLotV F L h t k) b.toNatClampNeg)) (fun _ U9 => va_P D vwCl ws U9.heap) A) (XK D ws A (ks (kIx b 8) (kLotK F L h t k))) 3 18 A := by
  refine vx_ofW (cc := cX8_isIn) (maxL := 5) (ret := (some .boolean)) (by decide) rfl ?_
  intro p e s m args below meth c s₁ B hml htab hv
  obtain ⟨rfl, hP, hK, hG, hA⟩ := hv
  have hx := B.exec
  have hb := B.bytes
  have hr := B.returns
  have hts := atoms_spec (ws := wsX8_isIn) B.pre
  have hown : s.vm.findClass RX8 = some m.cls := findClass_of_methodNamed B.named
  have hlocks := B.notSynchronized
  have hin_X1 : ∀ w ∈ wsX10, w ∈ wsX8_isIn := fun w h => List.mem_cons_of_mem _ (List.mem_append_left _ (List.mem_append_left _ (List.mem_append_left _ (List.mem_append_left _ (List.mem_append_left _ (List.mem_append_right _ h))))))
  have l_116 := (hts (.fieldLink RX8 116 "TenderHall$Bid" "status" "LTenderHall$Status;") (List.mem_of_getElem? (i := 1) rfl))
  have l_120 := (hts (.fieldLink RX8 120 "TenderHall$Status" "IN" "LTenderHall$Status;") (List.mem_of_getElem? (i := 2) rfl))
  have hS : va_S A s.heap s.heap [] := va_S.rf
  have hD0 := hD
  have hl := lv_entry ([.ref h, .int b, .int t, .int k]) (n := 5) (Nat.le_of_ble_eq_true rfl)
  rw [lg_entry_eq]
  generalize (lg_sl ([.ref h, .int b, .int t, .int k]) ++ List.replicate (5 - (lg_sl ([.ref h, .int b, .int t, .int k])).length) Slot.unset).toArray = ls at hl ⊢
  have hl : lv_has ls 5 [(0, .ref h), (1, .int b), (2, .int t), (3, .int k)] := hl
  refine lv_iload_n hx hb dX8_isIn_0 rfl (lv_at hl 1 rfl) ?_
  refine vx_callv (vx_runS (As := [.int b]) (rest := []) ⟨hx, hb, hml, hown, hts⟩ (cx_checkBidder l hst D cI cO cb eA mi st ws hD hC hW hs b) (va_cwS 1 hts gX8_isIn_X8_checkBidder rfl rfl rfl kd_X8_checkBidder ⟨Nat.le_of_ble_eq_true rfl, Nat.le_of_ble_eq_true rfl⟩) ⟨cB_blind, cB_pre hK hG hA hS hP _⟩ rfl rfl hl.1 rfl (lv_room (Nat.le_of_ble_eq_true rfl)) dX8_isIn_1 ⟨Nat.le_of_ble_eq_true rfl, Nat.le_of_ble_eq_true rfl⟩) hS (fun _ _ h => h) (fun _ h => h) (fun _ _ h => h) (fun E9 ce9 q9 u U8 H1 locs1 ht hvm hu hB hz1 hk1 hS1 hc1 hc2 hc3 => ?_) (fun u U8 H1 locs1 ht hvm hu hB hz1 hk1 hS1 => ?_)
  · obtain ⟨hB1, hB2, hB3⟩ := hB
    rw [ht] at hB3
    have hkx : ks (kIx b 8) (kLotK F L h t k) = (kIx b 8) := by exact ks_l hB2
    exact vx_out (fun z9 h9 => (htab z9 h9).elim) hlocks hc1 hc2 hc3 (fun t9 g1 g2 => ⟨(), trivial, ⟨by rw [hkx]; exact hB1, by rw [hkx]; exact hB2, by rw [g1]; exact hB3⟩, hS1.F g1⟩) hS1.2.2 (Nat.le_of_ble_eq_true rfl) (Nat.le_of_ble_eq_true rfl)
  · have hk0_1 : (kIx b 8) = 0 := hu
    have hB2 := hB
    replace hB2 : va_P D vwCl ws U8.heap := hB2
    rw [ht] at hB2
    clear hS
    have hS := hS1
    replace hP := hB2
    generalize H1 = H at hP hS ⊢
    obtain ⟨j, hj, rfl⟩ := kIx_0 (by decide) hk0_1
    refine lv_aload_n hx hb dX8_isIn_4 rfl (lv_at hl 0 rfl) ?_
    refine lv_iload_n hx hb dX8_isIn_5 rfl (lv_at hl 2 rfl) ?_
    refine lv_iload_n hx hb dX8_isIn_6 rfl (lv_at hl 3 rfl) ?_
    have hm_2 : (h, .inr (9, [.ref (F 0 h), .ref (F 1 h), .ref (F 2 h), .ref (F 3 h), .ref (F 4 h), .int (nI (F 5 h))])) ∈ ws := hC.at hk_h (by decide) (by decide)
    refine vx_callr (vx_runV (As := [.int t, .int k]) (rest := []) ⟨hx, hb, hml, hown, hts⟩ (cx_lotAt l hst D cI cO cb eA mi st ws hD hC hW hs h hk_h t k) (cwV 2 hts gX8_isIn_X8_lotAt rfl rfl rfl kd_X8_lotAt ⟨Nat.le_of_ble_eq_true rfl, Nat.le_of_ble_eq_true rfl⟩) ⟨cB_blind, c_recv hK hP rfl hm_2, cB_pre hK hG hA hS hP _⟩ rfl rfl hl.1 rfl (lv_room (Nat.le_of_ble_eq_true rfl)) dX8_isIn_7 ⟨Nat.le_of_ble_eq_true rfl, Nat.le_of_ble_eq_true rfl⟩) hS (fun _ _ h => h) (fun _ h => h) (fun _ _ h => h) (fun E9 ce9 q9 u U8 H1 locs1 ht hvm hu hB hz1 hk1 hS1 hc1 hc2 hc3 => ?_) (fun u ra U8 H1 locs1 ht hvm hu hB hz1 hk1 hS1 => ?_)
    · obtain ⟨hB1, hB2, hB3⟩ := hB
      rw [ht] at hB3
      have hkx : ks (kIx (nI j) 8) (kLotK F L h t k) = (kLotK F L h t k) := by exact ks_r hk0_1
      exact vx_out (fun z9 h9 => (htab z9 h9).elim) hlocks hc1 hc2 hc3 (fun t9 g1 g2 => ⟨(), trivial, ⟨by rw [hkx]; exact hB1, by rw [hkx]; exact hB2, by rw [g1]; exact hB3⟩, hS1.F g1⟩) hS1.2.2 (Nat.le_of_ble_eq_true rfl) (Nat.le_of_ble_eq_true rfl)
    · have hk0_3 : (kLotK F L h t k) = 0 := hu
      obtain ⟨hra, hB2⟩ := hB
      subst hra
      replace hB2 : va_P D vwCl ws U8.heap := hB2
      rw [ht] at hB2
      clear hS
      have hS := hS1
      replace hP := hB2
      generalize H1 = H at hP hS ⊢
      have hk_4 : kd (kLotV F L h t k) = 7 := kLot_kd hW hk_h hk0_3
      refine lv_iload_n hx hb dX8_isIn_10 rfl (lv_at hl 1 rfl) ?_
      have hm_5 : (kLotV F L h t k, .inr (7, [.ref (F 0 (kLotV F L h t k)), .int (nI (F 1 (kLotV F L h t k))), .int (nI (F 2 (kLotV F L h t k))), .ref (F 3 (kLotV F L h t k)), .ref (F 4 (kLotV F L h t k))])) ∈ ws := hC.at hk_4 (by decide) (by decide)
      refine va_csq (W.runV (As := [.int (nI j)]) (rest := []) ⟨hx, hb, hml, hown, hts⟩ (ck_bidOf l D cI cO cb eA mi st ws hD hC hW hs (kLotV F L h t k) hk_4 j (by omega)) (cwV 1 hts gX8_isIn_X5_bidOf rfl rfl rfl kd_X5_bidOf ⟨Nat.le_of_ble_eq_true rfl, Nat.le_of_ble_eq_true rfl⟩) ⟨cB_blind, c_recv hK hP rfl hm_5, cB_pre hK hG hA hS hP _⟩ rfl rfl hl.1 rfl (lv_room (Nat.le_of_ble_eq_true rfl)) dX8_isIn_11 ⟨Nat.le_of_ble_eq_true rfl, Nat.le_of_ble_eq_true rfl⟩) (fun r_6 hr_6 => ?_)
      subst hr_6
      rcases ho_7 : kBid F L (kLotV F L h t k) j with _ | o_7
      · show W _ _ _ _ _ _ _ _ _ _ _ _ _ _ _ (F0 _ _ _ (.null :: _))
        refine lv_astoreN (lv' := [(4, .null), (0, .ref h), (1, .int (nI j)), (2, .int t), (3, .int k)]) hx hb dX8_isIn_14 hl (by decide) rfl (fun ls hl => ?_)
        refine lv_aloadN hx hb dX8_isIn_16 (lv_at hl 0 rfl) ?_
        refine lv_ifnullN (tgt := 36) hx hb dX8_isIn_18 (by decide) ?_
        refine lv_iconst (v := nI 0) hx hb dX8_isIn_36 (by decide) ?_
        refine W.widen (k := 3) (n := 18) (by omega) (by omega) ?_
        refine vx_ret ?_
        have hk9 : ks (kIx (nI j) 8) (kLotK F L h t k) = 0 := by exact (ks_r hk0_1).trans hk0_3
        exact W.zret (v := nI 0) hx hb hr rfl (fun U9 ht hW9 => ⟨⟨_, (), rfl, ⟨hk9, bi_zero (by rw [nI_clamp (by omega)]; unfold kIn; rw [ho_7]; try first | (show decide _ = true; rw [decide_eq_true_eq]; assumption) | (show decide _ = false; rw [decide_eq_false_iff_not]; assumption))⟩, by show va_P D vwCl ws U9.heap; rw [ht]; exact hP⟩, hS.F ht⟩) hS.2.2 dX8_isIn_37
      · show W _ _ _ _ _ _ _ _ _ _ _ _ _ _ _ (F0 _ _ _ (.ref o_7 :: _))
        have hk_8 : kd o_7 = 3 := kBid_kd hW hk_4 ho_7
        refine lv_astore (lv' := [(4, .ref o_7), (0, .ref h), (1, .int (nI j)), (2, .int t), (3, .int k)]) hx hb dX8_isIn_14 hl (by decide) rfl (fun ls hl => ?_)
        refine lv_aload hx hb dX8_isIn_16 (lv_at hl 0 rfl) ?_
        refine lv_ifnull hx hb dX8_isIn_18 ?_
        refine lv_aload hx hb dX8_isIn_21 (lv_at hl 0 rfl) ?_
        have hm_9 : (o_7, .inr (3, [.int (nI (F 0 o_7)), .int (nI (F 1 o_7)), .int (nI (F 2 o_7)), .int (nI (F 3 o_7)), .ref (st (F 4 o_7)), .ref (st (F 5 o_7))])) ∈ ws := hC.at hk_8 (by decide) (by decide)
        refine c_get (C := RX1) (T := TX1) (N := 6) hx hb hts hin_X1 hown hK hP hm_9 rfl 5 (by decide) l_116 (fun _ h9 => h9) rfl dX8_isIn_23 ?_
        have hn_10 : F 5 o_7 < 4 := hW.num hk_8 rfl (by decide)
        refine va_gets hx hb hG.2.2.2.2.2.2.2.2.1 hS hown l_120 (fun _ h9 => h9) dX8_isIn_26 ?_
        refine s_acmp_ne (x := (F 5 o_7)) (y := 1) (tgt := 36) hx hb hs (by omega) (by omega) dX8_isIn_29 (by decide) (fun c_11 => ?_) (fun c_11 => ?_)
        · refine lv_iconst (v := nI 0) hx hb dX8_isIn_36 (by decide) ?_
          refine W.widen (k := 3) (n := 18) (by omega) (by omega) ?_
          refine vx_ret ?_
          have hk9 : ks (kIx (nI j) 8) (kLotK F L h t k) = 0 := by exact (ks_r hk0_1).trans hk0_3
          exact W.zret (v := nI 0) hx hb hr rfl (fun U9 ht hW9 => ⟨⟨_, (), rfl, ⟨hk9, bi_zero (by rw [nI_clamp (by omega)]; unfold kIn; rw [ho_7]; try first | (show decide _ = true; rw [decide_eq_true_eq]; assumption) | (show decide _ = false; rw [decide_eq_false_iff_not]; assumption))⟩, by show va_P D vwCl ws U9.heap; rw [ht]; exact hP⟩, hS.F ht⟩) hS.2.2 dX8_isIn_37
        · refine lv_iconst (v := nI 1) hx hb dX8_isIn_32 (by decide) ?_
          refine lv_goto (tgt := 37) hx hb dX8_isIn_33 (by decide) ?_
          refine W.widen (k := 3) (n := 18) (by omega) (by omega) ?_
          refine vx_ret ?_
          have hk9 : ks (kIx (nI j) 8) (kLotK F L h t k) = 0 := by exact (ks_r hk0_1).trans hk0_3
          exact W.zret (v := nI 1) hx hb hr rfl (fun U9 ht hW9 => ⟨⟨_, (), rfl, ⟨hk9, bi_one (by rw [nI_clamp (by omega)]; unfold kIn; rw [ho_7]; try first | (show decide _ = true; rw [decide_eq_true_eq]; assumption) | (show decide _ = false; rw [decide_eq_false_iff_not]; assumption))⟩, by show va_P D vwCl ws U9.heap; rw [ht]; exact hP⟩, hS.F ht⟩) hS.2.2 dX8_isIn_37
set_option maxHeartbeats 4000000 in
set_option maxRecDepth 100000 in
theorem cx_score (l : Launch) (hst : l.stackTraces = false) (D : va_G) (cI cO cb : ClassId) (eA mi : Nat) (st : Nat → Nat) {A : Nat → Prop} (ws : va_W) (hD : va_D A ws) {own kd : Nat → Nat} {F : Nat → Nat → Nat} {L : Nat → List Nat} (hC : CW cI cO eA st own kd F L ws) (hW : WF kd F L) (hs : sInj st)  (h : Nat) (hk_h : kd h = 9) (b : Int32) (t : Int32) (k : Int32) : vx_Met l yX8_score wsX8_score ({ frames := 8, cells := 3, slots := 18, locals := 125 }) (va_Pc [.ref h, .int b, .int t, .int k] (cB D cI cO cb eA mi st A ws)) (va_Qi (fun (ri : Int32) (_ : Unit) => ks (kIx b 8) (kLotK F L h t k) = 0 ∧ ri = kSc F L (kLotV F L h t k) b.toNatClampNeg) (fun _ U9 => va_P D vwCl ws U9.heap) A) (XK D ws A (ks (kIx b 8) (kLotK F L h t k))) 3 18 A := by
  refine vx_ofW (cc := cX8_score) (maxL := 6) (ret := (some .int)) (by decide) rfl ?_
  intro p e s m args below meth c s₁ B hml htab hv
  obtain ⟨rfl, hP, hK, hG, hA⟩ := hv
  have hx := B.exec
  have hb := B.bytes
  have hr := B.returns
  have hts := atoms_spec (ws := wsX8_score) B.pre
  have hown : s.vm.findClass RX8 = some m.cls := findClass_of_methodNamed B.named
  have hlocks := B.notSynchronized
  have hin_X1 : ∀ w ∈ wsX10, w ∈ wsX8_score := fun w h => List.mem_cons_of_mem _ (List.mem_append_left _ (List.mem_append_left _ (List.mem_append_left _ (List.mem_append_left _ (List.mem_append_left _ (List.mem_append_right _ h))))))
  have l_116 := (hts (.fieldLink RX8 116 "TenderHall$Bid" "status" "LTenderHall$Status;") (List.mem_of_getElem? (i := 1) rfl))
  have l_120 := (hts (.fieldLink RX8 120 "TenderHall$Status" "IN" "LTenderHall$Status;") (List.mem_of_getElem? (i := 2) rfl))
  have hS : va_S A s.heap s.heap [] := va_S.rf
  have hD0 := hD
  have hl := lv_entry ([.ref h, .int b, .int t, .int k]) (n := 6) (Nat.le_of_ble_eq_true rfl)
  rw [lg_entry_eq]
  generalize (lg_sl ([.ref h, .int b, .int t, .int k]) ++ List.replicate (6 - (lg_sl ([.ref h, .int b, .int t, .int k])).length) Slot.unset).toArray = ls at hl ⊢
  have hl : lv_has ls 6 [(0, .ref h), (1, .int b), (2, .int t), (3, .int k)] := hl
  refine lv_iload_n hx hb dX8_score_0 rfl (lv_at hl 1 rfl) ?_
  refine vx_callv (vx_runS (As := [.int b]) (rest := []) ⟨hx, hb, hml, hown, hts⟩ (cx_checkBidder l hst D cI cO cb eA mi st ws hD hC hW hs b) (va_cwS 1 hts gX8_score_X8_checkBidder rfl rfl rfl kd_X8_checkBidder ⟨Nat.le_of_ble_eq_true rfl, Nat.le_of_ble_eq_true rfl⟩) ⟨cB_blind, cB_pre hK hG hA hS hP _⟩ rfl rfl hl.1 rfl (lv_room (Nat.le_of_ble_eq_true rfl)) dX8_score_1 ⟨Nat.le_of_ble_eq_true rfl, Nat.le_of_ble_eq_true rfl⟩) hS (fun _ _ h => h) (fun _ h => h) (fun _ _ h => h) (fun E9 ce9 q9 u U8 H1 locs1 ht hvm hu hB hz1 hk1 hS1 hc1 hc2 hc3 => ?_) (fun u U8 H1 locs1 ht hvm hu hB hz1 hk1 hS1 => ?_)
  · obtain ⟨hB1, hB2, hB3⟩ := hB
    rw [ht] at hB3
    have hkx : ks (kIx b 8) (kLotK F L h t k) = (kIx b 8) := by exact ks_l hB2
    exact vx_out (fun z9 h9 => (htab z9 h9).elim) hlocks hc1 hc2 hc3 (fun t9 g1 g2 => ⟨(), trivial, ⟨by rw [hkx]; exact hB1, by rw [hkx]; exact hB2, by rw [g1]; exact hB3⟩, hS1.F g1⟩) hS1.2.2 (Nat.le_of_ble_eq_true rfl) (Nat.le_of_ble_eq_true rfl)
  · have hk0_1 : (kIx b 8) = 0 := hu
    have hB2 := hB
    replace hB2 : va_P D vwCl ws U8.heap := hB2
    rw [ht] at hB2
    clear hS
    have hS := hS1
    replace hP := hB2
    generalize H1 = H at hP hS ⊢
    obtain ⟨j, hj, rfl⟩ := kIx_0 (by decide) hk0_1
    refine lv_aload_n hx hb dX8_score_4 rfl (lv_at hl 0 rfl) ?_
    refine lv_iload_n hx hb dX8_score_5 rfl (lv_at hl 2 rfl) ?_
    refine lv_iload_n hx hb dX8_score_6 rfl (lv_at hl 3 rfl) ?_
    have hm_2 : (h, .inr (9, [.ref (F 0 h), .ref (F 1 h), .ref (F 2 h), .ref (F 3 h), .ref (F 4 h), .int (nI (F 5 h))])) ∈ ws := hC.at hk_h (by decide) (by decide)
    refine vx_callr (vx_runV (As := [.int t, .int k]) (rest := []) ⟨hx, hb, hml, hown, hts⟩ (cx_lotAt l hst D cI cO cb eA mi st ws hD hC hW hs h hk_h t k) (cwV 2 hts gX8_score_X8_lotAt rfl rfl rfl kd_X8_lotAt ⟨Nat.le_of_ble_eq_true rfl, Nat.le_of_ble_eq_true rfl⟩) ⟨cB_blind, c_recv hK hP rfl hm_2, cB_pre hK hG hA hS hP _⟩ rfl rfl hl.1 rfl (lv_room (Nat.le_of_ble_eq_true rfl)) dX8_score_7 ⟨Nat.le_of_ble_eq_true rfl, Nat.le_of_ble_eq_true rfl⟩) hS (fun _ _ h => h) (fun _ h => h) (fun _ _ h => h) (fun E9 ce9 q9 u U8 H1 locs1 ht hvm hu hB hz1 hk1 hS1 hc1 hc2 hc3 => ?_) (fun u ra U8 H1 locs1 ht hvm hu hB hz1 hk1 hS1 => ?_)
    · obtain ⟨hB1, hB2, hB3⟩ := hB
      rw [ht] at hB3
      have hkx : ks (kIx (nI j) 8) (kLotK F L h t k) = (kLotK F L h t k) := by exact ks_r hk0_1
      exact vx_out (fun z9 h9 => (htab z9 h9).elim) hlocks hc1 hc2 hc3 (fun t9 g1 g2 => ⟨(), trivial, ⟨by rw [hkx]; exact hB1, by rw [hkx]; exact hB2, by rw [g1]; exact hB3⟩, hS1.F g1⟩) hS1.2.2 (Nat.le_of_ble_eq_true rfl) (Nat.le_of_ble_eq_true rfl)
    · have hk0_3 : (kLotK F L h t k) = 0 := hu
      obtain ⟨hra, hB2⟩ := hB
      subst hra
      replace hB2 : va_P D vwCl ws U8.heap := hB2
      rw [ht] at hB2
      clear hS
      have hS := hS1
      replace hP := hB2
      generalize H1 = H at hP hS ⊢
      have hk_4 : kd (kLotV F L h t k) = 7 := kLot_kd hW hk_h hk0_3
      refine lv_astore (lv' := [(4, .ref (kLotV F L h t k)), (0, .ref h), (1, .int (nI j)), (2, .int t), (3, .int k)]) hx hb dX8_score_10 hl (by decide) rfl (fun ls hl => ?_)
      refine lv_aload hx hb dX8_score_12 (lv_at hl 0 rfl) ?_
      refine lv_iload_n hx hb dX8_score_14 rfl (lv_at hl 2 rfl) ?_
      have hm_5 : (kLotV F L h t k, .inr (7, [.ref (F 0 (kLotV F L h t k)), .int (nI (F 1 (kLotV F L h t k))), .int (nI (F 2 (kLotV F L h t k))), .ref (F 3 (kLotV F L h t k)), .ref (F 4 (kLotV F L h t k))])) ∈ ws := hC.at hk_4 (by decide) (by decide)
      refine va_csq (W.runV (As := [.int (nI j)]) (rest := []) ⟨hx, hb, hml, hown, hts⟩ (ck_bidOf l D cI cO cb eA mi st ws hD hC hW hs (kLotV F L h t k) hk_4 j (by omega)) (cwV 1 hts gX8_score_X5_bidOf rfl rfl rfl kd_X5_bidOf ⟨Nat.le_of_ble_eq_true rfl, Nat.le_of_ble_eq_true rfl⟩) ⟨cB_blind, c_recv hK hP rfl hm_5, cB_pre hK hG hA hS hP _⟩ rfl rfl hl.1 rfl (lv_room (Nat.le_of_ble_eq_true rfl)) dX8_score_15 ⟨Nat.le_of_ble_eq_true rfl, Nat.le_of_ble_eq_true rfl⟩) (fun r_6 hr_6 => ?_)
      subst hr_6
      rcases ho_7 : kBid F L (kLotV F L h t k) j with _ | o_7
      · show W _ _ _ _ _ _ _ _ _ _ _ _ _ _ _ (F0 _ _ _ (.null :: _))
        refine lv_astoreN (lv' := [(5, .null), (4, .ref (kLotV F L h t k)), (0, .ref h), (1, .int (nI j)), (2, .int t), (3, .int k)]) hx hb dX8_score_18 hl (by decide) rfl (fun ls hl => ?_)
        refine lv_aloadN hx hb dX8_score_20 (lv_at hl 0 rfl) ?_
        refine lv_ifnullN (tgt := 36) hx hb dX8_score_22 (by decide) ?_
        refine lv_iconst (v := (-1)) hx hb dX8_score_36 (by decide) ?_
        refine W.widen (k := 3) (n := 18) (by omega) (by omega) ?_
        refine vx_ret ?_
        have hk9 : ks (kIx (nI j) 8) (kLotK F L h t k) = 0 := by exact (ks_r hk0_1).trans hk0_3
        exact W.iret (v := (-1)) hx hb hr (fun U9 ht hW9 => ⟨⟨_, (), rfl, ⟨hk9, (show (-1) = kSc F L (kLotV F L h t k) (nI j).toNatClampNeg from by rw [nI_clamp (by omega)]; unfold kSc; rw [ho_7]; try first | (show _ = if _ then _ else _; rw [if_pos (by assumption)]) | (show _ = if _ then _ else _; rw [if_neg (by assumption)]))⟩, by show va_P D vwCl ws U9.heap; rw [ht]; exact hP⟩, hS.F ht⟩) hS.2.2 dX8_score_37
      · show W _ _ _ _ _ _ _ _ _ _ _ _ _ _ _ (F0 _ _ _ (.ref o_7 :: _))
        have hk_8 : kd o_7 = 3 := kBid_kd hW hk_4 ho_7
        refine lv_astore (lv' := [(5, .ref o_7), (4, .ref (kLotV F L h t k)), (0, .ref h), (1, .int (nI j)), (2, .int t), (3, .int k)]) hx hb dX8_score_18 hl (by decide) rfl (fun ls hl => ?_)
        refine lv_aload hx hb dX8_score_20 (lv_at hl 0 rfl) ?_
        refine lv_ifnull hx hb dX8_score_22 ?_
        refine lv_aload hx hb dX8_score_25 (lv_at hl 0 rfl) ?_
        have hm_9 : (o_7, .inr (3, [.int (nI (F 0 o_7)), .int (nI (F 1 o_7)), .int (nI (F 2 o_7)), .int (nI (F 3 o_7)), .ref (st (F 4 o_7)), .ref (st (F 5 o_7))])) ∈ ws := hC.at hk_8 (by decide) (by decide)
        refine c_get (C := RX1) (T := TX1) (N := 6) hx hb hts hin_X1 hown hK hP hm_9 rfl 5 (by decide) l_116 (fun _ h9 => h9) rfl dX8_score_27 ?_
        have hn_10 : F 5 o_7 < 4 := hW.num hk_8 rfl (by decide)
        refine va_gets hx hb hG.2.2.2.2.2.2.2.2.1 hS hown l_120 (fun _ h9 => h9) dX8_score_30 ?_
        refine s_acmp_eq (x := (F 5 o_7)) (y := 1) (tgt := 38) hx hb hs (by omega) (by omega) dX8_score_33 (by decide) (fun c_11 => ?_) (fun c_11 => ?_)
        · refine lv_aload hx hb dX8_score_38 (lv_at hl 1 rfl) ?_
          refine lv_aload hx hb dX8_score_40 (lv_at hl 0 rfl) ?_
          refine vp_callSi (W.runV (As := [.ref o_7]) (rest := []) ⟨hx, hb, hml, hown, hts⟩ (ck_scoreOf l D cI cO cb eA mi st ws hD hC hW hs (kLotV F L h t k) hk_4 o_7 hk_8) (cwV 1 hts gX8_score_X5_scoreOf rfl rfl rfl kd_X5_scoreOf ⟨Nat.le_of_ble_eq_true rfl, Nat.le_of_ble_eq_true rfl⟩) ⟨cB_blind, c_recv hK hP rfl hm_5, cB_pre hK hG hA hS hP _⟩ rfl rfl hl.1 rfl (lv_room (Nat.le_of_ble_eq_true rfl)) dX8_score_42 ⟨Nat.le_of_ble_eq_true rfl, Nat.le_of_ble_eq_true rfl⟩) (fun r_12 hr_12 => ?_)
          subst hr_12
          have hn_13 : kScore F L (kLotV F L h t k) o_7 < 300000 := kScore_lt hW (by assumption) (by assumption)
          refine W.widen (k := 3) (n := 18) (by omega) (by omega) ?_
          refine vx_ret ?_
          have hk9 : ks (kIx (nI j) 8) (kLotK F L h t k) = 0 := by exact (ks_r hk0_1).trans hk0_3
          exact W.iret (v := nI (kScore F L (kLotV F L h t k) o_7)) hx hb hr (fun U9 ht hW9 => ⟨⟨_, (), rfl, ⟨hk9, (show nI (kScore F L (kLotV F L h t k) o_7) = kSc F L (kLotV F L h t k) (nI j).toNatClampNeg from by rw [nI_clamp (by omega)]; unfold kSc; rw [ho_7]; try first | (show _ = if _ then _ else _; rw [if_pos (by assumption)]) | (show _ = if _ then _ else _; rw [if_neg (by assumption)]))⟩, by show va_P D vwCl ws U9.heap; rw [ht]; exact hP⟩, hS.F ht⟩) hS.2.2 dX8_score_45
        · refine lv_iconst (v := (-1)) hx hb dX8_score_36 (by decide) ?_
          refine W.widen (k := 3) (n := 18) (by omega) (by omega) ?_
          refine vx_ret ?_
          have hk9 : ks (kIx (nI j) 8) (kLotK F L h t k) = 0 := by exact (ks_r hk0_1).trans hk0_3
          exact W.iret (v := (-1)) hx hb hr (fun U9 ht hW9 => ⟨⟨_, (), rfl, ⟨hk9, (show (-1) = kSc F L (kLotV F L h t k) (nI j).toNatClampNeg from by rw [nI_clamp (by omega)]; unfold kSc; rw [ho_7]; try first | (show _ = if _ then _ else _; rw [if_pos (by assumption)]) | (show _ = if _ then _ else _; rw [if_neg (by assumption)]))⟩, by show va_P D vwCl ws U9.heap; rw [ht]; exact hP⟩, hS.F ht⟩) hS.2.2 dX8_score_37
set_option maxHeartbeats 4000000 in
set_option maxRecDepth 100000 in
theorem cx_awardOf (l : Launch) (hst : l.stackTraces = false) (D : va_G) (cI cO cb : ClassId) (eA mi : Nat) (st : Nat → Nat) {A : Nat → Prop} (ws : va_W) (hD : va_D A ws) {own kd : Nat → Nat} {F : Nat → Nat → Nat} {L : Nat → List Nat} (hC : CW cI cO eA st own kd F L ws) (hW : WF kd F L) (hs : sInj st)  (h : Nat) (hk_h : kd h = 9) (t : Int32) (k : Int32) : vx_Met l yX8_awardOf wsX8_awardOf ({ frames := 8, cells := 2, slots := 12, locals := 125 }) (va_Pc [.ref h, .int t, .int k] (cB D cI cO cb eA mi st A ws)) (va_Qi (fun (ri : Int32) (_ : Unit) => kLotK F L h t k = 0 ∧ ri = kAw F L h (kLotV F L h t k)) (fun _ U9 => va_P D vwCl ws U9.heap) A) (XK D ws A (kLotK F L h t k)) 2 12 A := by
  refine vx_ofW (cc := cX8_awardOf) (maxL := 4) (ret := (some .int)) (by decide) rfl ?_
  intro p e s m args below meth c s₁ B hml htab hv
  obtain ⟨rfl, hP, hK, hG, hA⟩ := hv
  have hx := B.exec
  have hb := B.bytes
  have hr := B.returns
  have hts := atoms_spec (ws := wsX8_awardOf) B.pre
  have hown : s.vm.findClass RX8 = some m.cls := findClass_of_methodNamed B.named
  have hlocks := B.notSynchronized
  have hin_X0 : ∀ w ∈ wsX00, w ∈ wsX8_awardOf := fun w h => List.mem_cons_of_mem _ (List.mem_append_left _ (List.mem_append_left _ (List.mem_append_left _ (List.mem_append_left _ (List.mem_append_right _ h)))))
  have l_143 := (hts (.fieldLink RX8 143 "TenderHall$Award" "number" "I") (List.mem_of_getElem? (i := 1) rfl))
  have hS : va_S A s.heap s.heap [] := va_S.rf
  have hD0 := hD
  have hl := lv_entry ([.ref h, .int t, .int k]) (n := 4) (Nat.le_of_ble_eq_true rfl)
  rw [lg_entry_eq]
  generalize (lg_sl ([.ref h, .int t, .int k]) ++ List.replicate (4 - (lg_sl ([.ref h, .int t, .int k])).length) Slot.unset).toArray = ls at hl ⊢
  have hl : lv_has ls 4 [(0, .ref h), (1, .int t), (2, .int k)] := hl
  refine lv_aload_n hx hb dX8_awardOf_0 rfl (lv_at hl 0 rfl) ?_
  refine lv_aload_n hx hb dX8_awardOf_1 rfl (lv_at hl 0 rfl) ?_
  refine lv_iload_n hx hb dX8_awardOf_2 rfl (lv_at hl 1 rfl) ?_
  refine lv_iload_n hx hb dX8_awardOf_3 rfl (lv_at hl 2 rfl) ?_
  have hm_1 : (h, .inr (9, [.ref (F 0 h), .ref (F 1 h), .ref (F 2 h), .ref (F 3 h), .ref (F 4 h), .int (nI (F 5 h))])) ∈ ws := hC.at hk_h (by decide) (by decide)
  refine vx_callr (vx_runV (As := [.int t, .int k]) (rest := [.ref h]) ⟨hx, hb, hml, hown, hts⟩ (cx_lotAt l hst D cI cO cb eA mi st ws hD hC hW hs h hk_h t k) (cwV 2 hts gX8_awardOf_X8_lotAt rfl rfl rfl kd_X8_lotAt ⟨Nat.le_of_ble_eq_true rfl, Nat.le_of_ble_eq_true rfl⟩) ⟨cB_blind, c_recv hK hP rfl hm_1, cB_pre hK hG hA hS hP _⟩ rfl rfl hl.1 rfl (lv_room (Nat.le_of_ble_eq_true rfl)) dX8_awardOf_4 ⟨Nat.le_of_ble_eq_true rfl, Nat.le_of_ble_eq_true rfl⟩) hS (fun _ _ h => h) (fun _ h => h) (fun _ _ h => h) (fun E9 ce9 q9 u U8 H1 locs1 ht hvm hu hB hz1 hk1 hS1 hc1 hc2 hc3 => ?_) (fun u ra U8 H1 locs1 ht hvm hu hB hz1 hk1 hS1 => ?_)
  · obtain ⟨hB1, hB2, hB3⟩ := hB
    rw [ht] at hB3
    have hkx : kLotK F L h t k = (kLotK F L h t k) := by rfl
    exact vx_out (fun z9 h9 => (htab z9 h9).elim) hlocks hc1 hc2 hc3 (fun t9 g1 g2 => ⟨(), trivial, ⟨by rw [hkx]; exact hB1, by rw [hkx]; exact hB2, by rw [g1]; exact hB3⟩, hS1.F g1⟩) hS1.2.2 (Nat.le_of_ble_eq_true rfl) (Nat.le_of_ble_eq_true rfl)
  · have hk0_2 : (kLotK F L h t k) = 0 := hu
    obtain ⟨hra, hB2⟩ := hB
    subst hra
    replace hB2 : va_P D vwCl ws U8.heap := hB2
    rw [ht] at hB2
    clear hS
    have hS := hS1
    replace hP := hB2
    generalize H1 = H at hP hS ⊢
    have hk_3 : kd (kLotV F L h t k) = 7 := kLot_kd hW hk_h hk0_2
    refine va_csq (W.runV (As := [.ref (kLotV F L h t k)]) (rest := []) ⟨hx, hb, hml, hown, hts⟩ (ck_standingAward l D cI cO cb eA mi st ws hD hC hW hs h hk_h (kLotV F L h t k) hk_3) (cwV 1 hts gX8_awardOf_X8_standingAward rfl rfl rfl kd_X8_standingAward ⟨Nat.le_of_ble_eq_true rfl, Nat.le_of_ble_eq_true rfl⟩) ⟨cB_blind, c_recv hK hP rfl hm_1, cB_pre hK hG hA hS hP _⟩ rfl rfl hl.1 rfl (lv_room (Nat.le_of_ble_eq_true rfl)) dX8_awardOf_7 ⟨Nat.le_of_ble_eq_true rfl, Nat.le_of_ble_eq_true rfl⟩) (fun r_4 hr_4 => ?_)
    subst hr_4
    rcases ho_5 : kStand F L h (kLotV F L h t k) with _ | o_5
    · show W _ _ _ _ _ _ _ _ _ _ _ _ _ _ _ (F0 _ _ _ (.null :: _))
      refine lv_astore_nN (lv' := [(3, .null), (0, .ref h), (1, .int t), (2, .int k)]) hx hb dX8_awardOf_10 rfl hl (by decide) rfl (fun ls hl => ?_)
      refine lv_aload_nN hx hb dX8_awardOf_11 rfl (lv_at hl 0 rfl) ?_
      refine lv_ifnonnullN hx hb dX8_awardOf_12 ?_
      refine lv_iconst (v := (-1)) hx hb dX8_awardOf_15 (by decide) ?_
      refine lv_goto (tgt := 23) hx hb dX8_awardOf_16 (by decide) ?_
      refine W.widen (k := 2) (n := 12) (by omega) (by omega) ?_
      refine vx_ret ?_
      have hk9 : kLotK F L h t k = 0 := by exact hk0_2
      exact W.iret (v := (-1)) hx hb hr (fun U9 ht hW9 => ⟨⟨_, (), rfl, ⟨hk9, (show (-1) = kAw F L h (kLotV F L h t k) from by unfold kAw; rw [ho_5]; rfl)⟩, by show va_P D vwCl ws U9.heap; rw [ht]; exact hP⟩, hS.F ht⟩) hS.2.2 dX8_awardOf_23
    · show W _ _ _ _ _ _ _ _ _ _ _ _ _ _ _ (F0 _ _ _ (.ref o_5 :: _))
      have hk_6 : kd o_5 = 2 := kStand_kd hW hk_h ho_5
      refine lv_astore_n (lv' := [(3, .ref o_5), (0, .ref h), (1, .int t), (2, .int k)]) hx hb dX8_awardOf_10 rfl hl (by decide) rfl (fun ls hl => ?_)
      refine lv_aload_n hx hb dX8_awardOf_11 rfl (lv_at hl 0 rfl) ?_
      refine lv_ifnonnull (tgt := 19) hx hb dX8_awardOf_12 (by decide) ?_
      refine lv_aload_n hx hb dX8_awardOf_19 rfl (lv_at hl 0 rfl) ?_
      have hm_7 : (o_5, .inr (2, [.int (nI (F 0 o_5)), .ref (F 1 o_5), .ref (F 2 o_5), .int (nI (F 3 o_5)), .int (nI (F 4 o_5)), .int (nI (F 5 o_5)), .int (nI (F 6 o_5))])) ∈ ws := hC.at hk_6 (by decide) (by decide)
      refine c_get (C := RX0) (T := TX0) (N := 7) hx hb hts hin_X0 hown hK hP hm_7 rfl 0 (by decide) l_143 (fun _ h9 => h9) rfl dX8_awardOf_20 ?_
      have hn_8 : F 0 o_5 < 64 := hW.num hk_6 rfl (by decide)
      refine W.widen (k := 2) (n := 12) (by omega) (by omega) ?_
      refine vx_ret ?_
      have hk9 : kLotK F L h t k = 0 := by exact hk0_2
      exact W.iret (v := nI (F 0 o_5)) hx hb hr (fun U9 ht hW9 => ⟨⟨_, (), rfl, ⟨hk9, (show nI (F 0 o_5) = kAw F L h (kLotV F L h t k) from by unfold kAw; rw [ho_5]; rfl)⟩, by show va_P D vwCl ws U9.heap; rw [ht]; exact hP⟩, hS.F ht⟩) hS.2.2 dX8_awardOf_23
set_option maxHeartbeats 4000000 in
set_option maxRecDepth 100000 in
theorem cx_winner (l : Launch) (hst : l.stackTraces = false) (D : va_G) (cI cO cb : ClassId) (eA mi : Nat) (st : Nat → Nat) {A : Nat → Prop} (ws : va_W) (hD : va_D A ws) {own kd : Nat → Nat} {F : Nat → Nat → Nat} {L : Nat → List Nat} (hC : CW cI cO eA st own kd F L ws) (hW : WF kd F L) (hs : sInj st)  (h : Nat) (hk_h : kd h = 9) (i : Int32) : vx_Met l yX8_winner wsX8_winner ({ frames := 7, cells := 1, slots := 6, locals := 102 }) (va_Pc [.ref h, .int i] (cB D cI cO cb eA mi st A ws)) (va_Qi (fun (ri : Int32) (_ : Unit) => kIx i (L (F 2 h)).length = 0 ∧ ri = nI (F 0 (F 2 (ga (L (F 2 h)) i)))) (fun _ U9 => va_P D vwCl ws U9.heap) A) (XK D ws A (kIx i (L (F 2 h)).length)) 1 6 A := by
  refine vx_ofW (cc := cX8_winner) (maxL := 2) (ret := (some .int)) (by decide) rfl ?_
  intro p e s m args below meth c s₁ B hml htab hv
  obtain ⟨rfl, hP, hK, hG, hA⟩ := hv
  have hx := B.exec
  have hb := B.bytes
  have hr := B.returns
  have hts := atoms_spec (ws := wsX8_winner) B.pre
  have hown : s.vm.findClass RX8 = some m.cls := findClass_of_methodNamed B.named
  have hlocks := B.notSynchronized
  have hin_X0 : ∀ w ∈ wsX00, w ∈ wsX8_winner := fun w h => List.mem_cons_of_mem _ (List.mem_append_left _ (List.mem_append_left _ (List.mem_append_left _ (List.mem_append_left _ (List.mem_append_right _ h)))))
  have hin_X1 : ∀ w ∈ wsX10, w ∈ wsX8_winner := fun w h => List.mem_cons_of_mem _ (List.mem_append_left _ (List.mem_append_left _ (List.mem_append_left _ (List.mem_append_right _ h))))
  have l_152 := (hts (.fieldLink RX8 152 "TenderHall$Award" "bid" "LTenderHall$Bid;") (List.mem_of_getElem? (i := 1) rfl))
  have l_156 := (hts (.fieldLink RX8 156 "TenderHall$Bid" "bidder" "I") (List.mem_of_getElem? (i := 2) rfl))
  have hS : va_S A s.heap s.heap [] := va_S.rf
  have hD0 := hD
  have hl := lv_entry ([.ref h, .int i]) (n := 2) (Nat.le_of_ble_eq_true rfl)
  rw [lg_entry_eq]
  generalize (lg_sl ([.ref h, .int i]) ++ List.replicate (2 - (lg_sl ([.ref h, .int i])).length) Slot.unset).toArray = ls at hl ⊢
  have hl : lv_has ls 2 [(0, .ref h), (1, .int i)] := hl
  refine lv_aload_n hx hb dX8_winner_0 rfl (lv_at hl 0 rfl) ?_
  refine lv_iload_n hx hb dX8_winner_1 rfl (lv_at hl 1 rfl) ?_
  have hm_1 : (h, .inr (9, [.ref (F 0 h), .ref (F 1 h), .ref (F 2 h), .ref (F 3 h), .ref (F 4 h), .int (nI (F 5 h))])) ∈ ws := hC.at hk_h (by decide) (by decide)
  refine vx_callr (vx_runV (As := [.int i]) (rest := []) ⟨hx, hb, hml, hown, hts⟩ (cx_awardAt l hst D cI cO cb eA mi st ws hD hC hW hs h hk_h i) (cwV 1 hts gX8_winner_X8_awardAt rfl rfl rfl kd_X8_awardAt ⟨Nat.le_of_ble_eq_true rfl, Nat.le_of_ble_eq_true rfl⟩) ⟨cB_blind, c_recv hK hP rfl hm_1, cB_pre hK hG hA hS hP _⟩ rfl rfl hl.1 rfl (lv_room (Nat.le_of_ble_eq_true rfl)) dX8_winner_2 ⟨Nat.le_of_ble_eq_true rfl, Nat.le_of_ble_eq_true rfl⟩) hS (fun _ _ h => h) (fun _ h => h) (fun _ _ h => h) (fun E9 ce9 q9 u U8 H1 locs1 ht hvm hu hB hz1 hk1 hS1 hc1 hc2 hc3 => ?_) (fun u ra U8 H1 locs1 ht hvm hu hB hz1 hk1 hS1 => ?_)
  · obtain ⟨hB1, hB2, hB3⟩ := hB
    rw [ht] at hB3
    have hkx : kIx i (L (F 2 h)).length = (kIx i (L (F 2 h)).length) := by rfl
    exact vx_out (fun z9 h9 => (htab z9 h9).elim) hlocks hc1 hc2 hc3 (fun t9 g1 g2 => ⟨(), trivial, ⟨by rw [hkx]; exact hB1, by rw [hkx]; exact hB2, by rw [g1]; exact hB3⟩, hS1.F g1⟩) hS1.2.2 (Nat.le_of_ble_eq_true rfl) (Nat.le_of_ble_eq_true rfl)
  · have hk0_2 : (kIx i (L (F 2 h)).length) = 0 := hu
    obtain ⟨hra, hB2⟩ := hB
    subst hra
    replace hB2 : va_P D vwCl ws U8.heap := hB2
    rw [ht] at hB2
    clear hS
    have hS := hS1
    replace hP := hB2
    generalize H1 = H at hP hS ⊢
    have hk_3 : kd (ga (L (F 2 h)) i) = 2 := hW.ela (hW.ref hk_h rfl (by decide)) hk0_2
    have hm_4 : (ga (L (F 2 h)) i, .inr (2, [.int (nI (F 0 (ga (L (F 2 h)) i))), .ref (F 1 (ga (L (F 2 h)) i)), .ref (F 2 (ga (L (F 2 h)) i)), .int (nI (F 3 (ga (L (F 2 h)) i))), .int (nI (F 4 (ga (L (F 2 h)) i))), .int (nI (F 5 (ga (L (F 2 h)) i))), .int (nI (F 6 (ga (L (F 2 h)) i)))])) ∈ ws := hC.at hk_3 (by decide) (by decide)
    refine c_get (C := RX0) (T := TX0) (N := 7) hx hb hts hin_X0 hown hK hP hm_4 rfl 2 (by decide) l_152 (fun _ h9 => h9) rfl dX8_winner_5 ?_
    have hk_5 : kd (F 2 (ga (L (F 2 h)) i)) = 3 := hW.ref hk_3 rfl (by decide)
    have hm_6 : (F 2 (ga (L (F 2 h)) i), .inr (3, [.int (nI (F 0 (F 2 (ga (L (F 2 h)) i)))), .int (nI (F 1 (F 2 (ga (L (F 2 h)) i)))), .int (nI (F 2 (F 2 (ga (L (F 2 h)) i)))), .int (nI (F 3 (F 2 (ga (L (F 2 h)) i)))), .ref (st (F 4 (F 2 (ga (L (F 2 h)) i)))), .ref (st (F 5 (F 2 (ga (L (F 2 h)) i))))])) ∈ ws := hC.at hk_5 (by decide) (by decide)
    refine c_get (C := RX1) (T := TX1) (N := 6) hx hb hts hin_X1 hown hK hP hm_6 rfl 0 (by decide) l_156 (fun _ h9 => h9) rfl dX8_winner_8 ?_
    have hn_7 : F 0 (F 2 (ga (L (F 2 h)) i)) < 8 := hW.num hk_5 rfl (by decide)
    refine W.widen (k := 1) (n := 6) (by omega) (by omega) ?_
    refine vx_ret ?_
    have hk9 : kIx i (L (F 2 h)).length = 0 := by exact hk0_2
    exact W.iret (v := nI (F 0 (F 2 (ga (L (F 2 h)) i)))) hx hb hr (fun U9 ht hW9 => ⟨⟨_, (), rfl, ⟨hk9, (show nI (F 0 (F 2 (ga (L (F 2 h)) i))) = nI (F 0 (F 2 (ga (L (F 2 h)) i))) from by rfl)⟩, by show va_P D vwCl ws U9.heap; rw [ht]; exact hP⟩, hS.F ht⟩) hS.2.2 dX8_winner_11
set_option maxHeartbeats 4000000 in
set_option maxRecDepth 100000 in
theorem cx_isVoid (l : Launch) (hst : l.stackTraces = false) (D : va_G) (cI cO cb : ClassId) (eA mi : Nat) (st : Nat → Nat) {A : Nat → Prop} (ws : va_W) (hD : va_D A ws) {own kd : Nat → Nat} {F : Nat → Nat → Nat} {L : Nat → List Nat} (hC : CW cI cO eA st own kd F L ws) (hW : WF kd F L) (hs : sInj st)  (h : Nat) (hk_h : kd h = 9) (i : Int32) : vx_Met l yX8_isVoid wsX8_isVoid ({ frames := 7, cells := 1, slots := 6, locals := 102 }) (va_Pc [.ref h, .int i] (cB D cI cO cb eA mi st A ws)) (va_Qi (fun (ri : Int32) (_ : Unit) => kIx i (L (F 2 h)).length = 0 ∧ ri = bi (decide (F 4 (ga (L (F 2 h)) i) = 1))) (fun _ U9 => va_P D vwCl ws U9.heap) A) (XK D ws A (kIx i (L (F 2 h)).length)) 1 6 A := by
  refine vx_ofW (cc := cX8_isVoid) (maxL := 2) (ret := (some .boolean)) (by decide) rfl ?_
  intro p e s m args below meth c s₁ B hml htab hv
  obtain ⟨rfl, hP, hK, hG, hA⟩ := hv
  have hx := B.exec
  have hb := B.bytes
  have hr := B.returns
  have hts := atoms_spec (ws := wsX8_isVoid) B.pre
  have hown : s.vm.findClass RX8 = some m.cls := findClass_of_methodNamed B.named
  have hlocks := B.notSynchronized
  have hin_X0 : ∀ w ∈ wsX00, w ∈ wsX8_isVoid := fun w h => List.mem_cons_of_mem _ (List.mem_append_left _ (List.mem_append_left _ (List.mem_append_left _ (List.mem_append_right _ h))))
  have l_159 := (hts (.fieldLink RX8 159 "TenderHall$Award" "voided" "Z") (List.mem_of_getElem? (i := 1) rfl))
  have hS : va_S A s.heap s.heap [] := va_S.rf
  have hD0 := hD
  have hl := lv_entry ([.ref h, .int i]) (n := 2) (Nat.le_of_ble_eq_true rfl)
  rw [lg_entry_eq]
  generalize (lg_sl ([.ref h, .int i]) ++ List.replicate (2 - (lg_sl ([.ref h, .int i])).length) Slot.unset).toArray = ls at hl ⊢
  have hl : lv_has ls 2 [(0, .ref h), (1, .int i)] := hl
  refine lv_aload_n hx hb dX8_isVoid_0 rfl (lv_at hl 0 rfl) ?_
  refine lv_iload_n hx hb dX8_isVoid_1 rfl (lv_at hl 1 rfl) ?_
  have hm_1 : (h, .inr (9, [.ref (F 0 h), .ref (F 1 h), .ref (F 2 h), .ref (F 3 h), .ref (F 4 h), .int (nI (F 5 h))])) ∈ ws := hC.at hk_h (by decide) (by decide)
  refine vx_callr (vx_runV (As := [.int i]) (rest := []) ⟨hx, hb, hml, hown, hts⟩ (cx_awardAt l hst D cI cO cb eA mi st ws hD hC hW hs h hk_h i) (cwV 1 hts gX8_isVoid_X8_awardAt rfl rfl rfl kd_X8_awardAt ⟨Nat.le_of_ble_eq_true rfl, Nat.le_of_ble_eq_true rfl⟩) ⟨cB_blind, c_recv hK hP rfl hm_1, cB_pre hK hG hA hS hP _⟩ rfl rfl hl.1 rfl (lv_room (Nat.le_of_ble_eq_true rfl)) dX8_isVoid_2 ⟨Nat.le_of_ble_eq_true rfl, Nat.le_of_ble_eq_true rfl⟩) hS (fun _ _ h => h) (fun _ h => h) (fun _ _ h => h) (fun E9 ce9 q9 u U8 H1 locs1 ht hvm hu hB hz1 hk1 hS1 hc1 hc2 hc3 => ?_) (fun u ra U8 H1 locs1 ht hvm hu hB hz1 hk1 hS1 => ?_)
  · obtain ⟨hB1, hB2, hB3⟩ := hB
    rw [ht] at hB3
    have hkx : kIx i (L (F 2 h)).length = (kIx i (L (F 2 h)).length) := by rfl
    exact vx_out (fun z9 h9 => (htab z9 h9).elim) hlocks hc1 hc2 hc3 (fun t9 g1 g2 => ⟨(), trivial, ⟨by rw [hkx]; exact hB1, by rw [hkx]; exact hB2, by rw [g1]; exact hB3⟩, hS1.F g1⟩) hS1.2.2 (Nat.le_of_ble_eq_true rfl) (Nat.le_of_ble_eq_true rfl)
  · have hk0_2 : (kIx i (L (F 2 h)).length) = 0 := hu
    obtain ⟨hra, hB2⟩ := hB
    subst hra
    replace hB2 : va_P D vwCl ws U8.heap := hB2
    rw [ht] at hB2
    clear hS
    have hS := hS1
    replace hP := hB2
    generalize H1 = H at hP hS ⊢
    have hk_3 : kd (ga (L (F 2 h)) i) = 2 := hW.ela (hW.ref hk_h rfl (by decide)) hk0_2
    have hm_4 : (ga (L (F 2 h)) i, .inr (2, [.int (nI (F 0 (ga (L (F 2 h)) i))), .ref (F 1 (ga (L (F 2 h)) i)), .ref (F 2 (ga (L (F 2 h)) i)), .int (nI (F 3 (ga (L (F 2 h)) i))), .int (nI (F 4 (ga (L (F 2 h)) i))), .int (nI (F 5 (ga (L (F 2 h)) i))), .int (nI (F 6 (ga (L (F 2 h)) i)))])) ∈ ws := hC.at hk_3 (by decide) (by decide)
    refine c_get (C := RX0) (T := TX0) (N := 7) hx hb hts hin_X0 hown hK hP hm_4 rfl 4 (by decide) l_159 (fun _ h9 => h9) rfl dX8_isVoid_5 ?_
    have hn_5 : F 4 (ga (L (F 2 h)) i) < 2 := hW.num hk_3 rfl (by decide)
    refine W.widen (k := 1) (n := 6) (by omega) (by omega) ?_
    refine vx_ret ?_
    have hk9 : kIx i (L (F 2 h)).length = 0 := by exact hk0_2
    exact W.zret (v := nI (F 4 (ga (L (F 2 h)) i))) hx hb hr (nar01 (by omega)) (fun U9 ht hW9 => ⟨⟨_, (), rfl, ⟨hk9, (show nI (F 4 (ga (L (F 2 h)) i)) = bi (decide (F 4 (ga (L (F 2 h)) i) = 1)) from by exact nI01 (by omega))⟩, by show va_P D vwCl ws U9.heap; rw [ht]; exact hP⟩, hS.F ht⟩) hS.2.2 dX8_isVoid_8
set_option maxHeartbeats 4000000 in
set_option maxRecDepth 100000 in
theorem cx_isFinal (l : Launch) (hst : l.stackTraces = false) (D : va_G) (cI cO cb : ClassId) (eA mi : Nat) (st : Nat → Nat) {A : Nat → Prop} (ws : va_W) (hD : va_D A ws) {own kd : Nat → Nat} {F : Nat → Nat → Nat} {L : Nat → List Nat} (hC : CW cI cO eA st own kd F L ws) (hW : WF kd F L) (hs : sInj st)  (h : Nat) (hk_h : kd h = 9) (i : Int32) : vx_Met l yX8_isFinal wsX8_isFinal ({ frames := 7, cells := 1, slots := 6, locals := 109 }) (va_Pc [.ref h, .int i] (cB D cI cO cb eA mi st A ws)) (va_Qi (fun (ri : Int32) (_ : Unit) => kIx i (L (F 2 h)).length = 0 ∧ ri = bi (decide (kFin F L h (ga (L (F 2 h)) i)))) (fun _ U9 => va_P D vwCl ws U9.heap) A) (XK D ws A (kIx i (L (F 2 h)).length)) 1 6 A := by
  refine vx_ofW (cc := cX8_isFinal) (maxL := 2) (ret := (some .boolean)) (by decide) rfl ?_
  intro p e s m args below meth c s₁ B hml htab hv
  obtain ⟨rfl, hP, hK, hG, hA⟩ := hv
  have hx := B.exec
  have hb := B.bytes
  have hr := B.returns
  have hts := atoms_spec (ws := wsX8_isFinal) B.pre
  have hown : s.vm.findClass RX8 = some m.cls := findClass_of_methodNamed B.named
  have hlocks := B.notSynchronized
  have hS : va_S A s.heap s.heap [] := va_S.rf
  have hD0 := hD
  have hl := lv_entry ([.ref h, .int i]) (n := 2) (Nat.le_of_ble_eq_true rfl)
  rw [lg_entry_eq]
  generalize (lg_sl ([.ref h, .int i]) ++ List.replicate (2 - (lg_sl ([.ref h, .int i])).length) Slot.unset).toArray = ls at hl ⊢
  have hl : lv_has ls 2 [(0, .ref h), (1, .int i)] := hl
  refine lv_aload_n hx hb dX8_isFinal_0 rfl (lv_at hl 0 rfl) ?_
  refine lv_aload_n hx hb dX8_isFinal_1 rfl (lv_at hl 0 rfl) ?_
  refine lv_iload_n hx hb dX8_isFinal_2 rfl (lv_at hl 1 rfl) ?_
  have hm_1 : (h, .inr (9, [.ref (F 0 h), .ref (F 1 h), .ref (F 2 h), .ref (F 3 h), .ref (F 4 h), .int (nI (F 5 h))])) ∈ ws := hC.at hk_h (by decide) (by decide)
  refine vx_callr (vx_runV (As := [.int i]) (rest := [.ref h]) ⟨hx, hb, hml, hown, hts⟩ (cx_awardAt l hst D cI cO cb eA mi st ws hD hC hW hs h hk_h i) (cwV 1 hts gX8_isFinal_X8_awardAt rfl rfl rfl kd_X8_awardAt ⟨Nat.le_of_ble_eq_true rfl, Nat.le_of_ble_eq_true rfl⟩) ⟨cB_blind, c_recv hK hP rfl hm_1, cB_pre hK hG hA hS hP _⟩ rfl rfl hl.1 rfl (lv_room (Nat.le_of_ble_eq_true rfl)) dX8_isFinal_3 ⟨Nat.le_of_ble_eq_true rfl, Nat.le_of_ble_eq_true rfl⟩) hS (fun _ _ h => h) (fun _ h => h) (fun _ _ h => h) (fun E9 ce9 q9 u U8 H1 locs1 ht hvm hu hB hz1 hk1 hS1 hc1 hc2 hc3 => ?_) (fun u ra U8 H1 locs1 ht hvm hu hB hz1 hk1 hS1 => ?_)
  · obtain ⟨hB1, hB2, hB3⟩ := hB
    rw [ht] at hB3
    have hkx : kIx i (L (F 2 h)).length = (kIx i (L (F 2 h)).length) := by rfl
    exact vx_out (fun z9 h9 => (htab z9 h9).elim) hlocks hc1 hc2 hc3 (fun t9 g1 g2 => ⟨(), trivial, ⟨by rw [hkx]; exact hB1, by rw [hkx]; exact hB2, by rw [g1]; exact hB3⟩, hS1.F g1⟩) hS1.2.2 (Nat.le_of_ble_eq_true rfl) (Nat.le_of_ble_eq_true rfl)
  · have hk0_2 : (kIx i (L (F 2 h)).length) = 0 := hu
    obtain ⟨hra, hB2⟩ := hB
    subst hra
    replace hB2 : va_P D vwCl ws U8.heap := hB2
    rw [ht] at hB2
    clear hS
    have hS := hS1
    replace hP := hB2
    generalize H1 = H at hP hS ⊢
    have hk_3 : kd (ga (L (F 2 h)) i) = 2 := hW.ela (hW.ref hk_h rfl (by decide)) hk0_2
    refine vp_callSi (W.runV (As := [.ref (ga (L (F 2 h)) i)]) (rest := []) ⟨hx, hb, hml, hown, hts⟩ (ck_hasBecomeFinal l D cI cO cb eA mi st ws hD hC hW hs h hk_h (ga (L (F 2 h)) i) hk_3) (cwV 1 hts gX8_isFinal_X8_hasBecomeFinal rfl rfl rfl kd_X8_hasBecomeFinal ⟨Nat.le_of_ble_eq_true rfl, Nat.le_of_ble_eq_true rfl⟩) ⟨cB_blind, c_recv hK hP rfl hm_1, cB_pre hK hG hA hS hP _⟩ rfl rfl hl.1 rfl (lv_room (Nat.le_of_ble_eq_true rfl)) dX8_isFinal_6 ⟨Nat.le_of_ble_eq_true rfl, Nat.le_of_ble_eq_true rfl⟩) (fun r_4 hr_4 => ?_)
    subst hr_4
    refine W.widen (k := 1) (n := 6) (by omega) (by omega) ?_
    refine vx_ret ?_
    have hk9 : kIx i (L (F 2 h)).length = 0 := by exact hk0_2
    exact W.zret (v := bi (decide (kFin F L h (ga (L (F 2 h)) i)))) hx hb hr (bi_nar _) (fun U9 ht hW9 => ⟨⟨_, (), rfl, ⟨hk9, rfl⟩, by show va_P D vwCl ws U9.heap; rw [ht]; exact hP⟩, hS.F ht⟩) hS.2.2 dX8_isFinal_9
set_option maxHeartbeats 4000000 in
set_option maxRecDepth 100000 in
theorem cx_stateOf (l : Launch) (hst : l.stackTraces = false) (D : va_G) (cI cO cb : ClassId) (eA mi : Nat) (st : Nat → Nat) {A : Nat → Prop} (ws : va_W) (hD : va_D A ws) {own kd : Nat → Nat} {F : Nat → Nat → Nat} {L : Nat → List Nat} (hC : CW cI cO eA st own kd F L ws) (hW : WF kd F L) (hs : sInj st)  (h : Nat) (hk_h : kd h = 9) (i : Int32) : vx_Met l yX8_stateOf wsX8_stateOf ({ frames := 7, cells := 1, slots := 6, locals := 102 }) (va_Pc [.ref h, .int i] (cB D cI cO cb eA mi st A ws)) (va_Qi (fun (ri : Int32) (_ : Unit) => kIx i (L (F 3 h)).length = 0 ∧ ri = nI (F 3 (ga (L (F 3 h)) i))) (fun _ U9 => va_P D vwCl ws U9.heap) A) (XK D ws A (kIx i (L (F 3 h)).length)) 1 6 A := by
  refine vx_ofW (cc := cX8_stateOf) (maxL := 2) (ret := (some .int)) (by decide) rfl ?_
  intro p e s m args below meth c s₁ B hml htab hv
  obtain ⟨rfl, hP, hK, hG, hA⟩ := hv
  have hx := B.exec
  have hb := B.bytes
  have hr := B.returns
  have hts := atoms_spec (ws := wsX8_stateOf) B.pre
  have hown : s.vm.findClass RX8 = some m.cls := findClass_of_methodNamed B.named
  have hlocks := B.notSynchronized
  have hin_X3 : ∀ w ∈ wsX30, w ∈ wsX8_stateOf := fun w h => List.mem_cons_of_mem _ (List.mem_append_left _ (List.mem_append_left _ (List.mem_append_left _ (List.mem_append_right _ h))))
  have l_200 := (hts (.fieldLink RX8 200 "TenderHall$Complaint" "state" "I") (List.mem_of_getElem? (i := 1) rfl))
  have hS : va_S A s.heap s.heap [] := va_S.rf
  have hD0 := hD
  have hl := lv_entry ([.ref h, .int i]) (n := 2) (Nat.le_of_ble_eq_true rfl)
  rw [lg_entry_eq]
  generalize (lg_sl ([.ref h, .int i]) ++ List.replicate (2 - (lg_sl ([.ref h, .int i])).length) Slot.unset).toArray = ls at hl ⊢
  have hl : lv_has ls 2 [(0, .ref h), (1, .int i)] := hl
  refine lv_aload_n hx hb dX8_stateOf_0 rfl (lv_at hl 0 rfl) ?_
  refine lv_iload_n hx hb dX8_stateOf_1 rfl (lv_at hl 1 rfl) ?_
  have hm_1 : (h, .inr (9, [.ref (F 0 h), .ref (F 1 h), .ref (F 2 h), .ref (F 3 h), .ref (F 4 h), .int (nI (F 5 h))])) ∈ ws := hC.at hk_h (by decide) (by decide)
  refine vx_callr (vx_runV (As := [.int i]) (rest := []) ⟨hx, hb, hml, hown, hts⟩ (cx_complaintAt l hst D cI cO cb eA mi st ws hD hC hW hs h hk_h i) (cwV 1 hts gX8_stateOf_X8_complaintAt rfl rfl rfl kd_X8_complaintAt ⟨Nat.le_of_ble_eq_true rfl, Nat.le_of_ble_eq_true rfl⟩) ⟨cB_blind, c_recv hK hP rfl hm_1, cB_pre hK hG hA hS hP _⟩ rfl rfl hl.1 rfl (lv_room (Nat.le_of_ble_eq_true rfl)) dX8_stateOf_2 ⟨Nat.le_of_ble_eq_true rfl, Nat.le_of_ble_eq_true rfl⟩) hS (fun _ _ h => h) (fun _ h => h) (fun _ _ h => h) (fun E9 ce9 q9 u U8 H1 locs1 ht hvm hu hB hz1 hk1 hS1 hc1 hc2 hc3 => ?_) (fun u ra U8 H1 locs1 ht hvm hu hB hz1 hk1 hS1 => ?_)
  · obtain ⟨hB1, hB2, hB3⟩ := hB
    rw [ht] at hB3
    have hkx : kIx i (L (F 3 h)).length = (kIx i (L (F 3 h)).length) := by rfl
    exact vx_out (fun z9 h9 => (htab z9 h9).elim) hlocks hc1 hc2 hc3 (fun t9 g1 g2 => ⟨(), trivial, ⟨by rw [hkx]; exact hB1, by rw [hkx]; exact hB2, by rw [g1]; exact hB3⟩, hS1.F g1⟩) hS1.2.2 (Nat.le_of_ble_eq_true rfl) (Nat.le_of_ble_eq_true rfl)
  · have hk0_2 : (kIx i (L (F 3 h)).length) = 0 := hu
    obtain ⟨hra, hB2⟩ := hB
    subst hra
    replace hB2 : va_P D vwCl ws U8.heap := hB2
    rw [ht] at hB2
    clear hS
    have hS := hS1
    replace hP := hB2
    generalize H1 = H at hP hS ⊢
    have hk_3 : kd (ga (L (F 3 h)) i) = 5 := hW.ela (hW.ref hk_h rfl (by decide)) hk0_2
    have hm_4 : (ga (L (F 3 h)) i, .inr (5, [.int (nI (F 0 (ga (L (F 3 h)) i))), .ref (F 1 (ga (L (F 3 h)) i)), .int (nI (F 2 (ga (L (F 3 h)) i))), .int (nI (F 3 (ga (L (F 3 h)) i))), .int (nI (F 4 (ga (L (F 3 h)) i))), .int (nI (F 5 (ga (L (F 3 h)) i)))])) ∈ ws := hC.at hk_3 (by decide) (by decide)
    refine c_get (C := RX3) (T := TX3) (N := 6) hx hb hts hin_X3 hown hK hP hm_4 rfl 3 (by decide) l_200 (fun _ h9 => h9) rfl dX8_stateOf_5 ?_
    have hn_5 : F 3 (ga (L (F 3 h)) i) < 4 := hW.num hk_3 rfl (by decide)
    refine W.widen (k := 1) (n := 6) (by omega) (by omega) ?_
    refine vx_ret ?_
    have hk9 : kIx i (L (F 3 h)).length = 0 := by exact hk0_2
    exact W.iret (v := nI (F 3 (ga (L (F 3 h)) i))) hx hb hr (fun U9 ht hW9 => ⟨⟨_, (), rfl, ⟨hk9, (show nI (F 3 (ga (L (F 3 h)) i)) = nI (F 3 (ga (L (F 3 h)) i)) from by rfl)⟩, by show va_P D vwCl ws U9.heap; rw [ht]; exact hP⟩, hS.F ht⟩) hS.2.2 dX8_stateOf_8
set_option maxHeartbeats 4000000 in
set_option maxRecDepth 100000 in
theorem cx_running (l : Launch) (hst : l.stackTraces = false) (D : va_G) (cI cO cb : ClassId) (eA mi : Nat) (st : Nat → Nat) {A : Nat → Prop} (ws : va_W) (hD : va_D A ws) {own kd : Nat → Nat} {F : Nat → Nat → Nat} {L : Nat → List Nat} (hC : CW cI cO eA st own kd F L ws) (hW : WF kd F L) (hs : sInj st)  (h : Nat) (hk_h : kd h = 9) (i : Int32) : vx_Met l yX8_running wsX8_running ({ frames := 7, cells := 1, slots := 6, locals := 102 }) (va_Pc [.ref h, .int i] (cB D cI cO cb eA mi st A ws)) (va_Qi (fun (ri : Int32) (_ : Unit) => kIx i (L (F 4 h)).length = 0 ∧ ri = nI (kRun F L h (ga (L (F 4 h)) i))) (fun _ U9 => va_P D vwCl ws U9.heap) A) (XK D ws A (kIx i (L (F 4 h)).length)) 1 6 A := by
  refine vx_ofW (cc := cX8_running) (maxL := 3) (ret := (some .int)) (by decide) rfl ?_
  intro p e s m args below meth c s₁ B hml htab hv
  obtain ⟨rfl, hP, hK, hG, hA⟩ := hv
  have hx := B.exec
  have hb := B.bytes
  have hr := B.returns
  have hts := atoms_spec (ws := wsX8_running) B.pre
  have hown : s.vm.findClass RX8 = some m.cls := findClass_of_methodNamed B.named
  have hlocks := B.notSynchronized
  have hin_X0 : ∀ w ∈ wsX00, w ∈ wsX8_running := fun w h => List.mem_cons_of_mem _ (List.mem_append_left _ (List.mem_append_left _ (List.mem_append_left _ (List.mem_append_left _ (List.mem_append_right _ h)))))
  have hin_X4 : ∀ w ∈ wsX40, w ∈ wsX8_running := fun w h => List.mem_cons_of_mem _ (List.mem_append_left _ (List.mem_append_left _ (List.mem_append_left _ (List.mem_append_left _ (List.mem_append_left _ (List.mem_append_right _ h))))))
  have l_233 := (hts (.fieldLink RX8 233 "TenderHall$Contract" "award" "LTenderHall$Award;") (List.mem_of_getElem? (i := 1) rfl))
  have l_159 := (hts (.fieldLink RX8 159 "TenderHall$Award" "voided" "Z") (List.mem_of_getElem? (i := 2) rfl))
  have hS : va_S A s.heap s.heap [] := va_S.rf
  have hD0 := hD
  have hl := lv_entry ([.ref h, .int i]) (n := 3) (Nat.le_of_ble_eq_true rfl)
  rw [lg_entry_eq]
  generalize (lg_sl ([.ref h, .int i]) ++ List.replicate (3 - (lg_sl ([.ref h, .int i])).length) Slot.unset).toArray = ls at hl ⊢
  have hl : lv_has ls 3 [(0, .ref h), (1, .int i)] := hl
  refine lv_aload_n hx hb dX8_running_0 rfl (lv_at hl 0 rfl) ?_
  refine lv_iload_n hx hb dX8_running_1 rfl (lv_at hl 1 rfl) ?_
  have hm_1 : (h, .inr (9, [.ref (F 0 h), .ref (F 1 h), .ref (F 2 h), .ref (F 3 h), .ref (F 4 h), .int (nI (F 5 h))])) ∈ ws := hC.at hk_h (by decide) (by decide)
  refine vx_callr (vx_runV (As := [.int i]) (rest := []) ⟨hx, hb, hml, hown, hts⟩ (cx_contractAt l hst D cI cO cb eA mi st ws hD hC hW hs h hk_h i) (cwV 1 hts gX8_running_X8_contractAt rfl rfl rfl kd_X8_contractAt ⟨Nat.le_of_ble_eq_true rfl, Nat.le_of_ble_eq_true rfl⟩) ⟨cB_blind, c_recv hK hP rfl hm_1, cB_pre hK hG hA hS hP _⟩ rfl rfl hl.1 rfl (lv_room (Nat.le_of_ble_eq_true rfl)) dX8_running_2 ⟨Nat.le_of_ble_eq_true rfl, Nat.le_of_ble_eq_true rfl⟩) hS (fun _ _ h => h) (fun _ h => h) (fun _ _ h => h) (fun E9 ce9 q9 u U8 H1 locs1 ht hvm hu hB hz1 hk1 hS1 hc1 hc2 hc3 => ?_) (fun u ra U8 H1 locs1 ht hvm hu hB hz1 hk1 hS1 => ?_)
  · obtain ⟨hB1, hB2, hB3⟩ := hB
    rw [ht] at hB3
    have hkx : kIx i (L (F 4 h)).length = (kIx i (L (F 4 h)).length) := by rfl
    exact vx_out (fun z9 h9 => (htab z9 h9).elim) hlocks hc1 hc2 hc3 (fun t9 g1 g2 => ⟨(), trivial, ⟨by rw [hkx]; exact hB1, by rw [hkx]; exact hB2, by rw [g1]; exact hB3⟩, hS1.F g1⟩) hS1.2.2 (Nat.le_of_ble_eq_true rfl) (Nat.le_of_ble_eq_true rfl)
  · have hk0_2 : (kIx i (L (F 4 h)).length) = 0 := hu
    obtain ⟨hra, hB2⟩ := hB
    subst hra
    replace hB2 : va_P D vwCl ws U8.heap := hB2
    rw [ht] at hB2
    clear hS
    have hS := hS1
    replace hP := hB2
    generalize H1 = H at hP hS ⊢
    have hk_3 : kd (ga (L (F 4 h)) i) = 6 := hW.ela (hW.ref hk_h rfl (by decide)) hk0_2
    refine lv_astore_n (lv' := [(2, .ref (ga (L (F 4 h)) i)), (0, .ref h), (1, .int i)]) hx hb dX8_running_5 rfl hl (by decide) rfl (fun ls hl => ?_)
    refine lv_aload_n hx hb dX8_running_6 rfl (lv_at hl 0 rfl) ?_
    have hm_4 : (ga (L (F 4 h)) i, .inr (6, [.ref (F 0 (ga (L (F 4 h)) i)), .int (nI (F 1 (ga (L (F 4 h)) i)))])) ∈ ws := hC.at hk_3 (by decide) (by decide)
    refine c_get (C := RX4) (T := TX4) (N := 2) hx hb hts hin_X4 hown hK hP hm_4 rfl 0 (by decide) l_233 (fun _ h9 => h9) rfl dX8_running_7 ?_
    have hk_5 : kd (F 0 (ga (L (F 4 h)) i)) = 2 := hW.ref hk_3 rfl (by decide)
    have hm_6 : (F 0 (ga (L (F 4 h)) i), .inr (2, [.int (nI (F 0 (F 0 (ga (L (F 4 h)) i)))), .ref (F 1 (F 0 (ga (L (F 4 h)) i))), .ref (F 2 (F 0 (ga (L (F 4 h)) i))), .int (nI (F 3 (F 0 (ga (L (F 4 h)) i)))), .int (nI (F 4 (F 0 (ga (L (F 4 h)) i)))), .int (nI (F 5 (F 0 (ga (L (F 4 h)) i)))), .int (nI (F 6 (F 0 (ga (L (F 4 h)) i))))])) ∈ ws := hC.at hk_5 (by decide) (by decide)
    refine c_get (C := RX0) (T := TX0) (N := 7) hx hb hts hin_X0 hown hK hP hm_6 rfl 4 (by decide) l_159 (fun _ h9 => h9) rfl dX8_running_10 ?_
    have hn_7 : F 4 (F 0 (ga (L (F 4 h)) i)) < 2 := hW.num hk_5 rfl (by decide)
    refine n_if_eq (tgt := 18) hx hb dX8_running_13 (by decide) (by omega) (fun c_8 => ?_) (fun c_8 => ?_)
    · refine lv_aload_n hx hb dX8_running_18 rfl (lv_at hl 1 rfl) ?_
      refine lv_aload_n hx hb dX8_running_19 rfl (lv_at hl 0 rfl) ?_
      refine c_get (C := RX4) (T := TX4) (N := 2) hx hb hts hin_X4 hown hK hP hm_4 rfl 0 (by decide) l_233 (fun _ h9 => h9) rfl dX8_running_20 ?_
      refine vp_callSi (W.runV (As := [.ref (F 0 (ga (L (F 4 h)) i))]) (rest := []) ⟨hx, hb, hml, hown, hts⟩ (ck_openAbout l D cI cO cb eA mi st ws hD hC hW hs h hk_h (F 0 (ga (L (F 4 h)) i)) hk_5) (cwV 1 hts gX8_running_X8_openAbout rfl rfl rfl kd_X8_openAbout ⟨Nat.le_of_ble_eq_true rfl, Nat.le_of_ble_eq_true rfl⟩) ⟨cB_blind, c_recv hK hP rfl hm_1, cB_pre hK hG hA hS hP _⟩ rfl rfl hl.1 rfl (lv_room (Nat.le_of_ble_eq_true rfl)) dX8_running_23 ⟨Nat.le_of_ble_eq_true rfl, Nat.le_of_ble_eq_true rfl⟩) (fun r_9 hr_9 => ?_)
      subst hr_9
      have hn_10 : kOpen F L h (F 0 (ga (L (F 4 h)) i)) ≤ 60 := kOpen_le hW (by assumption)
      refine n_if_le (tgt := 33) hx hb dX8_running_26 (by decide) (by omega) (fun c_11 => ?_) (fun c_11 => ?_)
      · refine lv_iconst (v := nI 2) hx hb dX8_running_33 (by decide) ?_
        refine W.widen (k := 1) (n := 6) (by omega) (by omega) ?_
        refine vx_ret ?_
        have hk9 : kIx i (L (F 4 h)).length = 0 := by exact hk0_2
        exact W.iret (v := nI 2) hx hb hr (fun U9 ht hW9 => ⟨⟨_, (), rfl, ⟨hk9, (show nI 2 = nI (kRun F L h (ga (L (F 4 h)) i)) from by exact congrArg nI (by unfold kRun; first | (rw [if_pos (by omega)]) | (rw [if_neg (by omega), if_pos (by omega)]) | (rw [if_neg (by omega), if_neg (by omega)])))⟩, by show va_P D vwCl ws U9.heap; rw [ht]; exact hP⟩, hS.F ht⟩) hS.2.2 dX8_running_34
      · refine lv_iconst (v := nI 1) hx hb dX8_running_29 (by decide) ?_
        refine lv_goto (tgt := 34) hx hb dX8_running_30 (by decide) ?_
        refine W.widen (k := 1) (n := 6) (by omega) (by omega) ?_
        refine vx_ret ?_
        have hk9 : kIx i (L (F 4 h)).length = 0 := by exact hk0_2
        exact W.iret (v := nI 1) hx hb hr (fun U9 ht hW9 => ⟨⟨_, (), rfl, ⟨hk9, (show nI 1 = nI (kRun F L h (ga (L (F 4 h)) i)) from by exact congrArg nI (by unfold kRun; first | (rw [if_pos (by omega)]) | (rw [if_neg (by omega), if_pos (by omega)]) | (rw [if_neg (by omega), if_neg (by omega)])))⟩, by show va_P D vwCl ws U9.heap; rw [ht]; exact hP⟩, hS.F ht⟩) hS.2.2 dX8_running_34
    · refine lv_iconst (v := nI 0) hx hb dX8_running_16 (by decide) ?_
      refine W.widen (k := 1) (n := 6) (by omega) (by omega) ?_
      refine vx_ret ?_
      have hk9 : kIx i (L (F 4 h)).length = 0 := by exact hk0_2
      exact W.iret (v := nI 0) hx hb hr (fun U9 ht hW9 => ⟨⟨_, (), rfl, ⟨hk9, (show nI 0 = nI (kRun F L h (ga (L (F 4 h)) i)) from by exact congrArg nI (by unfold kRun; first | (rw [if_pos (by omega)]) | (rw [if_neg (by omega), if_pos (by omega)]) | (rw [if_neg (by omega), if_neg (by omega)])))⟩, by show va_P D vwCl ws U9.heap; rw [ht]; exact hP⟩, hS.F ht⟩) hS.2.2 dX8_running_17
set_option maxHeartbeats 4000000 in
set_option maxRecDepth 100000 in
theorem cx_owes (l : Launch) (hst : l.stackTraces = false) (D : va_G) (cI cO cb : ClassId) (eA mi : Nat) (st : Nat → Nat) {A : Nat → Prop} (ws : va_W) (hD : va_D A ws) {own kd : Nat → Nat} {F : Nat → Nat → Nat} {L : Nat → List Nat} (hC : CW cI cO eA st own kd F L ws) (hW : WF kd F L) (hs : sInj st)  (h : Nat) (hk_h : kd h = 9) (b : Int32) : vx_Met l yX8_owes wsX8_owes ({ frames := 7, cells := 1, slots := 6, locals := 101 }) (va_Pc [.ref h, .int b] (cB D cI cO cb eA mi st A ws)) (va_Qi (fun (ri : Int32) (_ : Unit) => kIx b 8 = 0 ∧ ri = nI (sm (kOwes F L h b.toNatClampNeg) (L (F 4 h)).length)) (fun _ U9 => va_P D vwCl ws U9.heap) A) (XK D ws A (kIx b 8)) 1 6 A := by
  refine vx_ofW (cc := cX8_owes) (maxL := 5) (ret := (some .int)) (by decide) rfl ?_
  intro p e s m args below meth c s₁ B hml htab hv
  obtain ⟨rfl, hP, hK, hG, hA⟩ := hv
  have hx := B.exec
  have hb := B.bytes
  have hr := B.returns
  have hts := atoms_spec (ws := wsX8_owes) B.pre
  have hown : s.vm.findClass RX8 = some m.cls := findClass_of_methodNamed B.named
  have hlocks := B.notSynchronized
  have hin_X0 : ∀ w ∈ wsX00, w ∈ wsX8_owes := fun w h => List.mem_cons_of_mem _ (List.mem_append_left _ (List.mem_append_left _ (List.mem_append_left _ (List.mem_append_right _ h))))
  have hin_X1 : ∀ w ∈ wsX10, w ∈ wsX8_owes := fun w h => List.mem_cons_of_mem _ (List.mem_append_left _ (List.mem_append_left _ (List.mem_append_right _ h)))
  have hin_X4 : ∀ w ∈ wsX40, w ∈ wsX8_owes := fun w h => List.mem_cons_of_mem _ (List.mem_append_left _ (List.mem_append_left _ (List.mem_append_left _ (List.mem_append_left _ (List.mem_append_right _ h)))))
  have hin_X8 : ∀ w ∈ wsX80, w ∈ wsX8_owes := fun w h => List.mem_cons_of_mem _ (List.mem_append_left _ (List.mem_append_left _ (List.mem_append_left _ (List.mem_append_left _ (List.mem_append_left _ (List.mem_append_right _ h))))))
  have l_26 := (hts (.fieldLink RX8 26 "TenderHall" "contracts" "Ljava/util/ArrayList;") (List.mem_of_getElem? (i := 1) rfl))
  have l_233 := (hts (.fieldLink RX8 233 "TenderHall$Contract" "award" "LTenderHall$Award;") (List.mem_of_getElem? (i := 3) rfl))
  have l_159 := (hts (.fieldLink RX8 159 "TenderHall$Award" "voided" "Z") (List.mem_of_getElem? (i := 4) rfl))
  have l_152 := (hts (.fieldLink RX8 152 "TenderHall$Award" "bid" "LTenderHall$Bid;") (List.mem_of_getElem? (i := 5) rfl))
  have l_156 := (hts (.fieldLink RX8 156 "TenderHall$Bid" "bidder" "I") (List.mem_of_getElem? (i := 6) rfl))
  have l_234 := (hts (.fieldLink RX8 234 "TenderHall$Contract" "called" "I") (List.mem_of_getElem? (i := 7) rfl))
  have hS : va_S A s.heap s.heap [] := va_S.rf
  have hD0 := hD
  have hl := lv_entry ([.ref h, .int b]) (n := 5) (Nat.le_of_ble_eq_true rfl)
  rw [lg_entry_eq]
  generalize (lg_sl ([.ref h, .int b]) ++ List.replicate (5 - (lg_sl ([.ref h, .int b])).length) Slot.unset).toArray = ls at hl ⊢
  have hl : lv_has ls 5 [(0, .ref h), (1, .int b)] := hl
  refine lv_iload_n hx hb dX8_owes_0 rfl (lv_at hl 1 rfl) ?_
  refine vx_callv (vx_runS (As := [.int b]) (rest := []) ⟨hx, hb, hml, hown, hts⟩ (cx_checkBidder l hst D cI cO cb eA mi st ws hD hC hW hs b) (va_cwS 1 hts gX8_owes_X8_checkBidder rfl rfl rfl kd_X8_checkBidder ⟨Nat.le_of_ble_eq_true rfl, Nat.le_of_ble_eq_true rfl⟩) ⟨cB_blind, cB_pre hK hG hA hS hP _⟩ rfl rfl hl.1 rfl (lv_room (Nat.le_of_ble_eq_true rfl)) dX8_owes_1 ⟨Nat.le_of_ble_eq_true rfl, Nat.le_of_ble_eq_true rfl⟩) hS (fun _ _ h => h) (fun _ h => h) (fun _ _ h => h) (fun E9 ce9 q9 u U8 H1 locs1 ht hvm hu hB hz1 hk1 hS1 hc1 hc2 hc3 => ?_) (fun u U8 H1 locs1 ht hvm hu hB hz1 hk1 hS1 => ?_)
  · obtain ⟨hB1, hB2, hB3⟩ := hB
    rw [ht] at hB3
    have hkx : kIx b 8 = (kIx b 8) := by rfl
    exact vx_out (fun z9 h9 => (htab z9 h9).elim) hlocks hc1 hc2 hc3 (fun t9 g1 g2 => ⟨(), trivial, ⟨by rw [hkx]; exact hB1, by rw [hkx]; exact hB2, by rw [g1]; exact hB3⟩, hS1.F g1⟩) hS1.2.2 (Nat.le_of_ble_eq_true rfl) (Nat.le_of_ble_eq_true rfl)
  · have hk0_1 : (kIx b 8) = 0 := hu
    have hB2 := hB
    replace hB2 : va_P D vwCl ws U8.heap := hB2
    rw [ht] at hB2
    clear hS
    have hS := hS1
    replace hP := hB2
    generalize H1 = H at hP hS ⊢
    obtain ⟨j, hj, rfl⟩ := kIx_0 (by decide) hk0_1
    have hk3 : kd (F 4 h) = 26 := hW.ref hk_h rfl (by decide)
    have hl3 : (L (F 4 h)).length ≤ 60 := hW.len hk3 (by decide)
    refine lv_iconst (v := nI 0) hx hb dX8_owes_4 (by decide) ?_
    refine lv_istore_n (lv' := [(2, .int (nI 0)), (0, .ref h), (1, .int (nI j))]) hx hb dX8_owes_5 rfl hl (by decide) rfl (fun ls hl => ?_)
    refine lv_iconst (v := nI 0) hx hb dX8_owes_6 (by decide) ?_
    refine lv_istore_n (lv' := [(3, .int (nI 0)), (2, .int (nI 0)), (0, .ref h), (1, .int (nI j))]) hx hb dX8_owes_7 rfl hl (by decide) rfl (fun ls hl => ?_)
    refine w_loopJ (n := (L (F 4 h)).length) (nL := 5) (fun i => True) (fun i => [(0, .ref h), (1, .int (nI j)), (3, .int (nI i)), (2, .int (nI (sm (kOwes F L h j) i)))]) (fun i hb_3 hJ_4 ih_2 ls hl => ?_) 0 (Nat.zero_le _) trivial ls (lv_sub hl [2, 3, 0, 1] rfl)
    refine lv_iload_n hx hb dX8_owes_8 rfl (lv_at hl 2 rfl) ?_
    refine lv_aload_n hx hb dX8_owes_9 rfl (lv_at hl 0 rfl) ?_
    have hm_5 : (h, .inr (9, [.ref (F 0 h), .ref (F 1 h), .ref (F 2 h), .ref (F 3 h), .ref (F 4 h), .int (nI (F 5 h))])) ∈ ws := hC.at hk_h (by decide) (by decide)
    refine c_get (C := RX8) (T := TX8) (N := 6) hx hb hts hin_X8 hown hK hP hm_5 rfl 4 (by decide) l_26 (fun _ h9 => h9) rfl dX8_owes_10 ?_
    have hk_6 : kd (F 4 h) = 26 := hW.ref hk_h rfl (by decide)
    have hl_7 : (L (F 4 h)).length ≤ 60 := hW.len hk_6 (by decide)
    obtain ⟨fs_hm_8, hm_8⟩ := hC.obj hk_6 (by decide)
    refine vp_callSi (W.runV (As := []) (rest := [.int (nI i)]) ⟨hx, hb, hml, hown, hts⟩ ((cl_size l D cI cO cb eA mi st ws hD (F 4 h) (L (F 4 h)) (hC.lst hk_6 (by decide)))) (cwV 0 hts gX8_owes_Jx4a65c_size_8abf5 rfl rfl rfl kd_Jx4a65c_size_8abf5 ⟨Nat.le_of_ble_eq_true rfl, Nat.le_of_ble_eq_true rfl⟩) ⟨cB_blind, c_recv hK hP rfl hm_8, cB_pre hK hG hA hS hP _⟩ rfl rfl hl.1 rfl (lv_room (Nat.le_of_ble_eq_true rfl)) dX8_owes_13 ⟨Nat.le_of_ble_eq_true rfl, Nat.le_of_ble_eq_true rfl⟩) (fun r_9 hr_9 => ?_)
    subst hr_9
    refine n_icmp_ge (tgt := 72) hx hb dX8_owes_16 (by decide) (by omega) (by omega) (fun c_10 => ?_) (fun c_10 => ?_)
    · refine lv_iload_n hx hb dX8_owes_72 rfl (lv_at hl 3 rfl) ?_
      refine W.widen (k := 1) (n := 6) (by omega) (by omega) ?_
      refine vx_ret ?_
      have hk9 : kIx (nI j) 8 = 0 := by exact hk0_1
      exact W.iret (v := nI (sm (kOwes F L h j) i)) hx hb hr (fun U9 ht hW9 => ⟨⟨_, (), rfl, ⟨hk9, (show nI (sm (kOwes F L h j) i) = nI (sm (kOwes F L h (nI j).toNatClampNeg) (L (F 4 h)).length) from by rw [nI_clamp (by omega), show (L (F 4 h)).length = i by omega])⟩, by show va_P D vwCl ws U9.heap; rw [ht]; exact hP⟩, hS.F ht⟩) hS.2.2 dX8_owes_73
    · refine lv_aload_n hx hb dX8_owes_19 rfl (lv_at hl 0 rfl) ?_
      refine c_get (C := RX8) (T := TX8) (N := 6) hx hb hts hin_X8 hown hK hP hm_5 rfl 4 (by decide) l_26 (fun _ h9 => h9) rfl dX8_owes_20 ?_
      refine lv_iload_n hx hb dX8_owes_23 rfl (lv_at hl 2 rfl) ?_
      obtain ⟨fs_hm_11, hm_11⟩ := hC.obj hk_6 (by decide)
      refine va_csr (W.runV (As := [.int (nI i)]) (rest := []) ⟨hx, hb, hml, hown, hts⟩ ((cl_get l D cI cO cb eA mi st ws hD (F 4 h) (L (F 4 h)) (hC.lst hk_6 (by decide)) i (gt (L (F 4 h)) i) (gt_some (by omega)))) (cwV 1 hts gX8_owes_Jx4a65c_get_915e3 rfl rfl rfl kd_Jx4a65c_get_915e3 ⟨Nat.le_of_ble_eq_true rfl, Nat.le_of_ble_eq_true rfl⟩) ⟨cB_blind, c_recv hK hP rfl hm_11, cB_pre hK hG hA hS hP _⟩ rfl rfl hl.1 rfl (lv_room (Nat.le_of_ble_eq_true rfl)) dX8_owes_24 ⟨Nat.le_of_ble_eq_true rfl, Nat.le_of_ble_eq_true rfl⟩) (fun r_12 hr_12 => ?_)
      subst hr_12
      have hk_13 : kd (gt (L (F 4 h)) i) = 6 := hW.el hk_6 (by omega)
      have hm_14 : (gt (L (F 4 h)) i, .inr (6, [.ref (F 0 (gt (L (F 4 h)) i)), .int (nI (F 1 (gt (L (F 4 h)) i)))])) ∈ ws := hC.at hk_13 (by decide) (by decide)
      refine va_castE hx hb hown (hts (.classLink RX8 224 "TenderHall$Contract") (List.mem_of_getElem? (i := 2) rfl)) (c_recv hK hP (ci := 6) rfl hm_14) dX8_owes_27 ?_
      refine lv_astore (lv' := [(4, .ref (gt (L (F 4 h)) i)), (0, .ref h), (1, .int (nI j)), (3, .int (nI i)), (2, .int (nI (sm (kOwes F L h j) i)))]) hx hb dX8_owes_30 hl (by decide) rfl (fun ls hl => ?_)
      refine lv_aload hx hb dX8_owes_32 (lv_at hl 0 rfl) ?_
      refine c_get (C := RX4) (T := TX4) (N := 2) hx hb hts hin_X4 hown hK hP hm_14 rfl 0 (by decide) l_233 (fun _ h9 => h9) rfl dX8_owes_34 ?_
      have hk_15 : kd (F 0 (gt (L (F 4 h)) i)) = 2 := hW.ref hk_13 rfl (by decide)
      have hm_16 : (F 0 (gt (L (F 4 h)) i), .inr (2, [.int (nI (F 0 (F 0 (gt (L (F 4 h)) i)))), .ref (F 1 (F 0 (gt (L (F 4 h)) i))), .ref (F 2 (F 0 (gt (L (F 4 h)) i))), .int (nI (F 3 (F 0 (gt (L (F 4 h)) i)))), .int (nI (F 4 (F 0 (gt (L (F 4 h)) i)))), .int (nI (F 5 (F 0 (gt (L (F 4 h)) i)))), .int (nI (F 6 (F 0 (gt (L (F 4 h)) i))))])) ∈ ws := hC.at hk_15 (by decide) (by decide)
      refine c_get (C := RX0) (T := TX0) (N := 7) hx hb hts hin_X0 hown hK hP hm_16 rfl 4 (by decide) l_159 (fun _ h9 => h9) rfl dX8_owes_37 ?_
      have hn_17 : F 4 (F 0 (gt (L (F 4 h)) i)) < 2 := hW.num hk_15 rfl (by decide)
      refine n_if_eq (tgt := 66) hx hb dX8_owes_40 (by decide) (by omega) (fun c_18 => ?_) (fun c_18 => ?_)
      · refine n_iinc (k := 3) (lv' := [(3, .int (nI (i + 1))), (4, .ref (gt (L (F 4 h)) i)), (0, .ref h), (1, .int (nI j)), (2, .int (nI (sm (kOwes F L h j) i)))]) hx hb dX8_owes_66 hl rfl (by decide) rfl (fun ls hl => ?_)
        refine lv_goto (tgt := 8) hx hb dX8_owes_69 (by decide) ?_
        have e_19 : sm (kOwes F L h j) (i + 1) = sm (kOwes F L h j) i := by first | (exfalso; omega) | (rw [sm]; show _ + (if _ then _ else _) = _; rw [if_pos ⟨by omega, by omega⟩]; done) | (rw [sm]; show _ + (if _ then _ else _) = _; rw [if_neg (by omega)]; try rfl)
        refine ih_2 (by omega) trivial ls ?_
        show lv_has ls 5 [(0, .ref h), (1, .int (nI j)), (3, .int (nI (i + 1))), (2, .int (nI (sm (kOwes F L h j) (i + 1))))]
        rw [e_19]
        exact lv_sub hl [2, 3, 0, 4] rfl
      · refine lv_aload hx hb dX8_owes_43 (lv_at hl 0 rfl) ?_
        refine c_get (C := RX4) (T := TX4) (N := 2) hx hb hts hin_X4 hown hK hP hm_14 rfl 0 (by decide) l_233 (fun _ h9 => h9) rfl dX8_owes_45 ?_
        refine c_get (C := RX0) (T := TX0) (N := 7) hx hb hts hin_X0 hown hK hP hm_16 rfl 2 (by decide) l_152 (fun _ h9 => h9) rfl dX8_owes_48 ?_
        have hk_20 : kd (F 2 (F 0 (gt (L (F 4 h)) i))) = 3 := hW.ref hk_15 rfl (by decide)
        have hm_21 : (F 2 (F 0 (gt (L (F 4 h)) i)), .inr (3, [.int (nI (F 0 (F 2 (F 0 (gt (L (F 4 h)) i))))), .int (nI (F 1 (F 2 (F 0 (gt (L (F 4 h)) i))))), .int (nI (F 2 (F 2 (F 0 (gt (L (F 4 h)) i))))), .int (nI (F 3 (F 2 (F 0 (gt (L (F 4 h)) i))))), .ref (st (F 4 (F 2 (F 0 (gt (L (F 4 h)) i))))), .ref (st (F 5 (F 2 (F 0 (gt (L (F 4 h)) i)))))])) ∈ ws := hC.at hk_20 (by decide) (by decide)
        refine c_get (C := RX1) (T := TX1) (N := 6) hx hb hts hin_X1 hown hK hP hm_21 rfl 0 (by decide) l_156 (fun _ h9 => h9) rfl dX8_owes_51 ?_
        have hn_22 : F 0 (F 2 (F 0 (gt (L (F 4 h)) i))) < 8 := hW.num hk_20 rfl (by decide)
        refine lv_iload_n hx hb dX8_owes_54 rfl (lv_at hl 2 rfl) ?_
        refine n_icmp_ne (tgt := 66) hx hb dX8_owes_55 (by decide) (by omega) (by omega) (fun c_23 => ?_) (fun c_23 => ?_)
        · refine n_iinc (k := 3) (lv' := [(3, .int (nI (i + 1))), (4, .ref (gt (L (F 4 h)) i)), (0, .ref h), (1, .int (nI j)), (2, .int (nI (sm (kOwes F L h j) i)))]) hx hb dX8_owes_66 hl rfl (by decide) rfl (fun ls hl => ?_)
          refine lv_goto (tgt := 8) hx hb dX8_owes_69 (by decide) ?_
          have e_24 : sm (kOwes F L h j) (i + 1) = sm (kOwes F L h j) i := by first | (exfalso; omega) | (rw [sm]; show _ + (if _ then _ else _) = _; rw [if_pos ⟨by omega, by omega⟩]; done) | (rw [sm]; show _ + (if _ then _ else _) = _; rw [if_neg (by omega)]; try rfl)
          refine ih_2 (by omega) trivial ls ?_
          show lv_has ls 5 [(0, .ref h), (1, .int (nI j)), (3, .int (nI (i + 1))), (2, .int (nI (sm (kOwes F L h j) (i + 1))))]
          rw [e_24]
          exact lv_sub hl [2, 3, 0, 4] rfl
        · refine lv_iload_n hx hb dX8_owes_58 rfl (lv_at hl 4 rfl) ?_
          refine lv_aload hx hb dX8_owes_59 (lv_at hl 0 rfl) ?_
          refine c_get (C := RX4) (T := TX4) (N := 2) hx hb hts hin_X4 hown hK hP hm_14 rfl 1 (by decide) l_234 (fun _ h9 => h9) rfl dX8_owes_61 ?_
          have hn_25 : F 1 (gt (L (F 4 h)) i) < 100001 := hW.num hk_13 rfl (by decide)
          refine n_iadd hx hb dX8_owes_64 (z := (sm (kOwes F L h j) i) + (F 1 (gt (L (F 4 h)) i))) rfl ?_
          refine lv_istore_n (lv' := [(2, .int (nI ((sm (kOwes F L h j) i) + (F 1 (gt (L (F 4 h)) i))))), (4, .ref (gt (L (F 4 h)) i)), (0, .ref h), (1, .int (nI j)), (3, .int (nI i))]) hx hb dX8_owes_65 rfl hl (by decide) rfl (fun ls hl => ?_)
          refine n_iinc (k := 4) (lv' := [(3, .int (nI (i + 1))), (2, .int (nI ((sm (kOwes F L h j) i) + (F 1 (gt (L (F 4 h)) i))))), (4, .ref (gt (L (F 4 h)) i)), (0, .ref h), (1, .int (nI j))]) hx hb dX8_owes_66 hl rfl (by decide) rfl (fun ls hl => ?_)
          refine lv_goto (tgt := 8) hx hb dX8_owes_69 (by decide) ?_
          have e_26 : sm (kOwes F L h j) (i + 1) = (sm (kOwes F L h j) i) + (F 1 (gt (L (F 4 h)) i)) := by first | (exfalso; omega) | (rw [sm]; show _ + (if _ then _ else _) = _; rw [if_pos ⟨by omega, by omega⟩]; done) | (rw [sm]; show _ + (if _ then _ else _) = _; rw [if_neg (by omega)]; try rfl)
          refine ih_2 (by omega) trivial ls ?_
          show lv_has ls 5 [(0, .ref h), (1, .int (nI j)), (3, .int (nI (i + 1))), (2, .int (nI (sm (kOwes F L h j) (i + 1))))]
          rw [e_26]
          exact lv_sub hl [3, 4, 0, 1] rfl
set_option maxHeartbeats 4000000 in
set_option maxRecDepth 100000 in
theorem cx_lost (l : Launch) (hst : l.stackTraces = false) (D : va_G) (cI cO cb : ClassId) (eA mi : Nat) (st : Nat → Nat) {A : Nat → Prop} (ws : va_W) (hD : va_D A ws) {own kd : Nat → Nat} {F : Nat → Nat → Nat} {L : Nat → List Nat} (hC : CW cI cO eA st own kd F L ws) (hW : WF kd F L) (hs : sInj st)  (h : Nat) (hk_h : kd h = 9) (b : Int32) : vx_Met l yX8_lost wsX8_lost ({ frames := 7, cells := 1, slots := 6, locals := 101 }) (va_Pc [.ref h, .int b] (cB D cI cO cb eA mi st A ws)) (va_Qi (fun (ri : Int32) (_ : Unit) => kIx b 8 = 0 ∧ ri = nI (sm (kLost F L h b.toNatClampNeg) (L (F 2 h)).length)) (fun _ U9 => va_P D vwCl ws U9.heap) A) (XK D ws A (kIx b 8)) 1 6 A := by
  refine vx_ofW (cc := cX8_lost) (maxL := 5) (ret := (some .int)) (by decide) rfl ?_
  intro p e s m args below meth c s₁ B hml htab hv
  obtain ⟨rfl, hP, hK, hG, hA⟩ := hv
  have hx := B.exec
  have hb := B.bytes
  have hr := B.returns
  have hts := atoms_spec (ws := wsX8_lost) B.pre
  have hown : s.vm.findClass RX8 = some m.cls := findClass_of_methodNamed B.named
  have hlocks := B.notSynchronized
  have hin_X0 : ∀ w ∈ wsX00, w ∈ wsX8_lost := fun w h => List.mem_cons_of_mem _ (List.mem_append_left _ (List.mem_append_left _ (List.mem_append_left _ (List.mem_append_left _ (List.mem_append_right _ h)))))
  have hin_X1 : ∀ w ∈ wsX10, w ∈ wsX8_lost := fun w h => List.mem_cons_of_mem _ (List.mem_append_left _ (List.mem_append_left _ (List.mem_append_left _ (List.mem_append_right _ h))))
  have hin_X5 : ∀ w ∈ wsX50, w ∈ wsX8_lost := fun w h => List.mem_cons_of_mem _ (List.mem_append_left _ (List.mem_append_left _ (List.mem_append_right _ h)))
  have hin_X8 : ∀ w ∈ wsX80, w ∈ wsX8_lost := fun w h => List.mem_cons_of_mem _ (List.mem_append_left _ (List.mem_append_left _ (List.mem_append_left _ (List.mem_append_left _ (List.mem_append_left _ (List.mem_append_right _ h))))))
  have l_20 := (hts (.fieldLink RX8 20 "TenderHall" "awards" "Ljava/util/ArrayList;") (List.mem_of_getElem? (i := 1) rfl))
  have l_248 := (hts (.fieldLink RX8 248 "TenderHall$Award" "lapsed" "Z") (List.mem_of_getElem? (i := 3) rfl))
  have l_152 := (hts (.fieldLink RX8 152 "TenderHall$Award" "bid" "LTenderHall$Bid;") (List.mem_of_getElem? (i := 4) rfl))
  have l_156 := (hts (.fieldLink RX8 156 "TenderHall$Bid" "bidder" "I") (List.mem_of_getElem? (i := 5) rfl))
  have l_251 := (hts (.fieldLink RX8 251 "TenderHall$Award" "lot" "LTenderHall$Lot;") (List.mem_of_getElem? (i := 6) rfl))
  have l_245 := (hts (.fieldLink RX8 245 "TenderHall$Lot" "deposit" "I") (List.mem_of_getElem? (i := 7) rfl))
  have hS : va_S A s.heap s.heap [] := va_S.rf
  have hD0 := hD
  have hl := lv_entry ([.ref h, .int b]) (n := 5) (Nat.le_of_ble_eq_true rfl)
  rw [lg_entry_eq]
  generalize (lg_sl ([.ref h, .int b]) ++ List.replicate (5 - (lg_sl ([.ref h, .int b])).length) Slot.unset).toArray = ls at hl ⊢
  have hl : lv_has ls 5 [(0, .ref h), (1, .int b)] := hl
  refine lv_iload_n hx hb dX8_lost_0 rfl (lv_at hl 1 rfl) ?_
  refine vx_callv (vx_runS (As := [.int b]) (rest := []) ⟨hx, hb, hml, hown, hts⟩ (cx_checkBidder l hst D cI cO cb eA mi st ws hD hC hW hs b) (va_cwS 1 hts gX8_lost_X8_checkBidder rfl rfl rfl kd_X8_checkBidder ⟨Nat.le_of_ble_eq_true rfl, Nat.le_of_ble_eq_true rfl⟩) ⟨cB_blind, cB_pre hK hG hA hS hP _⟩ rfl rfl hl.1 rfl (lv_room (Nat.le_of_ble_eq_true rfl)) dX8_lost_1 ⟨Nat.le_of_ble_eq_true rfl, Nat.le_of_ble_eq_true rfl⟩) hS (fun _ _ h => h) (fun _ h => h) (fun _ _ h => h) (fun E9 ce9 q9 u U8 H1 locs1 ht hvm hu hB hz1 hk1 hS1 hc1 hc2 hc3 => ?_) (fun u U8 H1 locs1 ht hvm hu hB hz1 hk1 hS1 => ?_)
  · obtain ⟨hB1, hB2, hB3⟩ := hB
    rw [ht] at hB3
    have hkx : kIx b 8 = (kIx b 8) := by rfl
    exact vx_out (fun z9 h9 => (htab z9 h9).elim) hlocks hc1 hc2 hc3 (fun t9 g1 g2 => ⟨(), trivial, ⟨by rw [hkx]; exact hB1, by rw [hkx]; exact hB2, by rw [g1]; exact hB3⟩, hS1.F g1⟩) hS1.2.2 (Nat.le_of_ble_eq_true rfl) (Nat.le_of_ble_eq_true rfl)
  · have hk0_1 : (kIx b 8) = 0 := hu
    have hB2 := hB
    replace hB2 : va_P D vwCl ws U8.heap := hB2
    rw [ht] at hB2
    clear hS
    have hS := hS1
    replace hP := hB2
    generalize H1 = H at hP hS ⊢
    obtain ⟨j, hj, rfl⟩ := kIx_0 (by decide) hk0_1
    have hk3 : kd (F 2 h) = 22 := hW.ref hk_h rfl (by decide)
    have hl3 : (L (F 2 h)).length ≤ 60 := hW.len hk3 (by decide)
    refine lv_iconst (v := nI 0) hx hb dX8_lost_4 (by decide) ?_
    refine lv_istore_n (lv' := [(2, .int (nI 0)), (0, .ref h), (1, .int (nI j))]) hx hb dX8_lost_5 rfl hl (by decide) rfl (fun ls hl => ?_)
    refine lv_iconst (v := nI 0) hx hb dX8_lost_6 (by decide) ?_
    refine lv_istore_n (lv' := [(3, .int (nI 0)), (2, .int (nI 0)), (0, .ref h), (1, .int (nI j))]) hx hb dX8_lost_7 rfl hl (by decide) rfl (fun ls hl => ?_)
    refine w_loopJ (n := (L (F 2 h)).length) (nL := 5) (fun i => True) (fun i => [(0, .ref h), (1, .int (nI j)), (3, .int (nI i)), (2, .int (nI (sm (kLost F L h j) i)))]) (fun i hb_3 hJ_4 ih_2 ls hl => ?_) 0 (Nat.zero_le _) trivial ls (lv_sub hl [2, 3, 0, 1] rfl)
    refine lv_iload_n hx hb dX8_lost_8 rfl (lv_at hl 2 rfl) ?_
    refine lv_aload_n hx hb dX8_lost_9 rfl (lv_at hl 0 rfl) ?_
    have hm_5 : (h, .inr (9, [.ref (F 0 h), .ref (F 1 h), .ref (F 2 h), .ref (F 3 h), .ref (F 4 h), .int (nI (F 5 h))])) ∈ ws := hC.at hk_h (by decide) (by decide)
    refine c_get (C := RX8) (T := TX8) (N := 6) hx hb hts hin_X8 hown hK hP hm_5 rfl 2 (by decide) l_20 (fun _ h9 => h9) rfl dX8_lost_10 ?_
    have hk_6 : kd (F 2 h) = 22 := hW.ref hk_h rfl (by decide)
    have hl_7 : (L (F 2 h)).length ≤ 60 := hW.len hk_6 (by decide)
    obtain ⟨fs_hm_8, hm_8⟩ := hC.obj hk_6 (by decide)
    refine vp_callSi (W.runV (As := []) (rest := [.int (nI i)]) ⟨hx, hb, hml, hown, hts⟩ ((cl_size l D cI cO cb eA mi st ws hD (F 2 h) (L (F 2 h)) (hC.lst hk_6 (by decide)))) (cwV 0 hts gX8_lost_Jx4a65c_size_8abf5 rfl rfl rfl kd_Jx4a65c_size_8abf5 ⟨Nat.le_of_ble_eq_true rfl, Nat.le_of_ble_eq_true rfl⟩) ⟨cB_blind, c_recv hK hP rfl hm_8, cB_pre hK hG hA hS hP _⟩ rfl rfl hl.1 rfl (lv_room (Nat.le_of_ble_eq_true rfl)) dX8_lost_13 ⟨Nat.le_of_ble_eq_true rfl, Nat.le_of_ble_eq_true rfl⟩) (fun r_9 hr_9 => ?_)
    subst hr_9
    refine n_icmp_ge (tgt := 69) hx hb dX8_lost_16 (by decide) (by omega) (by omega) (fun c_10 => ?_) (fun c_10 => ?_)
    · refine lv_iload_n hx hb dX8_lost_69 rfl (lv_at hl 3 rfl) ?_
      refine W.widen (k := 1) (n := 6) (by omega) (by omega) ?_
      refine vx_ret ?_
      have hk9 : kIx (nI j) 8 = 0 := by exact hk0_1
      exact W.iret (v := nI (sm (kLost F L h j) i)) hx hb hr (fun U9 ht hW9 => ⟨⟨_, (), rfl, ⟨hk9, (show nI (sm (kLost F L h j) i) = nI (sm (kLost F L h (nI j).toNatClampNeg) (L (F 2 h)).length) from by rw [nI_clamp (by omega), show (L (F 2 h)).length = i by omega])⟩, by show va_P D vwCl ws U9.heap; rw [ht]; exact hP⟩, hS.F ht⟩) hS.2.2 dX8_lost_70
    · refine lv_aload_n hx hb dX8_lost_19 rfl (lv_at hl 0 rfl) ?_
      refine c_get (C := RX8) (T := TX8) (N := 6) hx hb hts hin_X8 hown hK hP hm_5 rfl 2 (by decide) l_20 (fun _ h9 => h9) rfl dX8_lost_20 ?_
      refine lv_iload_n hx hb dX8_lost_23 rfl (lv_at hl 2 rfl) ?_
      obtain ⟨fs_hm_11, hm_11⟩ := hC.obj hk_6 (by decide)
      refine va_csr (W.runV (As := [.int (nI i)]) (rest := []) ⟨hx, hb, hml, hown, hts⟩ ((cl_get l D cI cO cb eA mi st ws hD (F 2 h) (L (F 2 h)) (hC.lst hk_6 (by decide)) i (gt (L (F 2 h)) i) (gt_some (by omega)))) (cwV 1 hts gX8_lost_Jx4a65c_get_915e3 rfl rfl rfl kd_Jx4a65c_get_915e3 ⟨Nat.le_of_ble_eq_true rfl, Nat.le_of_ble_eq_true rfl⟩) ⟨cB_blind, c_recv hK hP rfl hm_11, cB_pre hK hG hA hS hP _⟩ rfl rfl hl.1 rfl (lv_room (Nat.le_of_ble_eq_true rfl)) dX8_lost_24 ⟨Nat.le_of_ble_eq_true rfl, Nat.le_of_ble_eq_true rfl⟩) (fun r_12 hr_12 => ?_)
      subst hr_12
      have hk_13 : kd (gt (L (F 2 h)) i) = 2 := hW.el hk_6 (by omega)
      have hm_14 : (gt (L (F 2 h)) i, .inr (2, [.int (nI (F 0 (gt (L (F 2 h)) i))), .ref (F 1 (gt (L (F 2 h)) i)), .ref (F 2 (gt (L (F 2 h)) i)), .int (nI (F 3 (gt (L (F 2 h)) i))), .int (nI (F 4 (gt (L (F 2 h)) i))), .int (nI (F 5 (gt (L (F 2 h)) i))), .int (nI (F 6 (gt (L (F 2 h)) i)))])) ∈ ws := hC.at hk_13 (by decide) (by decide)
      refine va_castE hx hb hown (hts (.classLink RX8 144 "TenderHall$Award") (List.mem_of_getElem? (i := 2) rfl)) (c_recv hK hP (ci := 2) rfl hm_14) dX8_lost_27 ?_
      refine lv_astore (lv' := [(4, .ref (gt (L (F 2 h)) i)), (0, .ref h), (1, .int (nI j)), (3, .int (nI i)), (2, .int (nI (sm (kLost F L h j) i)))]) hx hb dX8_lost_30 hl (by decide) rfl (fun ls hl => ?_)
      refine lv_aload hx hb dX8_lost_32 (lv_at hl 0 rfl) ?_
      refine c_get (C := RX0) (T := TX0) (N := 7) hx hb hts hin_X0 hown hK hP hm_14 rfl 6 (by decide) l_248 (fun _ h9 => h9) rfl dX8_lost_34 ?_
      have hn_15 : F 6 (gt (L (F 2 h)) i) < 2 := hW.num hk_13 rfl (by decide)
      refine n_if_eq (tgt := 63) hx hb dX8_lost_37 (by decide) (by omega) (fun c_16 => ?_) (fun c_16 => ?_)
      · refine n_iinc (k := 3) (lv' := [(3, .int (nI (i + 1))), (4, .ref (gt (L (F 2 h)) i)), (0, .ref h), (1, .int (nI j)), (2, .int (nI (sm (kLost F L h j) i)))]) hx hb dX8_lost_63 hl rfl (by decide) rfl (fun ls hl => ?_)
        refine lv_goto (tgt := 8) hx hb dX8_lost_66 (by decide) ?_
        have e_17 : sm (kLost F L h j) (i + 1) = sm (kLost F L h j) i := by first | (exfalso; omega) | (rw [sm]; show _ + (if _ then _ else _) = _; rw [if_pos ⟨by omega, by omega⟩]; done) | (rw [sm]; show _ + (if _ then _ else _) = _; rw [if_neg (by omega)]; try rfl)
        refine ih_2 (by omega) trivial ls ?_
        show lv_has ls 5 [(0, .ref h), (1, .int (nI j)), (3, .int (nI (i + 1))), (2, .int (nI (sm (kLost F L h j) (i + 1))))]
        rw [e_17]
        exact lv_sub hl [2, 3, 0, 4] rfl
      · refine lv_aload hx hb dX8_lost_40 (lv_at hl 0 rfl) ?_
        refine c_get (C := RX0) (T := TX0) (N := 7) hx hb hts hin_X0 hown hK hP hm_14 rfl 2 (by decide) l_152 (fun _ h9 => h9) rfl dX8_lost_42 ?_
        have hk_18 : kd (F 2 (gt (L (F 2 h)) i)) = 3 := hW.ref hk_13 rfl (by decide)
        have hm_19 : (F 2 (gt (L (F 2 h)) i), .inr (3, [.int (nI (F 0 (F 2 (gt (L (F 2 h)) i)))), .int (nI (F 1 (F 2 (gt (L (F 2 h)) i)))), .int (nI (F 2 (F 2 (gt (L (F 2 h)) i)))), .int (nI (F 3 (F 2 (gt (L (F 2 h)) i)))), .ref (st (F 4 (F 2 (gt (L (F 2 h)) i)))), .ref (st (F 5 (F 2 (gt (L (F 2 h)) i))))])) ∈ ws := hC.at hk_18 (by decide) (by decide)
        refine c_get (C := RX1) (T := TX1) (N := 6) hx hb hts hin_X1 hown hK hP hm_19 rfl 0 (by decide) l_156 (fun _ h9 => h9) rfl dX8_lost_45 ?_
        have hn_20 : F 0 (F 2 (gt (L (F 2 h)) i)) < 8 := hW.num hk_18 rfl (by decide)
        refine lv_iload_n hx hb dX8_lost_48 rfl (lv_at hl 2 rfl) ?_
        refine n_icmp_ne (tgt := 63) hx hb dX8_lost_49 (by decide) (by omega) (by omega) (fun c_21 => ?_) (fun c_21 => ?_)
        · refine n_iinc (k := 3) (lv' := [(3, .int (nI (i + 1))), (4, .ref (gt (L (F 2 h)) i)), (0, .ref h), (1, .int (nI j)), (2, .int (nI (sm (kLost F L h j) i)))]) hx hb dX8_lost_63 hl rfl (by decide) rfl (fun ls hl => ?_)
          refine lv_goto (tgt := 8) hx hb dX8_lost_66 (by decide) ?_
          have e_22 : sm (kLost F L h j) (i + 1) = sm (kLost F L h j) i := by first | (exfalso; omega) | (rw [sm]; show _ + (if _ then _ else _) = _; rw [if_pos ⟨by omega, by omega⟩]; done) | (rw [sm]; show _ + (if _ then _ else _) = _; rw [if_neg (by omega)]; try rfl)
          refine ih_2 (by omega) trivial ls ?_
          show lv_has ls 5 [(0, .ref h), (1, .int (nI j)), (3, .int (nI (i + 1))), (2, .int (nI (sm (kLost F L h j) (i + 1))))]
          rw [e_22]
          exact lv_sub hl [2, 3, 0, 4] rfl
        · refine lv_iload_n hx hb dX8_lost_52 rfl (lv_at hl 4 rfl) ?_
          refine lv_aload hx hb dX8_lost_53 (lv_at hl 0 rfl) ?_
          refine c_get (C := RX0) (T := TX0) (N := 7) hx hb hts hin_X0 hown hK hP hm_14 rfl 1 (by decide) l_251 (fun _ h9 => h9) rfl dX8_lost_55 ?_
          have hk_23 : kd (F 1 (gt (L (F 2 h)) i)) = 7 := hW.ref hk_13 rfl (by decide)
          have hm_24 : (F 1 (gt (L (F 2 h)) i), .inr (7, [.ref (F 0 (F 1 (gt (L (F 2 h)) i))), .int (nI (F 1 (F 1 (gt (L (F 2 h)) i)))), .int (nI (F 2 (F 1 (gt (L (F 2 h)) i)))), .ref (F 3 (F 1 (gt (L (F 2 h)) i))), .ref (F 4 (F 1 (gt (L (F 2 h)) i)))])) ∈ ws := hC.at hk_23 (by decide) (by decide)
          refine c_get (C := RX5) (T := TX5) (N := 5) hx hb hts hin_X5 hown hK hP hm_24 rfl 2 (by decide) l_245 (fun _ h9 => h9) rfl dX8_lost_58 ?_
          have hn_25 : F 2 (F 1 (gt (L (F 2 h)) i)) < 10001 := hW.num hk_23 rfl (by decide)
          refine n_iadd hx hb dX8_lost_61 (z := (sm (kLost F L h j) i) + (F 2 (F 1 (gt (L (F 2 h)) i)))) rfl ?_
          refine lv_istore_n (lv' := [(2, .int (nI ((sm (kLost F L h j) i) + (F 2 (F 1 (gt (L (F 2 h)) i)))))), (4, .ref (gt (L (F 2 h)) i)), (0, .ref h), (1, .int (nI j)), (3, .int (nI i))]) hx hb dX8_lost_62 rfl hl (by decide) rfl (fun ls hl => ?_)
          refine n_iinc (k := 4) (lv' := [(3, .int (nI (i + 1))), (2, .int (nI ((sm (kLost F L h j) i) + (F 2 (F 1 (gt (L (F 2 h)) i)))))), (4, .ref (gt (L (F 2 h)) i)), (0, .ref h), (1, .int (nI j))]) hx hb dX8_lost_63 hl rfl (by decide) rfl (fun ls hl => ?_)
          refine lv_goto (tgt := 8) hx hb dX8_lost_66 (by decide) ?_
          have e_26 : sm (kLost F L h j) (i + 1) = (sm (kLost F L h j) i) + (F 2 (F 1 (gt (L (F 2 h)) i))) := by first | (exfalso; omega) | (rw [sm]; show _ + (if _ then _ else _) = _; rw [if_pos ⟨by omega, by omega⟩]; done) | (rw [sm]; show _ + (if _ then _ else _) = _; rw [if_neg (by omega)]; try rfl)
          refine ih_2 (by omega) trivial ls ?_
          show lv_has ls 5 [(0, .ref h), (1, .int (nI j)), (3, .int (nI (i + 1))), (2, .int (nI (sm (kLost F L h j) (i + 1))))]
          rw [e_26]
          exact lv_sub hl [3, 4, 0, 1] rfl
