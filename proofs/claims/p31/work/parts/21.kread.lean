/-! the class: what its questions answer, and their rows -/
theorem fr_lt {P : Nat → Prop} [DecidablePred P] {n i : Nat} (h : fr P n = some i) : i < n := by
  unfold fr at h
  exact List.mem_range.mp (List.mem_of_find?_eq_some h)
theorem fr_no {P : Nat → Prop} [DecidablePred P] {n i : Nat} (h : nall P i) (hn : n ≤ i) : fr P n = none := fr_none (fun j hj => h j (by omega))
theorem frm_kd {kd : Nat → Nat} {F : Nat → Nat → Nat} {L : Nat → List Nat} (hW : WF kd F L) {P : Nat → Prop} [DecidablePred P] {a k o : Nat} (hk : kd a = k + 20) (h : (fr P (L a).length).map (gt (L a)) = some o) : kd o = k := by
  rcases hf : fr P (L a).length with _ | i
  · rw [hf] at h; cases h
  · rw [hf] at h; cases h
    exact hW.el hk (fr_lt hf)
theorem d_eq0 {a b : Nat} (ha : a < 2 ^ 30) (hb : b < 2 ^ 30) : nI a - nI b = 0 ↔ a = b := by
  rw [← Int32.toInt_inj, fb_subI9 (by rw [nI_toInt (by omega), nI_toInt (by omega)]; omega) (by rw [nI_toInt (by omega), nI_toInt (by omega)]; omega), nI_toInt (by omega), nI_toInt (by omega)]
  show (a : Int) - b = 0 ↔ _
  omega
theorem d_le0 {a b : Nat} (ha : a < 2 ^ 30) (hb : b < 2 ^ 30) : nI a - nI b ≤ 0 ↔ a ≤ b := by
  rw [Int32.le_iff_toInt_le, fb_subI9 (by rw [nI_toInt (by omega), nI_toInt (by omega)]; omega) (by rw [nI_toInt (by omega), nI_toInt (by omega)]; omega), nI_toInt (by omega), nI_toInt (by omega)]
  show (a : Int) - b ≤ 0 ↔ _
  omega
theorem out_no {a lo hi : Nat} (h : lo ≤ a) (h2 : a ≤ hi) (h3 : hi < 2 ^ 31) : decide (nI a < nI lo ∨ nI hi < nI a) = false := by
  rw [decide_eq_false_iff_not]
  rintro (q | q)
  · exact nI_nlt h (by omega) q
  · exact nI_nlt h2 h3 q
section KF
variable (F : Nat → Nat → Nat) (L : Nat → List Nat)
/-- the bid of a bidder in a lot -/
def kBid (a b : Nat) : Option Nat := (fr (fun j => F 0 (gt (L (F 3 a)) j) = b) (L (F 3 a)).length).map (gt (L (F 3 a)))
/-- the least price of the bids that are in, among the first -/
def kLeast (a x : Nat) : Nat → Nat
  | 0 => F 1 x
  | i + 1 => if F 5 (gt (L (F 3 a)) i) = 1 ∧ F 1 (gt (L (F 3 a)) i) < kLeast a x i then F 1 (gt (L (F 3 a)) i) else kLeast a x i
def kScore (a x : Nat) : Nat := ((kLeast F L a x (L (F 3 a)).length * 1000) / F 1 x) * F 3 (F 0 a) + (10 * F 3 x) * (100 - F 3 (F 0 a))
abbrev kBeats (a j x i : Nat) : Prop := F 5 (gt (L (F 3 a)) i) = 1 ∧ (kScore F L a x < kScore F L a (gt (L (F 3 a)) i) ∨ kScore F L a (gt (L (F 3 a)) i) = kScore F L a x ∧ (F 1 (gt (L (F 3 a)) i) < F 1 x ∨ F 1 (gt (L (F 3 a)) i) = F 1 x ∧ i < j))
def kBetter (a j x : Nat) : Nat := cn (fun k9 => kBeats F L a j x k9) (L (F 3 a)).length
def kPlace (a : Nat) (z : Int32) : Option Nat := (fr (fun j => F 5 (gt (L (F 3 a)) j) = 1 ∧ nI (kBetter F L a j (gt (L (F 3 a)) j)) = z) (L (F 3 a)).length).map (gt (L (F 3 a)))
def kOpen (h w : Nat) : Nat := cn (fun k9 => F 1 (gt (L (F 3 h)) k9) = w ∧ F 3 (gt (L (F 3 h)) k9) = 0) (L (F 3 h)).length
def kStand (h a : Nat) : Option Nat := (fr (fun j => F 1 (gt (L (F 2 h)) j) = a ∧ F 4 (gt (L (F 2 h)) j) = 0) (L (F 2 h)).length).map (gt (L (F 2 h)))
abbrev kFin (h w : Nat) : Prop := F 4 w = 0 ∧ F 3 w ≤ F 5 h ∧ kOpen F L h w = 0
abbrev kComp (h b w : Nat) : Prop := ∃ j, j < (L (F 3 h)).length ∧ F 1 (gt (L (F 3 h)) j) = w ∧ F 0 (gt (L (F 3 h)) j) = b
end KF
section KFT
variable {kd : Nat → Nat} {F : Nat → Nat → Nat} {L : Nat → List Nat}
theorem kBid_kd (hW : WF kd F L) {a b o : Nat} (hk : kd a = 7) (h : kBid F L a b = some o) : kd o = 3 := frm_kd hW (hW.ref hk rfl (by decide)) h
theorem kPlace_kd (hW : WF kd F L) {a o : Nat} {z : Int32} (hk : kd a = 7) (h : kPlace F L a z = some o) : kd o = 3 := frm_kd hW (hW.ref hk rfl (by decide)) h
theorem kStand_kd (hW : WF kd F L) {h a o : Nat} (hk : kd h = 9) (q : kStand F L h a = some o) : kd o = 2 := frm_kd hW (hW.ref hk rfl (by decide)) q
theorem kLeast_le (a x i : Nat) : kLeast F L a x i ≤ F 1 x := by
  induction i with
  | zero => exact Nat.le_refl _
  | succ i ih => unfold kLeast; split <;> omega
theorem kScore_lt (hW : WF kd F L) {a x : Nat} (hk : kd a = 7) (hx : kd x = 3) : kScore F L a x < 300000 := by
  have h1 := kLeast_le (F := F) (L := L) a x (L (F 3 a)).length
  have h2 : F 3 (F 0 a) < 101 := hW.num (hW.ref hk rfl (by decide)) rfl (by decide)
  have h3 : F 3 x < 101 := hW.num hx rfl (by decide)
  have h4 : kLeast F L a x (L (F 3 a)).length * 1000 / F 1 x ≤ 1000 := Nat.div_le_of_le_mul (Nat.mul_le_mul_right 1000 h1)
  have h5 := Nat.mul_le_mul h4 (Nat.le_of_lt_succ h2)
  have h6 : 10 * F 3 x * (100 - F 3 (F 0 a)) ≤ 1000 * 100 := Nat.mul_le_mul (by omega) (by omega)
  unfold kScore
  omega
theorem kOpen_le (hW : WF kd F L) {h w : Nat} (hk : kd h = 9) : kOpen F L h w ≤ 60 := Nat.le_trans (cn_le _ _) (hW.len (hW.ref hk rfl (by decide) : kd (F 3 h) = 25) (by decide))
theorem kBetter_le (hW : WF kd F L) {a j x : Nat} (hk : kd a = 7) : kBetter F L a j x ≤ 60 := Nat.le_trans (cn_le _ _) (hW.len (hW.ref hk rfl (by decide) : kd (F 3 a) = 23) (by decide))
end KFT
set_option maxHeartbeats 4000000 in
set_option maxRecDepth 100000 in
theorem ck_bidOf (l : Launch) (D : va_G) (cI cO cb : ClassId) (eA mi : Nat) (st : Nat → Nat) {A : Nat → Prop} (ws : va_W) (hD : va_D A ws) {own kd : Nat → Nat} {F : Nat → Nat → Nat} {L : Nat → List Nat} (hC : CW cI cO eA st own kd F L ws) (hW : WF kd F L) (hs : sInj st)  (a : Nat) (hk_a : kd a = 7) (b : Nat) (hb8 : b < 2 ^ 31) : Met l yX5_bidOf wsX5_bidOf ({ frames := 3, cells := 0, slots := 0, locals := 64 }) (va_Pc [.ref a, .int (nI b)] (cB D cI cO cb eA mi st A ws)) (va_Sq (fun ri => ri = kBid F L a b)) 0 0 (fun _ => False) := by
  refine Met.ofW (cc := cX5_bidOf) (maxL := 4) (ret := (some (.object "TenderHall$Bid"))) (by decide) rfl ?_
  intro p e s m args below meth c s₁ B hml hv
  obtain ⟨rfl, hP, hK, hG, hA⟩ := hv
  have hx := B.exec
  have hb := B.bytes
  have hr := B.returns
  have hts := atoms_spec (ws := wsX5_bidOf) B.pre
  have hown : s.vm.findClass RX5 = some m.cls := findClass_of_methodNamed B.named
  have hlocks := B.notSynchronized
  have hin_X1 : ∀ w ∈ wsX10, w ∈ wsX5_bidOf := fun w h => List.mem_cons_of_mem _ (List.mem_append_left _ (List.mem_append_right _ h))
  have hin_X5 : ∀ w ∈ wsX50, w ∈ wsX5_bidOf := fun w h => List.mem_cons_of_mem _ (List.mem_append_left _ (List.mem_append_left _ (List.mem_append_right _ h)))
  have l_12 := (hts (.fieldLink RX5 12 "TenderHall$Lot" "bids" "Ljava/util/ArrayList;") (List.mem_of_getElem? (i := 1) rfl))
  have l_42 := (hts (.fieldLink RX5 42 "TenderHall$Bid" "bidder" "I") (List.mem_of_getElem? (i := 3) rfl))
  have hS : va_S A s.heap s.heap [] := va_S.rf
  have hD0 := hD
  have hl := lv_entry ([.ref a, .int (nI b)]) (n := 4) (Nat.le_of_ble_eq_true rfl)
  rw [lg_entry_eq]
  generalize (lg_sl ([.ref a, .int (nI b)]) ++ List.replicate (4 - (lg_sl ([.ref a, .int (nI b)])).length) Slot.unset).toArray = ls at hl ⊢
  have hl : lv_has ls 4 [(0, .ref a), (1, .int (nI b))] := hl
  have hk3 : kd (F 3 a) = 23 := hW.ref hk_a rfl (by decide)
  have hl3 : (L (F 3 a)).length ≤ 60 := hW.len hk3 (by decide)
  refine lv_iconst (v := nI 0) hx hb dX5_bidOf_0 (by decide) ?_
  refine lv_istore_n (lv' := [(2, .int (nI 0)), (0, .ref a), (1, .int (nI b))]) hx hb dX5_bidOf_1 rfl hl (by decide) rfl (fun ls hl => ?_)
  refine w_loopJ (n := (L (F 3 a)).length) (nL := 4) (fun i => nall (fun j => F 0 (gt (L (F 3 a)) j) = b) i) (fun i => [(0, .ref a), (1, .int (nI b)), (2, .int (nI i))]) (fun i hb_2 hJ_3 ih_1 ls hl => ?_) 0 (Nat.zero_le _) nall.zero ls (lv_sub hl [1, 2, 0] rfl)
  refine lv_iload_n hx hb dX5_bidOf_2 rfl (lv_at hl 2 rfl) ?_
  refine lv_aload_n hx hb dX5_bidOf_3 rfl (lv_at hl 0 rfl) ?_
  have hm_4 : (a, .inr (7, [.ref (F 0 a), .int (nI (F 1 a)), .int (nI (F 2 a)), .ref (F 3 a), .ref (F 4 a)])) ∈ ws := hC.at hk_a (by decide) (by decide)
  refine c_get (C := RX5) (T := TX5) (N := 5) hx hb hts hin_X5 hown hK hP hm_4 rfl 3 (by decide) l_12 (fun _ h9 => h9) rfl dX5_bidOf_4 ?_
  have hk_5 : kd (F 3 a) = 23 := hW.ref (f := 3) hk_a rfl (by decide)
  have hl_6 : (L (F 3 a)).length ≤ 60 := hW.len hk_5 (by decide)
  obtain ⟨fs_hm_7, hm_7⟩ := hC.obj hk_5 (by decide)
  refine vp_callSi (W.runV (As := []) (rest := [.int (nI i)]) ⟨hx, hb, hml, hown, hts⟩ ((cl_size l D cI cO cb eA mi st ws hD (F 3 a) (L (F 3 a)) (hC.lst hk_5 (by decide)))) (cwV 0 hts gX5_bidOf_Jx4a65c_size_8abf5 rfl rfl rfl kd_Jx4a65c_size_8abf5 ⟨Nat.le_of_ble_eq_true rfl, Nat.le_of_ble_eq_true rfl⟩) ⟨cB_blind, c_recv hK hP rfl hm_7, cB_pre hK hG hA hS hP _⟩ rfl rfl hl.1 rfl (lv_room (Nat.le_of_ble_eq_true rfl)) dX5_bidOf_7 ⟨Nat.le_of_ble_eq_true rfl, Nat.le_of_ble_eq_true rfl⟩) (fun r_8 hr_8 => ?_)
  subst hr_8
  refine n_icmp_ge (tgt := 41) hx hb dX5_bidOf_10 (by decide) (by omega) (by omega) (fun c_9 => ?_) (fun c_9 => ?_)
  · refine lv_null hx hb dX5_bidOf_41 ?_
    exact W.aret hx hb hr (Or.inl ⟨_, rfl⟩) (Or.inl rfl) (fun U9 ht hW9 => ⟨none, rfl, (show none = kBid F L a b from by unfold kBid; rw [fr_no hJ_3 c_9]; rfl), ht⟩) (fun _ h => by cases h) dX5_bidOf_42
  · refine lv_aload_n hx hb dX5_bidOf_13 rfl (lv_at hl 0 rfl) ?_
    refine c_get (C := RX5) (T := TX5) (N := 5) hx hb hts hin_X5 hown hK hP hm_4 rfl 3 (by decide) l_12 (fun _ h9 => h9) rfl dX5_bidOf_14 ?_
    refine lv_iload_n hx hb dX5_bidOf_17 rfl (lv_at hl 2 rfl) ?_
    obtain ⟨fs_hm_10, hm_10⟩ := hC.obj hk_5 (by decide)
    refine va_csr (W.runV (As := [.int (nI i)]) (rest := []) ⟨hx, hb, hml, hown, hts⟩ ((cl_get l D cI cO cb eA mi st ws hD (F 3 a) (L (F 3 a)) (hC.lst hk_5 (by decide)) i (gt (L (F 3 a)) i) (gt_some (by omega)))) (cwV 1 hts gX5_bidOf_Jx4a65c_get_915e3 rfl rfl rfl kd_Jx4a65c_get_915e3 ⟨Nat.le_of_ble_eq_true rfl, Nat.le_of_ble_eq_true rfl⟩) ⟨cB_blind, c_recv hK hP rfl hm_10, cB_pre hK hG hA hS hP _⟩ rfl rfl hl.1 rfl (lv_room (Nat.le_of_ble_eq_true rfl)) dX5_bidOf_18 ⟨Nat.le_of_ble_eq_true rfl, Nat.le_of_ble_eq_true rfl⟩) (fun r_11 hr_11 => ?_)
    subst hr_11
    have hk_12 : kd (gt (L (F 3 a)) i) = 3 := hW.el hk_5 (by omega)
    have hm_13 : (gt (L (F 3 a)) i, .inr (3, [.int (nI (F 0 (gt (L (F 3 a)) i))), .int (nI (F 1 (gt (L (F 3 a)) i))), .int (nI (F 2 (gt (L (F 3 a)) i))), .int (nI (F 3 (gt (L (F 3 a)) i))), .ref (st (F 4 (gt (L (F 3 a)) i))), .ref (st (F 5 (gt (L (F 3 a)) i)))])) ∈ ws := hC.at hk_12 (by decide) (by decide)
    refine va_castE hx hb hown (hts (.classLink RX5 40 "TenderHall$Bid") (List.mem_of_getElem? (i := 2) rfl)) (c_recv hK hP (ci := 3) rfl hm_13) dX5_bidOf_21 ?_
    refine lv_astore_n (lv' := [(3, .ref (gt (L (F 3 a)) i)), (0, .ref a), (1, .int (nI b)), (2, .int (nI i))]) hx hb dX5_bidOf_24 rfl hl (by decide) rfl (fun ls hl => ?_)
    refine lv_aload_n hx hb dX5_bidOf_25 rfl (lv_at hl 0 rfl) ?_
    refine c_get (C := RX1) (T := TX1) (N := 6) hx hb hts hin_X1 hown hK hP hm_13 rfl 0 (by decide) l_42 (fun _ h9 => h9) rfl dX5_bidOf_26 ?_
    have hn_14 : F 0 (gt (L (F 3 a)) i) < 8 := hW.num (f := 0) hk_12 rfl (by decide)
    refine lv_iload_n hx hb dX5_bidOf_29 rfl (lv_at hl 2 rfl) ?_
    refine n_icmp_ne (tgt := 35) hx hb dX5_bidOf_30 (by decide) (by omega) (by omega) (fun c_15 => ?_) (fun c_15 => ?_)
    · refine n_iinc (k := 3) (lv' := [(2, .int (nI (i + 1))), (3, .ref (gt (L (F 3 a)) i)), (0, .ref a), (1, .int (nI b))]) hx hb dX5_bidOf_35 hl rfl (by decide) rfl (fun ls hl => ?_)
      refine lv_goto (tgt := 2) hx hb dX5_bidOf_38 (by decide) ?_
      refine ih_1 (by omega) (hJ_3.succ c_15) ls ?_
      show lv_has ls 4 [(0, .ref a), (1, .int (nI b)), (2, .int (nI (i + 1)))]
      exact lv_sub hl [2, 3, 0] rfl
    · refine lv_aload_n hx hb dX5_bidOf_33 rfl (lv_at hl 0 rfl) ?_
      exact W.aret hx hb hr (Or.inl ⟨_, rfl⟩) (Or.inr ⟨_, rfl⟩) (fun U9 ht hW9 => ⟨some (gt (L (F 3 a)) i), rfl, (show some (gt (L (F 3 a)) i) = kBid F L a b from by unfold kBid; rw [fr_some hJ_3 (by omega) c_15]; rfl), ht⟩) (fun _ h => by cases h) dX5_bidOf_34
set_option maxHeartbeats 4000000 in
set_option maxRecDepth 100000 in
theorem ck_scoreOf (l : Launch) (D : va_G) (cI cO cb : ClassId) (eA mi : Nat) (st : Nat → Nat) {A : Nat → Prop} (ws : va_W) (hD : va_D A ws) {own kd : Nat → Nat} {F : Nat → Nat → Nat} {L : Nat → List Nat} (hC : CW cI cO eA st own kd F L ws) (hW : WF kd F L) (hs : sInj st)  (a : Nat) (hk_a : kd a = 7) (x : Nat) (hk_x : kd x = 3) : Met l yX5_scoreOf wsX5_scoreOf ({ frames := 3, cells := 0, slots := 0, locals := 64 }) (va_Pc [.ref a, .ref x] (cB D cI cO cb eA mi st A ws)) (vp_Si (fun ri => ri = nI (kScore F L a x))) 0 0 (fun _ => False) := by
  refine Met.ofW (cc := cX5_scoreOf) (maxL := 5) (ret := (some .int)) (by decide) rfl ?_
  intro p e s m args below meth c s₁ B hml hv
  obtain ⟨rfl, hP, hK, hG, hA⟩ := hv
  have hx := B.exec
  have hb := B.bytes
  have hr := B.returns
  have hts := atoms_spec (ws := wsX5_scoreOf) B.pre
  have hown : s.vm.findClass RX5 = some m.cls := findClass_of_methodNamed B.named
  have hlocks := B.notSynchronized
  have hin_X1 : ∀ w ∈ wsX10, w ∈ wsX5_scoreOf := fun w h => List.mem_cons_of_mem _ (List.mem_append_left _ (List.mem_append_left _ (List.mem_append_left _ (List.mem_append_right _ h))))
  have hin_X5 : ∀ w ∈ wsX50, w ∈ wsX5_scoreOf := fun w h => List.mem_cons_of_mem _ (List.mem_append_left _ (List.mem_append_left _ (List.mem_append_right _ h)))
  have hin_X7 : ∀ w ∈ wsX70, w ∈ wsX5_scoreOf := fun w h => List.mem_cons_of_mem _ (List.mem_append_left _ (List.mem_append_right _ h))
  have l_48 := (hts (.fieldLink RX5 48 "TenderHall$Bid" "price" "I") (List.mem_of_getElem? (i := 1) rfl))
  have l_12 := (hts (.fieldLink RX5 12 "TenderHall$Lot" "bids" "Ljava/util/ArrayList;") (List.mem_of_getElem? (i := 2) rfl))
  have l_21 := (hts (.fieldLink RX5 21 "TenderHall$Lot" "tender" "LTenderHall$Tender;") (List.mem_of_getElem? (i := 6) rfl))
  have l_60 := (hts (.fieldLink RX5 60 "TenderHall$Tender" "weight" "I") (List.mem_of_getElem? (i := 7) rfl))
  have l_65 := (hts (.fieldLink RX5 65 "TenderHall$Bid" "quality" "I") (List.mem_of_getElem? (i := 8) rfl))
  have l_51 := (hts (.fieldLink RX5 51 "TenderHall$Bid" "status" "LTenderHall$Status;") (List.mem_of_getElem? (i := 4) rfl))
  have l_55 := (hts (.fieldLink RX5 55 "TenderHall$Status" "IN" "LTenderHall$Status;") (List.mem_of_getElem? (i := 5) rfl))
  have hS : va_S A s.heap s.heap [] := va_S.rf
  have hD0 := hD
  have hl := lv_entry ([.ref a, .ref x]) (n := 5) (Nat.le_of_ble_eq_true rfl)
  rw [lg_entry_eq]
  generalize (lg_sl ([.ref a, .ref x]) ++ List.replicate (5 - (lg_sl ([.ref a, .ref x])).length) Slot.unset).toArray = ls at hl ⊢
  have hl : lv_has ls 5 [(0, .ref a), (1, .ref x)] := hl
  have hk3 : kd (F 3 a) = 23 := hW.ref hk_a rfl (by decide)
  have hl3 : (L (F 3 a)).length ≤ 60 := hW.len hk3 (by decide)
  have hnx : F 1 x < 100001 := hW.num hk_x rfl (by decide)
  refine lv_aload_n hx hb dX5_scoreOf_0 rfl (lv_at hl 1 rfl) ?_
  have hm_1 : (x, .inr (3, [.int (nI (F 0 x)), .int (nI (F 1 x)), .int (nI (F 2 x)), .int (nI (F 3 x)), .ref (st (F 4 x)), .ref (st (F 5 x))])) ∈ ws := hC.at hk_x (by decide) (by decide)
  refine c_get (C := RX1) (T := TX1) (N := 6) hx hb hts hin_X1 hown hK hP hm_1 rfl 1 (by decide) l_48 (fun _ h9 => h9) rfl dX5_scoreOf_1 ?_
  have hn_2 : F 1 x < 100001 := hW.num (f := 1) hk_x rfl (by decide)
  refine lv_istore_n (lv' := [(2, .int (nI (F 1 x))), (0, .ref a), (1, .ref x)]) hx hb dX5_scoreOf_4 rfl hl (by decide) rfl (fun ls hl => ?_)
  refine lv_iconst (v := nI 0) hx hb dX5_scoreOf_5 (by decide) ?_
  refine lv_istore_n (lv' := [(3, .int (nI 0)), (2, .int (nI (F 1 x))), (0, .ref a), (1, .ref x)]) hx hb dX5_scoreOf_6 rfl hl (by decide) rfl (fun ls hl => ?_)
  refine w_loopJ (n := (L (F 3 a)).length) (nL := 5) (fun i => True) (fun i => [(0, .ref a), (1, .ref x), (3, .int (nI i)), (2, .int (nI (kLeast F L a x i)))]) (fun i hb_4 hJ_5 ih_3 ls hl => ?_) 0 (Nat.zero_le _) trivial ls (lv_sub hl [2, 3, 0, 1] rfl)
  have hle_i := kLeast_le (F := F) (L := L) a x i
  refine lv_iload_n hx hb dX5_scoreOf_7 rfl (lv_at hl 2 rfl) ?_
  refine lv_aload_n hx hb dX5_scoreOf_8 rfl (lv_at hl 0 rfl) ?_
  have hm_6 : (a, .inr (7, [.ref (F 0 a), .int (nI (F 1 a)), .int (nI (F 2 a)), .ref (F 3 a), .ref (F 4 a)])) ∈ ws := hC.at hk_a (by decide) (by decide)
  refine c_get (C := RX5) (T := TX5) (N := 5) hx hb hts hin_X5 hown hK hP hm_6 rfl 3 (by decide) l_12 (fun _ h9 => h9) rfl dX5_scoreOf_9 ?_
  have hk_7 : kd (F 3 a) = 23 := hW.ref (f := 3) hk_a rfl (by decide)
  have hl_8 : (L (F 3 a)).length ≤ 60 := hW.len hk_7 (by decide)
  obtain ⟨fs_hm_9, hm_9⟩ := hC.obj hk_7 (by decide)
  refine vp_callSi (W.runV (As := []) (rest := [.int (nI i)]) ⟨hx, hb, hml, hown, hts⟩ ((cl_size l D cI cO cb eA mi st ws hD (F 3 a) (L (F 3 a)) (hC.lst hk_7 (by decide)))) (cwV 0 hts gX5_scoreOf_Jx4a65c_size_8abf5 rfl rfl rfl kd_Jx4a65c_size_8abf5 ⟨Nat.le_of_ble_eq_true rfl, Nat.le_of_ble_eq_true rfl⟩) ⟨cB_blind, c_recv hK hP rfl hm_9, cB_pre hK hG hA hS hP _⟩ rfl rfl hl.1 rfl (lv_room (Nat.le_of_ble_eq_true rfl)) dX5_scoreOf_12 ⟨Nat.le_of_ble_eq_true rfl, Nat.le_of_ble_eq_true rfl⟩) (fun r_10 hr_10 => ?_)
  subst hr_10
  refine n_icmp_ge (tgt := 63) hx hb dX5_scoreOf_15 (by decide) (by omega) (by omega) (fun c_11 => ?_) (fun c_11 => ?_)
  · refine lv_aload_n hx hb dX5_scoreOf_63 rfl (lv_at hl 1 rfl) ?_
    refine c_get (C := RX1) (T := TX1) (N := 6) hx hb hts hin_X1 hown hK hP hm_1 rfl 1 (by decide) l_48 (fun _ h9 => h9) rfl dX5_scoreOf_64 ?_
    refine n_if_le (tgt := 83) hx hb dX5_scoreOf_67 (by decide) (by omega) (fun c_12 => ?_) (fun c_12 => ?_)
    · refine lv_iconst (v := nI 0) hx hb dX5_scoreOf_83 (by decide) ?_
      refine lv_istore_n (lv' := [(3, .int (nI 0)), (0, .ref a), (1, .ref x), (2, .int (nI (kLeast F L a x i)))]) hx hb dX5_scoreOf_84 rfl hl (by decide) rfl (fun ls hl => ?_)
      refine lv_iload_n hx hb dX5_scoreOf_85 rfl (lv_at hl 0 rfl) ?_
      refine lv_aload_n hx hb dX5_scoreOf_86 rfl (lv_at hl 1 rfl) ?_
      refine c_get (C := RX5) (T := TX5) (N := 5) hx hb hts hin_X5 hown hK hP hm_6 rfl 0 (by decide) l_21 (fun _ h9 => h9) rfl dX5_scoreOf_87 ?_
      have hk_13 : kd (F 0 a) = 8 := hW.ref (f := 0) hk_a rfl (by decide)
      have hm_14 : (F 0 a, .inr (8, [.int (nI (F 0 (F 0 a))), .int (nI (F 1 (F 0 a))), .int (nI (F 2 (F 0 a))), .int (nI (F 3 (F 0 a))), .int (nI (F 4 (F 0 a))), .ref (F 5 (F 0 a))])) ∈ ws := hC.at hk_13 (by decide) (by decide)
      refine c_get (C := RX7) (T := TX7) (N := 6) hx hb hts hin_X7 hown hK hP hm_14 rfl 3 (by decide) l_60 (fun _ h9 => h9) rfl dX5_scoreOf_90 ?_
      have hn_15 : F 3 (F 0 a) < 101 := hW.num (f := 3) hk_13 rfl (by decide)
      refine n_imul hx hb dX5_scoreOf_93 (z := 0 * (F 3 (F 0 a))) rfl ?_
      refine lv_bipush (v := nI 10) hx hb dX5_scoreOf_94 (by decide) ?_
      refine lv_aload_n hx hb dX5_scoreOf_96 rfl (lv_at hl 2 rfl) ?_
      refine c_get (C := RX1) (T := TX1) (N := 6) hx hb hts hin_X1 hown hK hP hm_1 rfl 3 (by decide) l_65 (fun _ h9 => h9) rfl dX5_scoreOf_97 ?_
      have hn_16 : F 3 x < 101 := hW.num (f := 3) hk_x rfl (by decide)
      refine n_imul hx hb dX5_scoreOf_100 (z := 10 * (F 3 x)) rfl ?_
      refine lv_bipush (v := nI 100) hx hb dX5_scoreOf_101 (by decide) ?_
      refine lv_aload_n hx hb dX5_scoreOf_103 rfl (lv_at hl 1 rfl) ?_
      refine c_get (C := RX5) (T := TX5) (N := 5) hx hb hts hin_X5 hown hK hP hm_6 rfl 0 (by decide) l_21 (fun _ h9 => h9) rfl dX5_scoreOf_104 ?_
      refine c_get (C := RX7) (T := TX7) (N := 6) hx hb hts hin_X7 hown hK hP hm_14 rfl 3 (by decide) l_60 (fun _ h9 => h9) rfl dX5_scoreOf_107 ?_
      refine n_isub hx hb dX5_scoreOf_110 (z := 100 - (F 3 (F 0 a))) (by omega) rfl ?_
      refine n_imul hx hb dX5_scoreOf_111 (z := (10 * (F 3 x)) * (100 - (F 3 (F 0 a)))) rfl ?_
      refine n_iadd hx hb dX5_scoreOf_112 (z := (0 * (F 3 (F 0 a))) + ((10 * (F 3 x)) * (100 - (F 3 (F 0 a))))) rfl ?_
      exact W.iret (v := nI ((0 * (F 3 (F 0 a))) + ((10 * (F 3 x)) * (100 - (F 3 (F 0 a)))))) hx hb hr (fun U9 ht hW9 => ⟨_, rfl, congrArg nI (show (0 * (F 3 (F 0 a))) + ((10 * (F 3 x)) * (100 - (F 3 (F 0 a)))) = kScore F L a x from by first | (unfold kScore; rw [show (L (F 3 a)).length = i by omega]; done) | (unfold kScore; rw [show F 1 x = 0 by omega, Nat.div_zero])), ht⟩) (fun _ h => by cases h) dX5_scoreOf_113
    · refine lv_iload_n hx hb dX5_scoreOf_70 rfl (lv_at hl 3 rfl) ?_
      refine lv_sipush (v := nI 1000) hx hb dX5_scoreOf_71 (by decide) ?_
      refine n_imul hx hb dX5_scoreOf_74 (z := (kLeast F L a x i) * 1000) rfl ?_
      refine lv_aload_n hx hb dX5_scoreOf_75 rfl (lv_at hl 1 rfl) ?_
      refine c_get (C := RX1) (T := TX1) (N := 6) hx hb hts hin_X1 hown hK hP hm_1 rfl 1 (by decide) l_48 (fun _ h9 => h9) rfl dX5_scoreOf_76 ?_
      refine n_idiv hx hb dX5_scoreOf_79 (z := ((kLeast F L a x i) * 1000) / (F 1 x)) (by omega) (by omega) (by omega) rfl ?_
      refine lv_goto (tgt := 84) hx hb dX5_scoreOf_80 (by decide) ?_
      refine lv_istore_n (lv' := [(3, .int (nI (((kLeast F L a x i) * 1000) / (F 1 x)))), (0, .ref a), (1, .ref x), (2, .int (nI (kLeast F L a x i)))]) hx hb dX5_scoreOf_84 rfl hl (by decide) rfl (fun ls hl => ?_)
      refine lv_iload_n hx hb dX5_scoreOf_85 rfl (lv_at hl 0 rfl) ?_
      refine lv_aload_n hx hb dX5_scoreOf_86 rfl (lv_at hl 1 rfl) ?_
      refine c_get (C := RX5) (T := TX5) (N := 5) hx hb hts hin_X5 hown hK hP hm_6 rfl 0 (by decide) l_21 (fun _ h9 => h9) rfl dX5_scoreOf_87 ?_
      have hk_17 : kd (F 0 a) = 8 := hW.ref (f := 0) hk_a rfl (by decide)
      have hm_18 : (F 0 a, .inr (8, [.int (nI (F 0 (F 0 a))), .int (nI (F 1 (F 0 a))), .int (nI (F 2 (F 0 a))), .int (nI (F 3 (F 0 a))), .int (nI (F 4 (F 0 a))), .ref (F 5 (F 0 a))])) ∈ ws := hC.at hk_17 (by decide) (by decide)
      refine c_get (C := RX7) (T := TX7) (N := 6) hx hb hts hin_X7 hown hK hP hm_18 rfl 3 (by decide) l_60 (fun _ h9 => h9) rfl dX5_scoreOf_90 ?_
      have hn_19 : F 3 (F 0 a) < 101 := hW.num (f := 3) hk_17 rfl (by decide)
      refine n_imul hx hb dX5_scoreOf_93 (z := (((kLeast F L a x i) * 1000) / (F 1 x)) * (F 3 (F 0 a))) rfl ?_
      refine lv_bipush (v := nI 10) hx hb dX5_scoreOf_94 (by decide) ?_
      refine lv_aload_n hx hb dX5_scoreOf_96 rfl (lv_at hl 2 rfl) ?_
      refine c_get (C := RX1) (T := TX1) (N := 6) hx hb hts hin_X1 hown hK hP hm_1 rfl 3 (by decide) l_65 (fun _ h9 => h9) rfl dX5_scoreOf_97 ?_
      have hn_20 : F 3 x < 101 := hW.num (f := 3) hk_x rfl (by decide)
      refine n_imul hx hb dX5_scoreOf_100 (z := 10 * (F 3 x)) rfl ?_
      refine lv_bipush (v := nI 100) hx hb dX5_scoreOf_101 (by decide) ?_
      refine lv_aload_n hx hb dX5_scoreOf_103 rfl (lv_at hl 1 rfl) ?_
      refine c_get (C := RX5) (T := TX5) (N := 5) hx hb hts hin_X5 hown hK hP hm_6 rfl 0 (by decide) l_21 (fun _ h9 => h9) rfl dX5_scoreOf_104 ?_
      refine c_get (C := RX7) (T := TX7) (N := 6) hx hb hts hin_X7 hown hK hP hm_18 rfl 3 (by decide) l_60 (fun _ h9 => h9) rfl dX5_scoreOf_107 ?_
      refine n_isub hx hb dX5_scoreOf_110 (z := 100 - (F 3 (F 0 a))) (by omega) rfl ?_
      refine n_imul hx hb dX5_scoreOf_111 (z := (10 * (F 3 x)) * (100 - (F 3 (F 0 a)))) rfl ?_
      refine n_iadd hx hb dX5_scoreOf_112 (z := ((((kLeast F L a x i) * 1000) / (F 1 x)) * (F 3 (F 0 a))) + ((10 * (F 3 x)) * (100 - (F 3 (F 0 a))))) rfl ?_
      exact W.iret (v := nI (((((kLeast F L a x i) * 1000) / (F 1 x)) * (F 3 (F 0 a))) + ((10 * (F 3 x)) * (100 - (F 3 (F 0 a)))))) hx hb hr (fun U9 ht hW9 => ⟨_, rfl, congrArg nI (show ((((kLeast F L a x i) * 1000) / (F 1 x)) * (F 3 (F 0 a))) + ((10 * (F 3 x)) * (100 - (F 3 (F 0 a)))) = kScore F L a x from by first | (unfold kScore; rw [show (L (F 3 a)).length = i by omega]; done) | (unfold kScore; rw [show F 1 x = 0 by omega, Nat.div_zero])), ht⟩) (fun _ h => by cases h) dX5_scoreOf_113
  · refine lv_aload_n hx hb dX5_scoreOf_18 rfl (lv_at hl 0 rfl) ?_
    refine c_get (C := RX5) (T := TX5) (N := 5) hx hb hts hin_X5 hown hK hP hm_6 rfl 3 (by decide) l_12 (fun _ h9 => h9) rfl dX5_scoreOf_19 ?_
    refine lv_iload_n hx hb dX5_scoreOf_22 rfl (lv_at hl 2 rfl) ?_
    obtain ⟨fs_hm_21, hm_21⟩ := hC.obj hk_7 (by decide)
    refine va_csr (W.runV (As := [.int (nI i)]) (rest := []) ⟨hx, hb, hml, hown, hts⟩ ((cl_get l D cI cO cb eA mi st ws hD (F 3 a) (L (F 3 a)) (hC.lst hk_7 (by decide)) i (gt (L (F 3 a)) i) (gt_some (by omega)))) (cwV 1 hts gX5_scoreOf_Jx4a65c_get_915e3 rfl rfl rfl kd_Jx4a65c_get_915e3 ⟨Nat.le_of_ble_eq_true rfl, Nat.le_of_ble_eq_true rfl⟩) ⟨cB_blind, c_recv hK hP rfl hm_21, cB_pre hK hG hA hS hP _⟩ rfl rfl hl.1 rfl (lv_room (Nat.le_of_ble_eq_true rfl)) dX5_scoreOf_23 ⟨Nat.le_of_ble_eq_true rfl, Nat.le_of_ble_eq_true rfl⟩) (fun r_22 hr_22 => ?_)
    subst hr_22
    have hk_23 : kd (gt (L (F 3 a)) i) = 3 := hW.el hk_7 (by omega)
    have hm_24 : (gt (L (F 3 a)) i, .inr (3, [.int (nI (F 0 (gt (L (F 3 a)) i))), .int (nI (F 1 (gt (L (F 3 a)) i))), .int (nI (F 2 (gt (L (F 3 a)) i))), .int (nI (F 3 (gt (L (F 3 a)) i))), .ref (st (F 4 (gt (L (F 3 a)) i))), .ref (st (F 5 (gt (L (F 3 a)) i)))])) ∈ ws := hC.at hk_23 (by decide) (by decide)
    refine va_castE hx hb hown (hts (.classLink RX5 40 "TenderHall$Bid") (List.mem_of_getElem? (i := 3) rfl)) (c_recv hK hP (ci := 3) rfl hm_24) dX5_scoreOf_26 ?_
    refine lv_astore (lv' := [(4, .ref (gt (L (F 3 a)) i)), (0, .ref a), (1, .ref x), (3, .int (nI i)), (2, .int (nI (kLeast F L a x i)))]) hx hb dX5_scoreOf_29 hl (by decide) rfl (fun ls hl => ?_)
    refine lv_aload hx hb dX5_scoreOf_31 (lv_at hl 0 rfl) ?_
    refine c_get (C := RX1) (T := TX1) (N := 6) hx hb hts hin_X1 hown hK hP hm_24 rfl 5 (by decide) l_51 (fun _ h9 => h9) rfl dX5_scoreOf_33 ?_
    have hn_25 : F 5 (gt (L (F 3 a)) i) < 4 := hW.num (f := 5) hk_23 rfl (by decide)
    refine va_gets hx hb hG.2.2.2.2.2.2.2.2.1 hS hown l_55 (fun _ h9 => h9) dX5_scoreOf_36 ?_
    refine s_acmp_ne (x := (F 5 (gt (L (F 3 a)) i))) (y := 1) (tgt := 57) hx hb hs (by omega) (by omega) dX5_scoreOf_39 (by decide) (fun c_26 => ?_) (fun c_26 => ?_)
    · refine n_iinc (k := 3) (lv' := [(3, .int (nI (i + 1))), (4, .ref (gt (L (F 3 a)) i)), (0, .ref a), (1, .ref x), (2, .int (nI (kLeast F L a x i)))]) hx hb dX5_scoreOf_57 hl rfl (by decide) rfl (fun ls hl => ?_)
      refine lv_goto (tgt := 7) hx hb dX5_scoreOf_60 (by decide) ?_
      have e_27 : kLeast F L a x (i + 1) = kLeast F L a x i := by first | (rw [kLeast, if_pos ⟨by omega, by omega⟩]) | (rw [kLeast, if_neg (by omega)])
      refine ih_3 (by omega) trivial ls ?_
      show lv_has ls 5 [(0, .ref a), (1, .ref x), (3, .int (nI (i + 1))), (2, .int (nI (kLeast F L a x (i + 1))))]
      rw [e_27]
      exact lv_sub hl [2, 3, 0, 4] rfl
    · refine lv_aload hx hb dX5_scoreOf_42 (lv_at hl 0 rfl) ?_
      refine c_get (C := RX1) (T := TX1) (N := 6) hx hb hts hin_X1 hown hK hP hm_24 rfl 1 (by decide) l_48 (fun _ h9 => h9) rfl dX5_scoreOf_44 ?_
      have hn_28 : F 1 (gt (L (F 3 a)) i) < 100001 := hW.num (f := 1) hk_23 rfl (by decide)
      refine lv_iload_n hx hb dX5_scoreOf_47 rfl (lv_at hl 4 rfl) ?_
      refine n_icmp_ge (tgt := 57) hx hb dX5_scoreOf_48 (by decide) (by omega) (by omega) (fun c_29 => ?_) (fun c_29 => ?_)
      · refine n_iinc (k := 3) (lv' := [(3, .int (nI (i + 1))), (4, .ref (gt (L (F 3 a)) i)), (0, .ref a), (1, .ref x), (2, .int (nI (kLeast F L a x i)))]) hx hb dX5_scoreOf_57 hl rfl (by decide) rfl (fun ls hl => ?_)
        refine lv_goto (tgt := 7) hx hb dX5_scoreOf_60 (by decide) ?_
        have e_30 : kLeast F L a x (i + 1) = kLeast F L a x i := by first | (rw [kLeast, if_pos ⟨by omega, by omega⟩]) | (rw [kLeast, if_neg (by omega)])
        refine ih_3 (by omega) trivial ls ?_
        show lv_has ls 5 [(0, .ref a), (1, .ref x), (3, .int (nI (i + 1))), (2, .int (nI (kLeast F L a x (i + 1))))]
        rw [e_30]
        exact lv_sub hl [2, 3, 0, 4] rfl
      · refine lv_aload hx hb dX5_scoreOf_51 (lv_at hl 0 rfl) ?_
        refine c_get (C := RX1) (T := TX1) (N := 6) hx hb hts hin_X1 hown hK hP hm_24 rfl 1 (by decide) l_48 (fun _ h9 => h9) rfl dX5_scoreOf_53 ?_
        refine lv_istore_n (lv' := [(2, .int (nI (F 1 (gt (L (F 3 a)) i)))), (4, .ref (gt (L (F 3 a)) i)), (0, .ref a), (1, .ref x), (3, .int (nI i))]) hx hb dX5_scoreOf_56 rfl hl (by decide) rfl (fun ls hl => ?_)
        refine n_iinc (k := 4) (lv' := [(3, .int (nI (i + 1))), (2, .int (nI (F 1 (gt (L (F 3 a)) i)))), (4, .ref (gt (L (F 3 a)) i)), (0, .ref a), (1, .ref x)]) hx hb dX5_scoreOf_57 hl rfl (by decide) rfl (fun ls hl => ?_)
        refine lv_goto (tgt := 7) hx hb dX5_scoreOf_60 (by decide) ?_
        have e_31 : kLeast F L a x (i + 1) = F 1 (gt (L (F 3 a)) i) := by first | (rw [kLeast, if_pos ⟨by omega, by omega⟩]) | (rw [kLeast, if_neg (by omega)])
        refine ih_3 (by omega) trivial ls ?_
        show lv_has ls 5 [(0, .ref a), (1, .ref x), (3, .int (nI (i + 1))), (2, .int (nI (kLeast F L a x (i + 1))))]
        rw [e_31]
        exact lv_sub hl [3, 4, 0, 1] rfl
set_option maxHeartbeats 4000000 in
set_option maxRecDepth 100000 in
theorem ck_countBetter (l : Launch) (D : va_G) (cI cO cb : ClassId) (eA mi : Nat) (st : Nat → Nat) {A : Nat → Prop} (ws : va_W) (hD : va_D A ws) {own kd : Nat → Nat} {F : Nat → Nat → Nat} {L : Nat → List Nat} (hC : CW cI cO eA st own kd F L ws) (hW : WF kd F L) (hs : sInj st)  (a : Nat) (hk_a : kd a = 7) (j : Nat) (x : Nat) (hk_x : kd x = 3) (hj : j < 2 ^ 30) : Met l yX5_countBetter wsX5_countBetter ({ frames := 4, cells := 0, slots := 0, locals := 88 }) (va_Pc [.ref a, .int (nI j), .ref x] (cB D cI cO cb eA mi st A ws)) (vp_Si (fun ri => ri = nI (kBetter F L a j x))) 0 0 (fun _ => False) := by
  refine Met.ofW (cc := cX5_countBetter) (maxL := 8) (ret := (some .int)) (by decide) rfl ?_
  intro p e s m args below meth c s₁ B hml hv
  obtain ⟨rfl, hP, hK, hG, hA⟩ := hv
  have hx := B.exec
  have hb := B.bytes
  have hr := B.returns
  have hts := atoms_spec (ws := wsX5_countBetter) B.pre
  have hown : s.vm.findClass RX5 = some m.cls := findClass_of_methodNamed B.named
  have hlocks := B.notSynchronized
  have hin_X1 : ∀ w ∈ wsX10, w ∈ wsX5_countBetter := fun w h => List.mem_cons_of_mem _ (List.mem_append_left _ (List.mem_append_left _ (List.mem_append_right _ h)))
  have hin_X5 : ∀ w ∈ wsX50, w ∈ wsX5_countBetter := fun w h => List.mem_cons_of_mem _ (List.mem_append_left _ (List.mem_append_left _ (List.mem_append_left _ (List.mem_append_right _ h))))
  have l_12 := (hts (.fieldLink RX5 12 "TenderHall$Lot" "bids" "Ljava/util/ArrayList;") (List.mem_of_getElem? (i := 1) rfl))
  have l_51 := (hts (.fieldLink RX5 51 "TenderHall$Bid" "status" "LTenderHall$Status;") (List.mem_of_getElem? (i := 3) rfl))
  have l_55 := (hts (.fieldLink RX5 55 "TenderHall$Status" "IN" "LTenderHall$Status;") (List.mem_of_getElem? (i := 4) rfl))
  have l_48 := (hts (.fieldLink RX5 48 "TenderHall$Bid" "price" "I") (List.mem_of_getElem? (i := 5) rfl))
  have hS : va_S A s.heap s.heap [] := va_S.rf
  have hD0 := hD
  have hl := lv_entry ([.ref a, .int (nI j), .ref x]) (n := 8) (Nat.le_of_ble_eq_true rfl)
  rw [lg_entry_eq]
  generalize (lg_sl ([.ref a, .int (nI j), .ref x]) ++ List.replicate (8 - (lg_sl ([.ref a, .int (nI j), .ref x])).length) Slot.unset).toArray = ls at hl ⊢
  have hl : lv_has ls 8 [(0, .ref a), (1, .int (nI j)), (2, .ref x)] := hl
  have hk3 : kd (F 3 a) = 23 := hW.ref hk_a rfl (by decide)
  have hl3 : (L (F 3 a)).length ≤ 60 := hW.len hk3 (by decide)
  have hnx : F 1 x < 100001 := hW.num hk_x rfl (by decide)
  refine lv_aload_n hx hb dX5_countBetter_0 rfl (lv_at hl 0 rfl) ?_
  refine lv_aload_n hx hb dX5_countBetter_1 rfl (lv_at hl 2 rfl) ?_
  have hm_1 : (a, .inr (7, [.ref (F 0 a), .int (nI (F 1 a)), .int (nI (F 2 a)), .ref (F 3 a), .ref (F 4 a)])) ∈ ws := hC.at hk_a (by decide) (by decide)
  refine vp_callSi (W.runV (As := [.ref x]) (rest := []) ⟨hx, hb, hml, hown, hts⟩ (ck_scoreOf l D cI cO cb eA mi st ws hD hC hW hs a hk_a x hk_x) (cwV 1 hts gX5_countBetter_X5_scoreOf rfl rfl rfl kd_X5_scoreOf ⟨Nat.le_of_ble_eq_true rfl, Nat.le_of_ble_eq_true rfl⟩) ⟨cB_blind, c_recv hK hP rfl hm_1, cB_pre hK hG hA hS hP _⟩ rfl rfl hl.1 rfl (lv_room (Nat.le_of_ble_eq_true rfl)) dX5_countBetter_2 ⟨Nat.le_of_ble_eq_true rfl, Nat.le_of_ble_eq_true rfl⟩) (fun r_2 hr_2 => ?_)
  subst hr_2
  have hn_3 : kScore F L a x < 300000 := kScore_lt hW (by assumption) (by assumption)
  refine lv_istore_n (lv' := [(3, .int (nI (kScore F L a x))), (0, .ref a), (1, .int (nI j)), (2, .ref x)]) hx hb dX5_countBetter_5 rfl hl (by decide) rfl (fun ls hl => ?_)
  refine lv_iconst (v := nI 0) hx hb dX5_countBetter_6 (by decide) ?_
  refine lv_istore (lv' := [(4, .int (nI 0)), (3, .int (nI (kScore F L a x))), (0, .ref a), (1, .int (nI j)), (2, .ref x)]) hx hb dX5_countBetter_7 hl (by decide) rfl (fun ls hl => ?_)
  refine lv_iconst (v := nI 0) hx hb dX5_countBetter_9 (by decide) ?_
  refine lv_istore (lv' := [(5, .int (nI 0)), (4, .int (nI 0)), (3, .int (nI (kScore F L a x))), (0, .ref a), (1, .int (nI j)), (2, .ref x)]) hx hb dX5_countBetter_10 hl (by decide) rfl (fun ls hl => ?_)
  refine w_loopJ (n := (L (F 3 a)).length) (nL := 8) (fun i => True) (fun i => [(0, .ref a), (1, .int (nI j)), (2, .ref x), (3, .int (nI (kScore F L a x))), (5, .int (nI i)), (4, .int (nI (cn (fun k9 => kBeats F L a j x k9) i)))]) (fun i hb_5 hJ_6 ih_4 ls hl => ?_) 0 (Nat.zero_le _) trivial ls (lv_sub hl [3, 4, 5, 2, 0, 1] rfl)
  have hle_i := cn_le (fun i => kBeats F L a j x i) i
  refine lv_iload hx hb dX5_countBetter_12 (lv_at hl 4 rfl) ?_
  refine lv_aload_n hx hb dX5_countBetter_14 rfl (lv_at hl 0 rfl) ?_
  refine c_get (C := RX5) (T := TX5) (N := 5) hx hb hts hin_X5 hown hK hP hm_1 rfl 3 (by decide) l_12 (fun _ h9 => h9) rfl dX5_countBetter_15 ?_
  have hk_7 : kd (F 3 a) = 23 := hW.ref (f := 3) hk_a rfl (by decide)
  have hl_8 : (L (F 3 a)).length ≤ 60 := hW.len hk_7 (by decide)
  obtain ⟨fs_hm_9, hm_9⟩ := hC.obj hk_7 (by decide)
  refine vp_callSi (W.runV (As := []) (rest := [.int (nI i)]) ⟨hx, hb, hml, hown, hts⟩ ((cl_size l D cI cO cb eA mi st ws hD (F 3 a) (L (F 3 a)) (hC.lst hk_7 (by decide)))) (cwV 0 hts gX5_countBetter_Jx4a65c_size_8abf5 rfl rfl rfl kd_Jx4a65c_size_8abf5 ⟨Nat.le_of_ble_eq_true rfl, Nat.le_of_ble_eq_true rfl⟩) ⟨cB_blind, c_recv hK hP rfl hm_9, cB_pre hK hG hA hS hP _⟩ rfl rfl hl.1 rfl (lv_room (Nat.le_of_ble_eq_true rfl)) dX5_countBetter_18 ⟨Nat.le_of_ble_eq_true rfl, Nat.le_of_ble_eq_true rfl⟩) (fun r_10 hr_10 => ?_)
  subst hr_10
  refine n_icmp_ge (tgt := 104) hx hb dX5_countBetter_21 (by decide) (by omega) (by omega) (fun c_11 => ?_) (fun c_11 => ?_)
  · refine lv_iload hx hb dX5_countBetter_104 (lv_at hl 5 rfl) ?_
    exact W.iret (v := nI (cn (fun k9 => kBeats F L a j x k9) i)) hx hb hr (fun U9 ht hW9 => ⟨_, rfl, congrArg nI (show cn (fun k9 => kBeats F L a j x k9) i = kBetter F L a j x from by unfold kBetter; rw [show (L (F 3 a)).length = i by omega]), ht⟩) (fun _ h => by cases h) dX5_countBetter_106
  · refine lv_aload_n hx hb dX5_countBetter_24 rfl (lv_at hl 0 rfl) ?_
    refine c_get (C := RX5) (T := TX5) (N := 5) hx hb hts hin_X5 hown hK hP hm_1 rfl 3 (by decide) l_12 (fun _ h9 => h9) rfl dX5_countBetter_25 ?_
    refine lv_iload hx hb dX5_countBetter_28 (lv_at hl 4 rfl) ?_
    obtain ⟨fs_hm_12, hm_12⟩ := hC.obj hk_7 (by decide)
    refine va_csr (W.runV (As := [.int (nI i)]) (rest := []) ⟨hx, hb, hml, hown, hts⟩ ((cl_get l D cI cO cb eA mi st ws hD (F 3 a) (L (F 3 a)) (hC.lst hk_7 (by decide)) i (gt (L (F 3 a)) i) (gt_some (by omega)))) (cwV 1 hts gX5_countBetter_Jx4a65c_get_915e3 rfl rfl rfl kd_Jx4a65c_get_915e3 ⟨Nat.le_of_ble_eq_true rfl, Nat.le_of_ble_eq_true rfl⟩) ⟨cB_blind, c_recv hK hP rfl hm_12, cB_pre hK hG hA hS hP _⟩ rfl rfl hl.1 rfl (lv_room (Nat.le_of_ble_eq_true rfl)) dX5_countBetter_30 ⟨Nat.le_of_ble_eq_true rfl, Nat.le_of_ble_eq_true rfl⟩) (fun r_13 hr_13 => ?_)
    subst hr_13
    have hk_14 : kd (gt (L (F 3 a)) i) = 3 := hW.el hk_7 (by omega)
    have hm_15 : (gt (L (F 3 a)) i, .inr (3, [.int (nI (F 0 (gt (L (F 3 a)) i))), .int (nI (F 1 (gt (L (F 3 a)) i))), .int (nI (F 2 (gt (L (F 3 a)) i))), .int (nI (F 3 (gt (L (F 3 a)) i))), .ref (st (F 4 (gt (L (F 3 a)) i))), .ref (st (F 5 (gt (L (F 3 a)) i)))])) ∈ ws := hC.at hk_14 (by decide) (by decide)
    refine va_castE hx hb hown (hts (.classLink RX5 40 "TenderHall$Bid") (List.mem_of_getElem? (i := 2) rfl)) (c_recv hK hP (ci := 3) rfl hm_15) dX5_countBetter_33 ?_
    refine lv_astore (lv' := [(6, .ref (gt (L (F 3 a)) i)), (0, .ref a), (1, .int (nI j)), (2, .ref x), (3, .int (nI (kScore F L a x))), (5, .int (nI i)), (4, .int (nI (cn (fun k9 => kBeats F L a j x k9) i)))]) hx hb dX5_countBetter_36 hl (by decide) rfl (fun ls hl => ?_)
    refine lv_aload hx hb dX5_countBetter_38 (lv_at hl 0 rfl) ?_
    refine c_get (C := RX1) (T := TX1) (N := 6) hx hb hts hin_X1 hown hK hP hm_15 rfl 5 (by decide) l_51 (fun _ h9 => h9) rfl dX5_countBetter_40 ?_
    have hn_16 : F 5 (gt (L (F 3 a)) i) < 4 := hW.num (f := 5) hk_14 rfl (by decide)
    refine va_gets hx hb hG.2.2.2.2.2.2.2.2.1 hS hown l_55 (fun _ h9 => h9) dX5_countBetter_43 ?_
    refine s_acmp_eq (x := (F 5 (gt (L (F 3 a)) i))) (y := 1) (tgt := 52) hx hb hs (by omega) (by omega) dX5_countBetter_46 (by decide) (fun c_17 => ?_) (fun c_17 => ?_)
    · refine lv_aload_n hx hb dX5_countBetter_52 rfl (lv_at hl 1 rfl) ?_
      refine lv_aload hx hb dX5_countBetter_53 (lv_at hl 0 rfl) ?_
      refine vp_callSi (W.runV (As := [.ref (gt (L (F 3 a)) i)]) (rest := []) ⟨hx, hb, hml, hown, hts⟩ (ck_scoreOf l D cI cO cb eA mi st ws hD hC hW hs a hk_a (gt (L (F 3 a)) i) hk_14) (cwV 1 hts gX5_countBetter_X5_scoreOf rfl rfl rfl kd_X5_scoreOf ⟨Nat.le_of_ble_eq_true rfl, Nat.le_of_ble_eq_true rfl⟩) ⟨cB_blind, c_recv hK hP rfl hm_1, cB_pre hK hG hA hS hP _⟩ rfl rfl hl.1 rfl (lv_room (Nat.le_of_ble_eq_true rfl)) dX5_countBetter_55 ⟨Nat.le_of_ble_eq_true rfl, Nat.le_of_ble_eq_true rfl⟩) (fun r_18 hr_18 => ?_)
      subst hr_18
      have hn_19 : kScore F L a (gt (L (F 3 a)) i) < 300000 := kScore_lt hW (by assumption) (by assumption)
      refine lv_iload_n hx hb dX5_countBetter_58 rfl (lv_at hl 4 rfl) ?_
      refine lv_isub hx hb dX5_countBetter_59 ?_
      refine lv_istore (lv' := [(7, .int ((nI (kScore F L a (gt (L (F 3 a)) i))) - (nI (kScore F L a x)))), (6, .ref (gt (L (F 3 a)) i)), (0, .ref a), (1, .int (nI j)), (2, .ref x), (3, .int (nI (kScore F L a x))), (5, .int (nI i)), (4, .int (nI (cn (fun k9 => kBeats F L a j x k9) i)))]) hx hb dX5_countBetter_60 hl (by decide) rfl (fun ls hl => ?_)
      refine lv_iload hx hb dX5_countBetter_62 (lv_at hl 0 rfl) ?_
      refine lv_if_ne (tgt := 79) hx hb dX5_countBetter_64 (by decide)  (fun c_20 => ?_) (fun c_20 => ?_)
      · rw [d_eq0 (by omega) (by omega)] at c_20
        refine lv_iload hx hb dX5_countBetter_79 (lv_at hl 0 rfl) ?_
        refine lv_if_ne (tgt := 90) hx hb dX5_countBetter_81 (by decide)  (fun c_21 => ?_) (fun c_21 => ?_)
        · rw [d_eq0 (by omega) (by omega)] at c_21
          refine lv_iload hx hb dX5_countBetter_90 (lv_at hl 0 rfl) ?_
          refine lv_if_le (tgt := 98) hx hb dX5_countBetter_92 (by decide)  (fun c_22 => ?_) (fun c_22 => ?_)
          · rw [d_le0 (by omega) (by omega)] at c_22
            refine n_iinc (k := 6) (lv' := [(5, .int (nI (i + 1))), (7, .int ((nI (kScore F L a (gt (L (F 3 a)) i))) - (nI (kScore F L a x)))), (6, .ref (gt (L (F 3 a)) i)), (0, .ref a), (1, .int (nI j)), (2, .ref x), (3, .int (nI (kScore F L a x))), (4, .int (nI (cn (fun k9 => kBeats F L a j x k9) i)))]) hx hb dX5_countBetter_98 hl rfl (by decide) rfl (fun ls hl => ?_)
            refine lv_goto (tgt := 12) hx hb dX5_countBetter_101 (by decide) ?_
            have e_23 : cn (fun k9 => kBeats F L a j x k9) (i + 1) = cn (fun k9 => kBeats F L a j x k9) i := by first | (exfalso; omega) | (rw [cn, if_pos (by omega)]; done) | (rw [cn, if_neg (by omega)]; try rfl)
            refine ih_4 (by omega) trivial ls ?_
            show lv_has ls 8 [(0, .ref a), (1, .int (nI j)), (2, .ref x), (3, .int (nI (kScore F L a x))), (5, .int (nI (i + 1))), (4, .int (nI (cn (fun k9 => kBeats F L a j x k9) (i + 1))))]
            rw [e_23]
            exact lv_sub hl [3, 4, 5, 6, 0, 7] rfl
          · rw [d_le0 (by omega) (by omega)] at c_22
            refine n_iinc (k := 7) (lv' := [(4, .int (nI (cn (fun k9 => kBeats F L a j x k9) i + 1))), (7, .int ((nI (kScore F L a (gt (L (F 3 a)) i))) - (nI (kScore F L a x)))), (6, .ref (gt (L (F 3 a)) i)), (0, .ref a), (1, .int (nI j)), (2, .ref x), (3, .int (nI (kScore F L a x))), (5, .int (nI i))]) hx hb dX5_countBetter_95 hl rfl (by decide) rfl (fun ls hl => ?_)
            refine n_iinc (k := 7) (lv' := [(5, .int (nI (i + 1))), (4, .int (nI (cn (fun k9 => kBeats F L a j x k9) i + 1))), (7, .int ((nI (kScore F L a (gt (L (F 3 a)) i))) - (nI (kScore F L a x)))), (6, .ref (gt (L (F 3 a)) i)), (0, .ref a), (1, .int (nI j)), (2, .ref x), (3, .int (nI (kScore F L a x)))]) hx hb dX5_countBetter_98 hl rfl (by decide) rfl (fun ls hl => ?_)
            refine lv_goto (tgt := 12) hx hb dX5_countBetter_101 (by decide) ?_
            have e_24 : cn (fun k9 => kBeats F L a j x k9) (i + 1) = cn (fun k9 => kBeats F L a j x k9) i + 1 := by first | (exfalso; omega) | (rw [cn, if_pos (by omega)]; done) | (rw [cn, if_neg (by omega)]; try rfl)
            refine ih_4 (by omega) trivial ls ?_
            show lv_has ls 8 [(0, .ref a), (1, .int (nI j)), (2, .ref x), (3, .int (nI (kScore F L a x))), (5, .int (nI (i + 1))), (4, .int (nI (cn (fun k9 => kBeats F L a j x k9) (i + 1))))]
            rw [e_24]
            exact lv_sub hl [4, 5, 6, 7, 0, 1] rfl
        · rw [d_eq0 (by omega) (by omega)] at c_21
          refine lv_iload_n hx hb dX5_countBetter_84 rfl (lv_at hl 3 rfl) ?_
          refine lv_iload hx hb dX5_countBetter_85 (lv_at hl 6 rfl) ?_
          refine lv_isub hx hb dX5_countBetter_87 ?_
          refine lv_istore (lv' := [(7, .int ((nI j) - (nI i))), (6, .ref (gt (L (F 3 a)) i)), (0, .ref a), (1, .int (nI j)), (2, .ref x), (3, .int (nI (kScore F L a x))), (5, .int (nI i)), (4, .int (nI (cn (fun k9 => kBeats F L a j x k9) i)))]) hx hb dX5_countBetter_88 hl (by decide) rfl (fun ls hl => ?_)
          refine lv_iload hx hb dX5_countBetter_90 (lv_at hl 0 rfl) ?_
          refine lv_if_le (tgt := 98) hx hb dX5_countBetter_92 (by decide)  (fun c_25 => ?_) (fun c_25 => ?_)
          · rw [d_le0 (by omega) (by omega)] at c_25
            refine n_iinc (k := 6) (lv' := [(5, .int (nI (i + 1))), (7, .int ((nI j) - (nI i))), (6, .ref (gt (L (F 3 a)) i)), (0, .ref a), (1, .int (nI j)), (2, .ref x), (3, .int (nI (kScore F L a x))), (4, .int (nI (cn (fun k9 => kBeats F L a j x k9) i)))]) hx hb dX5_countBetter_98 hl rfl (by decide) rfl (fun ls hl => ?_)
            refine lv_goto (tgt := 12) hx hb dX5_countBetter_101 (by decide) ?_
            have e_26 : cn (fun k9 => kBeats F L a j x k9) (i + 1) = cn (fun k9 => kBeats F L a j x k9) i := by first | (exfalso; omega) | (rw [cn, if_pos (by omega)]; done) | (rw [cn, if_neg (by omega)]; try rfl)
            refine ih_4 (by omega) trivial ls ?_
            show lv_has ls 8 [(0, .ref a), (1, .int (nI j)), (2, .ref x), (3, .int (nI (kScore F L a x))), (5, .int (nI (i + 1))), (4, .int (nI (cn (fun k9 => kBeats F L a j x k9) (i + 1))))]
            rw [e_26]
            exact lv_sub hl [3, 4, 5, 6, 0, 7] rfl
          · rw [d_le0 (by omega) (by omega)] at c_25
            refine n_iinc (k := 7) (lv' := [(4, .int (nI (cn (fun k9 => kBeats F L a j x k9) i + 1))), (7, .int ((nI j) - (nI i))), (6, .ref (gt (L (F 3 a)) i)), (0, .ref a), (1, .int (nI j)), (2, .ref x), (3, .int (nI (kScore F L a x))), (5, .int (nI i))]) hx hb dX5_countBetter_95 hl rfl (by decide) rfl (fun ls hl => ?_)
            refine n_iinc (k := 7) (lv' := [(5, .int (nI (i + 1))), (4, .int (nI (cn (fun k9 => kBeats F L a j x k9) i + 1))), (7, .int ((nI j) - (nI i))), (6, .ref (gt (L (F 3 a)) i)), (0, .ref a), (1, .int (nI j)), (2, .ref x), (3, .int (nI (kScore F L a x)))]) hx hb dX5_countBetter_98 hl rfl (by decide) rfl (fun ls hl => ?_)
            refine lv_goto (tgt := 12) hx hb dX5_countBetter_101 (by decide) ?_
            have e_27 : cn (fun k9 => kBeats F L a j x k9) (i + 1) = cn (fun k9 => kBeats F L a j x k9) i + 1 := by first | (exfalso; omega) | (rw [cn, if_pos (by omega)]; done) | (rw [cn, if_neg (by omega)]; try rfl)
            refine ih_4 (by omega) trivial ls ?_
            show lv_has ls 8 [(0, .ref a), (1, .int (nI j)), (2, .ref x), (3, .int (nI (kScore F L a x))), (5, .int (nI (i + 1))), (4, .int (nI (cn (fun k9 => kBeats F L a j x k9) (i + 1))))]
            rw [e_27]
            exact lv_sub hl [4, 5, 6, 7, 0, 1] rfl
      · rw [d_eq0 (by omega) (by omega)] at c_20
        refine lv_aload_n hx hb dX5_countBetter_67 rfl (lv_at hl 4 rfl) ?_
        have hm_28 : (x, .inr (3, [.int (nI (F 0 x)), .int (nI (F 1 x)), .int (nI (F 2 x)), .int (nI (F 3 x)), .ref (st (F 4 x)), .ref (st (F 5 x))])) ∈ ws := hC.at hk_x (by decide) (by decide)
        refine c_get (C := RX1) (T := TX1) (N := 6) hx hb hts hin_X1 hown hK hP hm_28 rfl 1 (by decide) l_48 (fun _ h9 => h9) rfl dX5_countBetter_68 ?_
        have hn_29 : F 1 x < 100001 := hW.num (f := 1) hk_x rfl (by decide)
        refine lv_aload hx hb dX5_countBetter_71 (lv_at hl 1 rfl) ?_
        refine c_get (C := RX1) (T := TX1) (N := 6) hx hb hts hin_X1 hown hK hP hm_15 rfl 1 (by decide) l_48 (fun _ h9 => h9) rfl dX5_countBetter_73 ?_
        have hn_30 : F 1 (gt (L (F 3 a)) i) < 100001 := hW.num (f := 1) hk_14 rfl (by decide)
        refine lv_isub hx hb dX5_countBetter_76 ?_
        refine lv_istore (lv' := [(7, .int ((nI (F 1 x)) - (nI (F 1 (gt (L (F 3 a)) i))))), (6, .ref (gt (L (F 3 a)) i)), (0, .ref a), (1, .int (nI j)), (2, .ref x), (3, .int (nI (kScore F L a x))), (5, .int (nI i)), (4, .int (nI (cn (fun k9 => kBeats F L a j x k9) i)))]) hx hb dX5_countBetter_77 hl (by decide) rfl (fun ls hl => ?_)
        refine lv_iload hx hb dX5_countBetter_79 (lv_at hl 0 rfl) ?_
        refine lv_if_ne (tgt := 90) hx hb dX5_countBetter_81 (by decide)  (fun c_31 => ?_) (fun c_31 => ?_)
        · rw [d_eq0 (by omega) (by omega)] at c_31
          refine lv_iload hx hb dX5_countBetter_90 (lv_at hl 0 rfl) ?_
          refine lv_if_le (tgt := 98) hx hb dX5_countBetter_92 (by decide)  (fun c_32 => ?_) (fun c_32 => ?_)
          · rw [d_le0 (by omega) (by omega)] at c_32
            refine n_iinc (k := 6) (lv' := [(5, .int (nI (i + 1))), (7, .int ((nI (F 1 x)) - (nI (F 1 (gt (L (F 3 a)) i))))), (6, .ref (gt (L (F 3 a)) i)), (0, .ref a), (1, .int (nI j)), (2, .ref x), (3, .int (nI (kScore F L a x))), (4, .int (nI (cn (fun k9 => kBeats F L a j x k9) i)))]) hx hb dX5_countBetter_98 hl rfl (by decide) rfl (fun ls hl => ?_)
            refine lv_goto (tgt := 12) hx hb dX5_countBetter_101 (by decide) ?_
            have e_33 : cn (fun k9 => kBeats F L a j x k9) (i + 1) = cn (fun k9 => kBeats F L a j x k9) i := by first | (exfalso; omega) | (rw [cn, if_pos (by omega)]; done) | (rw [cn, if_neg (by omega)]; try rfl)
            refine ih_4 (by omega) trivial ls ?_
            show lv_has ls 8 [(0, .ref a), (1, .int (nI j)), (2, .ref x), (3, .int (nI (kScore F L a x))), (5, .int (nI (i + 1))), (4, .int (nI (cn (fun k9 => kBeats F L a j x k9) (i + 1))))]
            rw [e_33]
            exact lv_sub hl [3, 4, 5, 6, 0, 7] rfl
          · rw [d_le0 (by omega) (by omega)] at c_32
            refine n_iinc (k := 7) (lv' := [(4, .int (nI (cn (fun k9 => kBeats F L a j x k9) i + 1))), (7, .int ((nI (F 1 x)) - (nI (F 1 (gt (L (F 3 a)) i))))), (6, .ref (gt (L (F 3 a)) i)), (0, .ref a), (1, .int (nI j)), (2, .ref x), (3, .int (nI (kScore F L a x))), (5, .int (nI i))]) hx hb dX5_countBetter_95 hl rfl (by decide) rfl (fun ls hl => ?_)
            refine n_iinc (k := 7) (lv' := [(5, .int (nI (i + 1))), (4, .int (nI (cn (fun k9 => kBeats F L a j x k9) i + 1))), (7, .int ((nI (F 1 x)) - (nI (F 1 (gt (L (F 3 a)) i))))), (6, .ref (gt (L (F 3 a)) i)), (0, .ref a), (1, .int (nI j)), (2, .ref x), (3, .int (nI (kScore F L a x)))]) hx hb dX5_countBetter_98 hl rfl (by decide) rfl (fun ls hl => ?_)
            refine lv_goto (tgt := 12) hx hb dX5_countBetter_101 (by decide) ?_
            have e_34 : cn (fun k9 => kBeats F L a j x k9) (i + 1) = cn (fun k9 => kBeats F L a j x k9) i + 1 := by first | (exfalso; omega) | (rw [cn, if_pos (by omega)]; done) | (rw [cn, if_neg (by omega)]; try rfl)
            refine ih_4 (by omega) trivial ls ?_
            show lv_has ls 8 [(0, .ref a), (1, .int (nI j)), (2, .ref x), (3, .int (nI (kScore F L a x))), (5, .int (nI (i + 1))), (4, .int (nI (cn (fun k9 => kBeats F L a j x k9) (i + 1))))]
            rw [e_34]
            exact lv_sub hl [4, 5, 6, 7, 0, 1] rfl
        · rw [d_eq0 (by omega) (by omega)] at c_31
          refine lv_iload_n hx hb dX5_countBetter_84 rfl (lv_at hl 3 rfl) ?_
          refine lv_iload hx hb dX5_countBetter_85 (lv_at hl 6 rfl) ?_
          refine lv_isub hx hb dX5_countBetter_87 ?_
          refine lv_istore (lv' := [(7, .int ((nI j) - (nI i))), (6, .ref (gt (L (F 3 a)) i)), (0, .ref a), (1, .int (nI j)), (2, .ref x), (3, .int (nI (kScore F L a x))), (5, .int (nI i)), (4, .int (nI (cn (fun k9 => kBeats F L a j x k9) i)))]) hx hb dX5_countBetter_88 hl (by decide) rfl (fun ls hl => ?_)
          refine lv_iload hx hb dX5_countBetter_90 (lv_at hl 0 rfl) ?_
          refine lv_if_le (tgt := 98) hx hb dX5_countBetter_92 (by decide)  (fun c_35 => ?_) (fun c_35 => ?_)
          · rw [d_le0 (by omega) (by omega)] at c_35
            refine n_iinc (k := 6) (lv' := [(5, .int (nI (i + 1))), (7, .int ((nI j) - (nI i))), (6, .ref (gt (L (F 3 a)) i)), (0, .ref a), (1, .int (nI j)), (2, .ref x), (3, .int (nI (kScore F L a x))), (4, .int (nI (cn (fun k9 => kBeats F L a j x k9) i)))]) hx hb dX5_countBetter_98 hl rfl (by decide) rfl (fun ls hl => ?_)
            refine lv_goto (tgt := 12) hx hb dX5_countBetter_101 (by decide) ?_
            have e_36 : cn (fun k9 => kBeats F L a j x k9) (i + 1) = cn (fun k9 => kBeats F L a j x k9) i := by first | (exfalso; omega) | (rw [cn, if_pos (by omega)]; done) | (rw [cn, if_neg (by omega)]; try rfl)
            refine ih_4 (by omega) trivial ls ?_
            show lv_has ls 8 [(0, .ref a), (1, .int (nI j)), (2, .ref x), (3, .int (nI (kScore F L a x))), (5, .int (nI (i + 1))), (4, .int (nI (cn (fun k9 => kBeats F L a j x k9) (i + 1))))]
            rw [e_36]
            exact lv_sub hl [3, 4, 5, 6, 0, 7] rfl
          · rw [d_le0 (by omega) (by omega)] at c_35
            refine n_iinc (k := 7) (lv' := [(4, .int (nI (cn (fun k9 => kBeats F L a j x k9) i + 1))), (7, .int ((nI j) - (nI i))), (6, .ref (gt (L (F 3 a)) i)), (0, .ref a), (1, .int (nI j)), (2, .ref x), (3, .int (nI (kScore F L a x))), (5, .int (nI i))]) hx hb dX5_countBetter_95 hl rfl (by decide) rfl (fun ls hl => ?_)
            refine n_iinc (k := 7) (lv' := [(5, .int (nI (i + 1))), (4, .int (nI (cn (fun k9 => kBeats F L a j x k9) i + 1))), (7, .int ((nI j) - (nI i))), (6, .ref (gt (L (F 3 a)) i)), (0, .ref a), (1, .int (nI j)), (2, .ref x), (3, .int (nI (kScore F L a x)))]) hx hb dX5_countBetter_98 hl rfl (by decide) rfl (fun ls hl => ?_)
            refine lv_goto (tgt := 12) hx hb dX5_countBetter_101 (by decide) ?_
            have e_37 : cn (fun k9 => kBeats F L a j x k9) (i + 1) = cn (fun k9 => kBeats F L a j x k9) i + 1 := by first | (exfalso; omega) | (rw [cn, if_pos (by omega)]; done) | (rw [cn, if_neg (by omega)]; try rfl)
            refine ih_4 (by omega) trivial ls ?_
            show lv_has ls 8 [(0, .ref a), (1, .int (nI j)), (2, .ref x), (3, .int (nI (kScore F L a x))), (5, .int (nI (i + 1))), (4, .int (nI (cn (fun k9 => kBeats F L a j x k9) (i + 1))))]
            rw [e_37]
            exact lv_sub hl [4, 5, 6, 7, 0, 1] rfl
    · refine lv_goto (tgt := 98) hx hb dX5_countBetter_49 (by decide) ?_
      refine n_iinc (k := 5) (lv' := [(5, .int (nI (i + 1))), (6, .ref (gt (L (F 3 a)) i)), (0, .ref a), (1, .int (nI j)), (2, .ref x), (3, .int (nI (kScore F L a x))), (4, .int (nI (cn (fun k9 => kBeats F L a j x k9) i)))]) hx hb dX5_countBetter_98 hl rfl (by decide) rfl (fun ls hl => ?_)
      refine lv_goto (tgt := 12) hx hb dX5_countBetter_101 (by decide) ?_
      have e_38 : cn (fun k9 => kBeats F L a j x k9) (i + 1) = cn (fun k9 => kBeats F L a j x k9) i := by first | (exfalso; omega) | (rw [cn, if_pos (by omega)]; done) | (rw [cn, if_neg (by omega)]; try rfl)
      refine ih_4 (by omega) trivial ls ?_
      show lv_has ls 8 [(0, .ref a), (1, .int (nI j)), (2, .ref x), (3, .int (nI (kScore F L a x))), (5, .int (nI (i + 1))), (4, .int (nI (cn (fun k9 => kBeats F L a j x k9) (i + 1))))]
      rw [e_38]
      exact lv_sub hl [2, 3, 4, 5, 0, 6] rfl
set_option maxHeartbeats 4000000 in
set_option maxRecDepth 100000 in
theorem ck_bidAtPlace (l : Launch) (D : va_G) (cI cO cb : ClassId) (eA mi : Nat) (st : Nat → Nat) {A : Nat → Prop} (ws : va_W) (hD : va_D A ws) {own kd : Nat → Nat} {F : Nat → Nat → Nat} {L : Nat → List Nat} (hC : CW cI cO eA st own kd F L ws) (hW : WF kd F L) (hs : sInj st)  (a : Nat) (hk_a : kd a = 7) (z : Int32) : Met l yX5_bidAtPlace wsX5_bidAtPlace ({ frames := 5, cells := 0, slots := 0, locals := 115 }) (va_Pc [.ref a, .int z] (cB D cI cO cb eA mi st A ws)) (va_Sq (fun ri => ri = kPlace F L a z)) 0 0 (fun _ => False) := by
  refine Met.ofW (cc := cX5_bidAtPlace) (maxL := 4) (ret := (some (.object "TenderHall$Bid"))) (by decide) rfl ?_
  intro p e s m args below meth c s₁ B hml hv
  obtain ⟨rfl, hP, hK, hG, hA⟩ := hv
  have hx := B.exec
  have hb := B.bytes
  have hr := B.returns
  have hts := atoms_spec (ws := wsX5_bidAtPlace) B.pre
  have hown : s.vm.findClass RX5 = some m.cls := findClass_of_methodNamed B.named
  have hlocks := B.notSynchronized
  have hin_X1 : ∀ w ∈ wsX10, w ∈ wsX5_bidAtPlace := fun w h => List.mem_cons_of_mem _ (List.mem_append_left _ (List.mem_append_left _ (List.mem_append_right _ h)))
  have hin_X5 : ∀ w ∈ wsX50, w ∈ wsX5_bidAtPlace := fun w h => List.mem_cons_of_mem _ (List.mem_append_left _ (List.mem_append_left _ (List.mem_append_left _ (List.mem_append_right _ h))))
  have l_12 := (hts (.fieldLink RX5 12 "TenderHall$Lot" "bids" "Ljava/util/ArrayList;") (List.mem_of_getElem? (i := 1) rfl))
  have l_51 := (hts (.fieldLink RX5 51 "TenderHall$Bid" "status" "LTenderHall$Status;") (List.mem_of_getElem? (i := 3) rfl))
  have l_55 := (hts (.fieldLink RX5 55 "TenderHall$Status" "IN" "LTenderHall$Status;") (List.mem_of_getElem? (i := 4) rfl))
  have hS : va_S A s.heap s.heap [] := va_S.rf
  have hD0 := hD
  have hl := lv_entry ([.ref a, .int z]) (n := 4) (Nat.le_of_ble_eq_true rfl)
  rw [lg_entry_eq]
  generalize (lg_sl ([.ref a, .int z]) ++ List.replicate (4 - (lg_sl ([.ref a, .int z])).length) Slot.unset).toArray = ls at hl ⊢
  have hl : lv_has ls 4 [(0, .ref a), (1, .int z)] := hl
  have hk3 : kd (F 3 a) = 23 := hW.ref hk_a rfl (by decide)
  have hl3 : (L (F 3 a)).length ≤ 60 := hW.len hk3 (by decide)
  refine lv_iconst (v := nI 0) hx hb dX5_bidAtPlace_0 (by decide) ?_
  refine lv_istore_n (lv' := [(2, .int (nI 0)), (0, .ref a), (1, .int z)]) hx hb dX5_bidAtPlace_1 rfl hl (by decide) rfl (fun ls hl => ?_)
  refine w_loopJ (n := (L (F 3 a)).length) (nL := 4) (fun i => nall (fun j => F 5 (gt (L (F 3 a)) j) = 1 ∧ nI (kBetter F L a j (gt (L (F 3 a)) j)) = z) i) (fun i => [(0, .ref a), (1, .int z), (2, .int (nI i))]) (fun i hb_2 hJ_3 ih_1 ls hl => ?_) 0 (Nat.zero_le _) nall.zero ls (lv_sub hl [1, 2, 0] rfl)
  refine lv_iload_n hx hb dX5_bidAtPlace_2 rfl (lv_at hl 2 rfl) ?_
  refine lv_aload_n hx hb dX5_bidAtPlace_3 rfl (lv_at hl 0 rfl) ?_
  have hm_4 : (a, .inr (7, [.ref (F 0 a), .int (nI (F 1 a)), .int (nI (F 2 a)), .ref (F 3 a), .ref (F 4 a)])) ∈ ws := hC.at hk_a (by decide) (by decide)
  refine c_get (C := RX5) (T := TX5) (N := 5) hx hb hts hin_X5 hown hK hP hm_4 rfl 3 (by decide) l_12 (fun _ h9 => h9) rfl dX5_bidAtPlace_4 ?_
  have hk_5 : kd (F 3 a) = 23 := hW.ref (f := 3) hk_a rfl (by decide)
  have hl_6 : (L (F 3 a)).length ≤ 60 := hW.len hk_5 (by decide)
  obtain ⟨fs_hm_7, hm_7⟩ := hC.obj hk_5 (by decide)
  refine vp_callSi (W.runV (As := []) (rest := [.int (nI i)]) ⟨hx, hb, hml, hown, hts⟩ ((cl_size l D cI cO cb eA mi st ws hD (F 3 a) (L (F 3 a)) (hC.lst hk_5 (by decide)))) (cwV 0 hts gX5_bidAtPlace_Jx4a65c_size_8abf5 rfl rfl rfl kd_Jx4a65c_size_8abf5 ⟨Nat.le_of_ble_eq_true rfl, Nat.le_of_ble_eq_true rfl⟩) ⟨cB_blind, c_recv hK hP rfl hm_7, cB_pre hK hG hA hS hP _⟩ rfl rfl hl.1 rfl (lv_room (Nat.le_of_ble_eq_true rfl)) dX5_bidAtPlace_7 ⟨Nat.le_of_ble_eq_true rfl, Nat.le_of_ble_eq_true rfl⟩) (fun r_8 hr_8 => ?_)
  subst hr_8
  refine n_icmp_ge (tgt := 53) hx hb dX5_bidAtPlace_10 (by decide) (by omega) (by omega) (fun c_9 => ?_) (fun c_9 => ?_)
  · refine lv_null hx hb dX5_bidAtPlace_53 ?_
    exact W.aret hx hb hr (Or.inl ⟨_, rfl⟩) (Or.inl rfl) (fun U9 ht hW9 => ⟨none, rfl, (show none = kPlace F L a z from by unfold kPlace; rw [fr_no hJ_3 c_9]; rfl), ht⟩) (fun _ h => by cases h) dX5_bidAtPlace_54
  · refine lv_aload_n hx hb dX5_bidAtPlace_13 rfl (lv_at hl 0 rfl) ?_
    refine c_get (C := RX5) (T := TX5) (N := 5) hx hb hts hin_X5 hown hK hP hm_4 rfl 3 (by decide) l_12 (fun _ h9 => h9) rfl dX5_bidAtPlace_14 ?_
    refine lv_iload_n hx hb dX5_bidAtPlace_17 rfl (lv_at hl 2 rfl) ?_
    obtain ⟨fs_hm_10, hm_10⟩ := hC.obj hk_5 (by decide)
    refine va_csr (W.runV (As := [.int (nI i)]) (rest := []) ⟨hx, hb, hml, hown, hts⟩ ((cl_get l D cI cO cb eA mi st ws hD (F 3 a) (L (F 3 a)) (hC.lst hk_5 (by decide)) i (gt (L (F 3 a)) i) (gt_some (by omega)))) (cwV 1 hts gX5_bidAtPlace_Jx4a65c_get_915e3 rfl rfl rfl kd_Jx4a65c_get_915e3 ⟨Nat.le_of_ble_eq_true rfl, Nat.le_of_ble_eq_true rfl⟩) ⟨cB_blind, c_recv hK hP rfl hm_10, cB_pre hK hG hA hS hP _⟩ rfl rfl hl.1 rfl (lv_room (Nat.le_of_ble_eq_true rfl)) dX5_bidAtPlace_18 ⟨Nat.le_of_ble_eq_true rfl, Nat.le_of_ble_eq_true rfl⟩) (fun r_11 hr_11 => ?_)
    subst hr_11
    have hk_12 : kd (gt (L (F 3 a)) i) = 3 := hW.el hk_5 (by omega)
    have hm_13 : (gt (L (F 3 a)) i, .inr (3, [.int (nI (F 0 (gt (L (F 3 a)) i))), .int (nI (F 1 (gt (L (F 3 a)) i))), .int (nI (F 2 (gt (L (F 3 a)) i))), .int (nI (F 3 (gt (L (F 3 a)) i))), .ref (st (F 4 (gt (L (F 3 a)) i))), .ref (st (F 5 (gt (L (F 3 a)) i)))])) ∈ ws := hC.at hk_12 (by decide) (by decide)
    refine va_castE hx hb hown (hts (.classLink RX5 40 "TenderHall$Bid") (List.mem_of_getElem? (i := 2) rfl)) (c_recv hK hP (ci := 3) rfl hm_13) dX5_bidAtPlace_21 ?_
    refine lv_astore_n (lv' := [(3, .ref (gt (L (F 3 a)) i)), (0, .ref a), (1, .int z), (2, .int (nI i))]) hx hb dX5_bidAtPlace_24 rfl hl (by decide) rfl (fun ls hl => ?_)
    refine lv_aload_n hx hb dX5_bidAtPlace_25 rfl (lv_at hl 0 rfl) ?_
    refine c_get (C := RX1) (T := TX1) (N := 6) hx hb hts hin_X1 hown hK hP hm_13 rfl 5 (by decide) l_51 (fun _ h9 => h9) rfl dX5_bidAtPlace_26 ?_
    have hn_14 : F 5 (gt (L (F 3 a)) i) < 4 := hW.num (f := 5) hk_12 rfl (by decide)
    refine va_gets hx hb hG.2.2.2.2.2.2.2.2.1 hS hown l_55 (fun _ h9 => h9) dX5_bidAtPlace_29 ?_
    refine s_acmp_ne (x := (F 5 (gt (L (F 3 a)) i))) (y := 1) (tgt := 47) hx hb hs (by omega) (by omega) dX5_bidAtPlace_32 (by decide) (fun c_15 => ?_) (fun c_15 => ?_)
    · refine n_iinc (k := 3) (lv' := [(2, .int (nI (i + 1))), (3, .ref (gt (L (F 3 a)) i)), (0, .ref a), (1, .int z)]) hx hb dX5_bidAtPlace_47 hl rfl (by decide) rfl (fun ls hl => ?_)
      refine lv_goto (tgt := 2) hx hb dX5_bidAtPlace_50 (by decide) ?_
      refine ih_1 (by omega) (hJ_3.succ (fun q9 => absurd q9.1 (by exact c_15))) ls ?_
      show lv_has ls 4 [(0, .ref a), (1, .int z), (2, .int (nI (i + 1)))]
      exact lv_sub hl [2, 3, 0] rfl
    · refine lv_aload_n hx hb dX5_bidAtPlace_35 rfl (lv_at hl 1 rfl) ?_
      refine lv_iload_n hx hb dX5_bidAtPlace_36 rfl (lv_at hl 3 rfl) ?_
      refine lv_aload_n hx hb dX5_bidAtPlace_37 rfl (lv_at hl 0 rfl) ?_
      refine vp_callSi (W.runV (As := [.int (nI i), .ref (gt (L (F 3 a)) i)]) (rest := []) ⟨hx, hb, hml, hown, hts⟩ (ck_countBetter l D cI cO cb eA mi st ws hD hC hW hs a hk_a i (gt (L (F 3 a)) i) hk_12 (by omega)) (cwV 2 hts gX5_bidAtPlace_X5_countBetter rfl rfl rfl kd_X5_countBetter ⟨Nat.le_of_ble_eq_true rfl, Nat.le_of_ble_eq_true rfl⟩) ⟨cB_blind, c_recv hK hP rfl hm_4, cB_pre hK hG hA hS hP _⟩ rfl rfl hl.1 rfl (lv_room (Nat.le_of_ble_eq_true rfl)) dX5_bidAtPlace_38 ⟨Nat.le_of_ble_eq_true rfl, Nat.le_of_ble_eq_true rfl⟩) (fun r_16 hr_16 => ?_)
      subst hr_16
      have hn_17 : kBetter F L a i (gt (L (F 3 a)) i) ≤ 60 := kBetter_le hW (by assumption)
      refine lv_iload_n hx hb dX5_bidAtPlace_41 rfl (lv_at hl 2 rfl) ?_
      refine lv_icmp_ne (tgt := 47) hx hb dX5_bidAtPlace_42 (by decide)  (fun c_18 => ?_) (fun c_18 => ?_)
      · refine n_iinc (k := 3) (lv' := [(2, .int (nI (i + 1))), (3, .ref (gt (L (F 3 a)) i)), (0, .ref a), (1, .int z)]) hx hb dX5_bidAtPlace_47 hl rfl (by decide) rfl (fun ls hl => ?_)
        refine lv_goto (tgt := 2) hx hb dX5_bidAtPlace_50 (by decide) ?_
        refine ih_1 (by omega) (hJ_3.succ (fun q9 => absurd q9.2 (by exact c_18))) ls ?_
        show lv_has ls 4 [(0, .ref a), (1, .int z), (2, .int (nI (i + 1)))]
        exact lv_sub hl [2, 3, 0] rfl
      · refine lv_aload_n hx hb dX5_bidAtPlace_45 rfl (lv_at hl 0 rfl) ?_
        exact W.aret hx hb hr (Or.inl ⟨_, rfl⟩) (Or.inr ⟨_, rfl⟩) (fun U9 ht hW9 => ⟨some (gt (L (F 3 a)) i), rfl, (show some (gt (L (F 3 a)) i) = kPlace F L a z from by unfold kPlace; rw [fr_some hJ_3 (by omega) ⟨c_15, c_18⟩]; rfl), ht⟩) (fun _ h => by cases h) dX5_bidAtPlace_46
set_option maxHeartbeats 4000000 in
set_option maxRecDepth 100000 in
theorem ck_openAbout (l : Launch) (D : va_G) (cI cO cb : ClassId) (eA mi : Nat) (st : Nat → Nat) {A : Nat → Prop} (ws : va_W) (hD : va_D A ws) {own kd : Nat → Nat} {F : Nat → Nat → Nat} {L : Nat → List Nat} (hC : CW cI cO eA st own kd F L ws) (hW : WF kd F L) (hs : sInj st)  (h : Nat) (hk_h : kd h = 9) (w : Nat) (hk_w : kd w = 2) : Met l yX8_openAbout wsX8_openAbout ({ frames := 3, cells := 0, slots := 0, locals := 64 }) (va_Pc [.ref h, .ref w] (cB D cI cO cb eA mi st A ws)) (vp_Si (fun ri => ri = nI (kOpen F L h w))) 0 0 (fun _ => False) := by
  refine Met.ofW (cc := cX8_openAbout) (maxL := 5) (ret := (some .int)) (by decide) rfl ?_
  intro p e s m args below meth c s₁ B hml hv
  obtain ⟨rfl, hP, hK, hG, hA⟩ := hv
  have hx := B.exec
  have hb := B.bytes
  have hr := B.returns
  have hts := atoms_spec (ws := wsX8_openAbout) B.pre
  have hown : s.vm.findClass RX8 = some m.cls := findClass_of_methodNamed B.named
  have hlocks := B.notSynchronized
  have hin_X3 : ∀ w ∈ wsX30, w ∈ wsX8_openAbout := fun w h => List.mem_cons_of_mem _ (List.mem_append_left _ (List.mem_append_right _ h))
  have hin_X8 : ∀ w ∈ wsX80, w ∈ wsX8_openAbout := fun w h => List.mem_cons_of_mem _ (List.mem_append_left _ (List.mem_append_left _ (List.mem_append_right _ h)))
  have l_23 := (hts (.fieldLink RX8 23 "TenderHall" "complaints" "Ljava/util/ArrayList;") (List.mem_of_getElem? (i := 1) rfl))
  have l_213 := (hts (.fieldLink RX8 213 "TenderHall$Complaint" "award" "LTenderHall$Award;") (List.mem_of_getElem? (i := 3) rfl))
  have l_200 := (hts (.fieldLink RX8 200 "TenderHall$Complaint" "state" "I") (List.mem_of_getElem? (i := 4) rfl))
  have hS : va_S A s.heap s.heap [] := va_S.rf
  have hD0 := hD
  have hl := lv_entry ([.ref h, .ref w]) (n := 5) (Nat.le_of_ble_eq_true rfl)
  rw [lg_entry_eq]
  generalize (lg_sl ([.ref h, .ref w]) ++ List.replicate (5 - (lg_sl ([.ref h, .ref w])).length) Slot.unset).toArray = ls at hl ⊢
  have hl : lv_has ls 5 [(0, .ref h), (1, .ref w)] := hl
  have hk3 : kd (F 3 h) = 25 := hW.ref hk_h rfl (by decide)
  have hl3 : (L (F 3 h)).length ≤ 60 := hW.len hk3 (by decide)
  refine lv_iconst (v := nI 0) hx hb dX8_openAbout_0 (by decide) ?_
  refine lv_istore_n (lv' := [(2, .int (nI 0)), (0, .ref h), (1, .ref w)]) hx hb dX8_openAbout_1 rfl hl (by decide) rfl (fun ls hl => ?_)
  refine lv_iconst (v := nI 0) hx hb dX8_openAbout_2 (by decide) ?_
  refine lv_istore_n (lv' := [(3, .int (nI 0)), (2, .int (nI 0)), (0, .ref h), (1, .ref w)]) hx hb dX8_openAbout_3 rfl hl (by decide) rfl (fun ls hl => ?_)
  refine w_loopJ (n := (L (F 3 h)).length) (nL := 5) (fun i => True) (fun i => [(0, .ref h), (1, .ref w), (3, .int (nI i)), (2, .int (nI (cn (fun k9 => F 1 (gt (L (F 3 h)) k9) = w ∧ F 3 (gt (L (F 3 h)) k9) = 0) i)))]) (fun i hb_2 hJ_3 ih_1 ls hl => ?_) 0 (Nat.zero_le _) trivial ls (lv_sub hl [2, 3, 0, 1] rfl)
  have hle_i := cn_le (fun i => F 1 (gt (L (F 3 h)) i) = w ∧ F 3 (gt (L (F 3 h)) i) = 0) i
  refine lv_iload_n hx hb dX8_openAbout_4 rfl (lv_at hl 2 rfl) ?_
  refine lv_aload_n hx hb dX8_openAbout_5 rfl (lv_at hl 0 rfl) ?_
  have hm_4 : (h, .inr (9, [.ref (F 0 h), .ref (F 1 h), .ref (F 2 h), .ref (F 3 h), .ref (F 4 h), .int (nI (F 5 h))])) ∈ ws := hC.at hk_h (by decide) (by decide)
  refine c_get (C := RX8) (T := TX8) (N := 6) hx hb hts hin_X8 hown hK hP hm_4 rfl 3 (by decide) l_23 (fun _ h9 => h9) rfl dX8_openAbout_6 ?_
  have hk_5 : kd (F 3 h) = 25 := hW.ref (f := 3) hk_h rfl (by decide)
  have hl_6 : (L (F 3 h)).length ≤ 60 := hW.len hk_5 (by decide)
  obtain ⟨fs_hm_7, hm_7⟩ := hC.obj hk_5 (by decide)
  refine vp_callSi (W.runV (As := []) (rest := [.int (nI i)]) ⟨hx, hb, hml, hown, hts⟩ ((cl_size l D cI cO cb eA mi st ws hD (F 3 h) (L (F 3 h)) (hC.lst hk_5 (by decide)))) (cwV 0 hts gX8_openAbout_Jx4a65c_size_8abf5 rfl rfl rfl kd_Jx4a65c_size_8abf5 ⟨Nat.le_of_ble_eq_true rfl, Nat.le_of_ble_eq_true rfl⟩) ⟨cB_blind, c_recv hK hP rfl hm_7, cB_pre hK hG hA hS hP _⟩ rfl rfl hl.1 rfl (lv_room (Nat.le_of_ble_eq_true rfl)) dX8_openAbout_9 ⟨Nat.le_of_ble_eq_true rfl, Nat.le_of_ble_eq_true rfl⟩) (fun r_8 hr_8 => ?_)
  subst hr_8
  refine n_icmp_ge (tgt := 54) hx hb dX8_openAbout_12 (by decide) (by omega) (by omega) (fun c_9 => ?_) (fun c_9 => ?_)
  · refine lv_iload_n hx hb dX8_openAbout_54 rfl (lv_at hl 3 rfl) ?_
    exact W.iret (v := nI (cn (fun k9 => F 1 (gt (L (F 3 h)) k9) = w ∧ F 3 (gt (L (F 3 h)) k9) = 0) i)) hx hb hr (fun U9 ht hW9 => ⟨_, rfl, congrArg nI (show cn (fun k9 => F 1 (gt (L (F 3 h)) k9) = w ∧ F 3 (gt (L (F 3 h)) k9) = 0) i = kOpen F L h w from by unfold kOpen; rw [show (L (F 3 h)).length = i by omega]), ht⟩) (fun _ h => by cases h) dX8_openAbout_55
  · refine lv_aload_n hx hb dX8_openAbout_15 rfl (lv_at hl 0 rfl) ?_
    refine c_get (C := RX8) (T := TX8) (N := 6) hx hb hts hin_X8 hown hK hP hm_4 rfl 3 (by decide) l_23 (fun _ h9 => h9) rfl dX8_openAbout_16 ?_
    refine lv_iload_n hx hb dX8_openAbout_19 rfl (lv_at hl 2 rfl) ?_
    obtain ⟨fs_hm_10, hm_10⟩ := hC.obj hk_5 (by decide)
    refine va_csr (W.runV (As := [.int (nI i)]) (rest := []) ⟨hx, hb, hml, hown, hts⟩ ((cl_get l D cI cO cb eA mi st ws hD (F 3 h) (L (F 3 h)) (hC.lst hk_5 (by decide)) i (gt (L (F 3 h)) i) (gt_some (by omega)))) (cwV 1 hts gX8_openAbout_Jx4a65c_get_915e3 rfl rfl rfl kd_Jx4a65c_get_915e3 ⟨Nat.le_of_ble_eq_true rfl, Nat.le_of_ble_eq_true rfl⟩) ⟨cB_blind, c_recv hK hP rfl hm_10, cB_pre hK hG hA hS hP _⟩ rfl rfl hl.1 rfl (lv_room (Nat.le_of_ble_eq_true rfl)) dX8_openAbout_20 ⟨Nat.le_of_ble_eq_true rfl, Nat.le_of_ble_eq_true rfl⟩) (fun r_11 hr_11 => ?_)
    subst hr_11
    have hk_12 : kd (gt (L (F 3 h)) i) = 5 := hW.el hk_5 (by omega)
    have hm_13 : (gt (L (F 3 h)) i, .inr (5, [.int (nI (F 0 (gt (L (F 3 h)) i))), .ref (F 1 (gt (L (F 3 h)) i)), .int (nI (F 2 (gt (L (F 3 h)) i))), .int (nI (F 3 (gt (L (F 3 h)) i))), .int (nI (F 4 (gt (L (F 3 h)) i))), .int (nI (F 5 (gt (L (F 3 h)) i)))])) ∈ ws := hC.at hk_12 (by decide) (by decide)
    refine va_castE hx hb hown (hts (.classLink RX8 191 "TenderHall$Complaint") (List.mem_of_getElem? (i := 2) rfl)) (c_recv hK hP (ci := 5) rfl hm_13) dX8_openAbout_23 ?_
    refine lv_astore (lv' := [(4, .ref (gt (L (F 3 h)) i)), (0, .ref h), (1, .ref w), (3, .int (nI i)), (2, .int (nI (cn (fun k9 => F 1 (gt (L (F 3 h)) k9) = w ∧ F 3 (gt (L (F 3 h)) k9) = 0) i)))]) hx hb dX8_openAbout_26 hl (by decide) rfl (fun ls hl => ?_)
    refine lv_aload hx hb dX8_openAbout_28 (lv_at hl 0 rfl) ?_
    refine c_get (C := RX3) (T := TX3) (N := 6) hx hb hts hin_X3 hown hK hP hm_13 rfl 1 (by decide) l_213 (fun _ h9 => h9) rfl dX8_openAbout_30 ?_
    have hk_14 : kd (F 1 (gt (L (F 3 h)) i)) = 2 := hW.ref (f := 1) hk_12 rfl (by decide)
    refine lv_aload_n hx hb dX8_openAbout_33 rfl (lv_at hl 2 rfl) ?_
    refine r_acmp_ne (tgt := 48) hx hb dX8_openAbout_34 (by decide)  (fun c_15 => ?_) (fun c_15 => ?_)
    · refine n_iinc (k := 3) (lv' := [(3, .int (nI (i + 1))), (4, .ref (gt (L (F 3 h)) i)), (0, .ref h), (1, .ref w), (2, .int (nI (cn (fun k9 => F 1 (gt (L (F 3 h)) k9) = w ∧ F 3 (gt (L (F 3 h)) k9) = 0) i)))]) hx hb dX8_openAbout_48 hl rfl (by decide) rfl (fun ls hl => ?_)
      refine lv_goto (tgt := 4) hx hb dX8_openAbout_51 (by decide) ?_
      have e_16 : cn (fun k9 => F 1 (gt (L (F 3 h)) k9) = w ∧ F 3 (gt (L (F 3 h)) k9) = 0) (i + 1) = cn (fun k9 => F 1 (gt (L (F 3 h)) k9) = w ∧ F 3 (gt (L (F 3 h)) k9) = 0) i := by first | (exfalso; omega) | (rw [cn, if_pos (by omega)]; done) | (rw [cn, if_neg (by omega)]; try rfl)
      refine ih_1 (by omega) trivial ls ?_
      show lv_has ls 5 [(0, .ref h), (1, .ref w), (3, .int (nI (i + 1))), (2, .int (nI (cn (fun k9 => F 1 (gt (L (F 3 h)) k9) = w ∧ F 3 (gt (L (F 3 h)) k9) = 0) (i + 1))))]
      rw [e_16]
      exact lv_sub hl [2, 3, 0, 4] rfl
    · refine lv_aload hx hb dX8_openAbout_37 (lv_at hl 0 rfl) ?_
      refine c_get (C := RX3) (T := TX3) (N := 6) hx hb hts hin_X3 hown hK hP hm_13 rfl 3 (by decide) l_200 (fun _ h9 => h9) rfl dX8_openAbout_39 ?_
      have hn_17 : F 3 (gt (L (F 3 h)) i) < 4 := hW.num (f := 3) hk_12 rfl (by decide)
      refine n_if_ne (tgt := 48) hx hb dX8_openAbout_42 (by decide) (by omega) (fun c_18 => ?_) (fun c_18 => ?_)
      · refine n_iinc (k := 3) (lv' := [(3, .int (nI (i + 1))), (4, .ref (gt (L (F 3 h)) i)), (0, .ref h), (1, .ref w), (2, .int (nI (cn (fun k9 => F 1 (gt (L (F 3 h)) k9) = w ∧ F 3 (gt (L (F 3 h)) k9) = 0) i)))]) hx hb dX8_openAbout_48 hl rfl (by decide) rfl (fun ls hl => ?_)
        refine lv_goto (tgt := 4) hx hb dX8_openAbout_51 (by decide) ?_
        have e_19 : cn (fun k9 => F 1 (gt (L (F 3 h)) k9) = w ∧ F 3 (gt (L (F 3 h)) k9) = 0) (i + 1) = cn (fun k9 => F 1 (gt (L (F 3 h)) k9) = w ∧ F 3 (gt (L (F 3 h)) k9) = 0) i := by first | (exfalso; omega) | (rw [cn, if_pos (by omega)]; done) | (rw [cn, if_neg (by omega)]; try rfl)
        refine ih_1 (by omega) trivial ls ?_
        show lv_has ls 5 [(0, .ref h), (1, .ref w), (3, .int (nI (i + 1))), (2, .int (nI (cn (fun k9 => F 1 (gt (L (F 3 h)) k9) = w ∧ F 3 (gt (L (F 3 h)) k9) = 0) (i + 1))))]
        rw [e_19]
        exact lv_sub hl [2, 3, 0, 4] rfl
      · refine n_iinc (k := 4) (lv' := [(2, .int (nI (cn (fun k9 => F 1 (gt (L (F 3 h)) k9) = w ∧ F 3 (gt (L (F 3 h)) k9) = 0) i + 1))), (4, .ref (gt (L (F 3 h)) i)), (0, .ref h), (1, .ref w), (3, .int (nI i))]) hx hb dX8_openAbout_45 hl rfl (by decide) rfl (fun ls hl => ?_)
        refine n_iinc (k := 4) (lv' := [(3, .int (nI (i + 1))), (2, .int (nI (cn (fun k9 => F 1 (gt (L (F 3 h)) k9) = w ∧ F 3 (gt (L (F 3 h)) k9) = 0) i + 1))), (4, .ref (gt (L (F 3 h)) i)), (0, .ref h), (1, .ref w)]) hx hb dX8_openAbout_48 hl rfl (by decide) rfl (fun ls hl => ?_)
        refine lv_goto (tgt := 4) hx hb dX8_openAbout_51 (by decide) ?_
        have e_20 : cn (fun k9 => F 1 (gt (L (F 3 h)) k9) = w ∧ F 3 (gt (L (F 3 h)) k9) = 0) (i + 1) = cn (fun k9 => F 1 (gt (L (F 3 h)) k9) = w ∧ F 3 (gt (L (F 3 h)) k9) = 0) i + 1 := by first | (exfalso; omega) | (rw [cn, if_pos (by omega)]; done) | (rw [cn, if_neg (by omega)]; try rfl)
        refine ih_1 (by omega) trivial ls ?_
        show lv_has ls 5 [(0, .ref h), (1, .ref w), (3, .int (nI (i + 1))), (2, .int (nI (cn (fun k9 => F 1 (gt (L (F 3 h)) k9) = w ∧ F 3 (gt (L (F 3 h)) k9) = 0) (i + 1))))]
        rw [e_20]
        exact lv_sub hl [3, 4, 0, 1] rfl
set_option maxHeartbeats 4000000 in
set_option maxRecDepth 100000 in
theorem ck_standingAward (l : Launch) (D : va_G) (cI cO cb : ClassId) (eA mi : Nat) (st : Nat → Nat) {A : Nat → Prop} (ws : va_W) (hD : va_D A ws) {own kd : Nat → Nat} {F : Nat → Nat → Nat} {L : Nat → List Nat} (hC : CW cI cO eA st own kd F L ws) (hW : WF kd F L) (hs : sInj st)  (h : Nat) (hk_h : kd h = 9) (a : Nat) (hk_a : kd a = 7) : Met l yX8_standingAward wsX8_standingAward ({ frames := 3, cells := 0, slots := 0, locals := 64 }) (va_Pc [.ref h, .ref a] (cB D cI cO cb eA mi st A ws)) (va_Sq (fun ri => ri = kStand F L h a)) 0 0 (fun _ => False) := by
  refine Met.ofW (cc := cX8_standingAward) (maxL := 4) (ret := (some (.object "TenderHall$Award"))) (by decide) rfl ?_
  intro p e s m args below meth c s₁ B hml hv
  obtain ⟨rfl, hP, hK, hG, hA⟩ := hv
  have hx := B.exec
  have hb := B.bytes
  have hr := B.returns
  have hts := atoms_spec (ws := wsX8_standingAward) B.pre
  have hown : s.vm.findClass RX8 = some m.cls := findClass_of_methodNamed B.named
  have hlocks := B.notSynchronized
  have hin_X0 : ∀ w ∈ wsX00, w ∈ wsX8_standingAward := fun w h => List.mem_cons_of_mem _ (List.mem_append_left _ (List.mem_append_right _ h))
  have hin_X8 : ∀ w ∈ wsX80, w ∈ wsX8_standingAward := fun w h => List.mem_cons_of_mem _ (List.mem_append_left _ (List.mem_append_left _ (List.mem_append_right _ h)))
  have l_20 := (hts (.fieldLink RX8 20 "TenderHall" "awards" "Ljava/util/ArrayList;") (List.mem_of_getElem? (i := 1) rfl))
  have l_251 := (hts (.fieldLink RX8 251 "TenderHall$Award" "lot" "LTenderHall$Lot;") (List.mem_of_getElem? (i := 3) rfl))
  have l_159 := (hts (.fieldLink RX8 159 "TenderHall$Award" "voided" "Z") (List.mem_of_getElem? (i := 4) rfl))
  have hS : va_S A s.heap s.heap [] := va_S.rf
  have hD0 := hD
  have hl := lv_entry ([.ref h, .ref a]) (n := 4) (Nat.le_of_ble_eq_true rfl)
  rw [lg_entry_eq]
  generalize (lg_sl ([.ref h, .ref a]) ++ List.replicate (4 - (lg_sl ([.ref h, .ref a])).length) Slot.unset).toArray = ls at hl ⊢
  have hl : lv_has ls 4 [(0, .ref h), (1, .ref a)] := hl
  have hk3 : kd (F 2 h) = 22 := hW.ref hk_h rfl (by decide)
  have hl3 : (L (F 2 h)).length ≤ 60 := hW.len hk3 (by decide)
  refine lv_iconst (v := nI 0) hx hb dX8_standingAward_0 (by decide) ?_
  refine lv_istore_n (lv' := [(2, .int (nI 0)), (0, .ref h), (1, .ref a)]) hx hb dX8_standingAward_1 rfl hl (by decide) rfl (fun ls hl => ?_)
  refine w_loopJ (n := (L (F 2 h)).length) (nL := 4) (fun i => nall (fun j => F 1 (gt (L (F 2 h)) j) = a ∧ F 4 (gt (L (F 2 h)) j) = 0) i) (fun i => [(0, .ref h), (1, .ref a), (2, .int (nI i))]) (fun i hb_2 hJ_3 ih_1 ls hl => ?_) 0 (Nat.zero_le _) nall.zero ls (lv_sub hl [1, 2, 0] rfl)
  refine lv_iload_n hx hb dX8_standingAward_2 rfl (lv_at hl 2 rfl) ?_
  refine lv_aload_n hx hb dX8_standingAward_3 rfl (lv_at hl 0 rfl) ?_
  have hm_4 : (h, .inr (9, [.ref (F 0 h), .ref (F 1 h), .ref (F 2 h), .ref (F 3 h), .ref (F 4 h), .int (nI (F 5 h))])) ∈ ws := hC.at hk_h (by decide) (by decide)
  refine c_get (C := RX8) (T := TX8) (N := 6) hx hb hts hin_X8 hown hK hP hm_4 rfl 2 (by decide) l_20 (fun _ h9 => h9) rfl dX8_standingAward_4 ?_
  have hk_5 : kd (F 2 h) = 22 := hW.ref (f := 2) hk_h rfl (by decide)
  have hl_6 : (L (F 2 h)).length ≤ 60 := hW.len hk_5 (by decide)
  obtain ⟨fs_hm_7, hm_7⟩ := hC.obj hk_5 (by decide)
  refine vp_callSi (W.runV (As := []) (rest := [.int (nI i)]) ⟨hx, hb, hml, hown, hts⟩ ((cl_size l D cI cO cb eA mi st ws hD (F 2 h) (L (F 2 h)) (hC.lst hk_5 (by decide)))) (cwV 0 hts gX8_standingAward_Jx4a65c_size_8abf5 rfl rfl rfl kd_Jx4a65c_size_8abf5 ⟨Nat.le_of_ble_eq_true rfl, Nat.le_of_ble_eq_true rfl⟩) ⟨cB_blind, c_recv hK hP rfl hm_7, cB_pre hK hG hA hS hP _⟩ rfl rfl hl.1 rfl (lv_room (Nat.le_of_ble_eq_true rfl)) dX8_standingAward_7 ⟨Nat.le_of_ble_eq_true rfl, Nat.le_of_ble_eq_true rfl⟩) (fun r_8 hr_8 => ?_)
  subst hr_8
  refine n_icmp_ge (tgt := 48) hx hb dX8_standingAward_10 (by decide) (by omega) (by omega) (fun c_9 => ?_) (fun c_9 => ?_)
  · refine lv_null hx hb dX8_standingAward_48 ?_
    exact W.aret hx hb hr (Or.inl ⟨_, rfl⟩) (Or.inl rfl) (fun U9 ht hW9 => ⟨none, rfl, (show none = kStand F L h a from by unfold kStand; rw [fr_no hJ_3 c_9]; rfl), ht⟩) (fun _ h => by cases h) dX8_standingAward_49
  · refine lv_aload_n hx hb dX8_standingAward_13 rfl (lv_at hl 0 rfl) ?_
    refine c_get (C := RX8) (T := TX8) (N := 6) hx hb hts hin_X8 hown hK hP hm_4 rfl 2 (by decide) l_20 (fun _ h9 => h9) rfl dX8_standingAward_14 ?_
    refine lv_iload_n hx hb dX8_standingAward_17 rfl (lv_at hl 2 rfl) ?_
    obtain ⟨fs_hm_10, hm_10⟩ := hC.obj hk_5 (by decide)
    refine va_csr (W.runV (As := [.int (nI i)]) (rest := []) ⟨hx, hb, hml, hown, hts⟩ ((cl_get l D cI cO cb eA mi st ws hD (F 2 h) (L (F 2 h)) (hC.lst hk_5 (by decide)) i (gt (L (F 2 h)) i) (gt_some (by omega)))) (cwV 1 hts gX8_standingAward_Jx4a65c_get_915e3 rfl rfl rfl kd_Jx4a65c_get_915e3 ⟨Nat.le_of_ble_eq_true rfl, Nat.le_of_ble_eq_true rfl⟩) ⟨cB_blind, c_recv hK hP rfl hm_10, cB_pre hK hG hA hS hP _⟩ rfl rfl hl.1 rfl (lv_room (Nat.le_of_ble_eq_true rfl)) dX8_standingAward_18 ⟨Nat.le_of_ble_eq_true rfl, Nat.le_of_ble_eq_true rfl⟩) (fun r_11 hr_11 => ?_)
    subst hr_11
    have hk_12 : kd (gt (L (F 2 h)) i) = 2 := hW.el hk_5 (by omega)
    have hm_13 : (gt (L (F 2 h)) i, .inr (2, [.int (nI (F 0 (gt (L (F 2 h)) i))), .ref (F 1 (gt (L (F 2 h)) i)), .ref (F 2 (gt (L (F 2 h)) i)), .int (nI (F 3 (gt (L (F 2 h)) i))), .int (nI (F 4 (gt (L (F 2 h)) i))), .int (nI (F 5 (gt (L (F 2 h)) i))), .int (nI (F 6 (gt (L (F 2 h)) i)))])) ∈ ws := hC.at hk_12 (by decide) (by decide)
    refine va_castE hx hb hown (hts (.classLink RX8 144 "TenderHall$Award") (List.mem_of_getElem? (i := 2) rfl)) (c_recv hK hP (ci := 2) rfl hm_13) dX8_standingAward_21 ?_
    refine lv_astore_n (lv' := [(3, .ref (gt (L (F 2 h)) i)), (0, .ref h), (1, .ref a), (2, .int (nI i))]) hx hb dX8_standingAward_24 rfl hl (by decide) rfl (fun ls hl => ?_)
    refine lv_aload_n hx hb dX8_standingAward_25 rfl (lv_at hl 0 rfl) ?_
    refine c_get (C := RX0) (T := TX0) (N := 7) hx hb hts hin_X0 hown hK hP hm_13 rfl 1 (by decide) l_251 (fun _ h9 => h9) rfl dX8_standingAward_26 ?_
    have hk_14 : kd (F 1 (gt (L (F 2 h)) i)) = 7 := hW.ref (f := 1) hk_12 rfl (by decide)
    refine lv_aload_n hx hb dX8_standingAward_29 rfl (lv_at hl 2 rfl) ?_
    refine r_acmp_ne (tgt := 42) hx hb dX8_standingAward_30 (by decide)  (fun c_15 => ?_) (fun c_15 => ?_)
    · refine n_iinc (k := 3) (lv' := [(2, .int (nI (i + 1))), (3, .ref (gt (L (F 2 h)) i)), (0, .ref h), (1, .ref a)]) hx hb dX8_standingAward_42 hl rfl (by decide) rfl (fun ls hl => ?_)
      refine lv_goto (tgt := 2) hx hb dX8_standingAward_45 (by decide) ?_
      refine ih_1 (by omega) (hJ_3.succ (fun q9 => by omega)) ls ?_
      show lv_has ls 4 [(0, .ref h), (1, .ref a), (2, .int (nI (i + 1)))]
      exact lv_sub hl [2, 3, 0] rfl
    · refine lv_aload_n hx hb dX8_standingAward_33 rfl (lv_at hl 0 rfl) ?_
      refine c_get (C := RX0) (T := TX0) (N := 7) hx hb hts hin_X0 hown hK hP hm_13 rfl 4 (by decide) l_159 (fun _ h9 => h9) rfl dX8_standingAward_34 ?_
      have hn_16 : F 4 (gt (L (F 2 h)) i) < 2 := hW.num (f := 4) hk_12 rfl (by decide)
      refine n_if_ne (tgt := 42) hx hb dX8_standingAward_37 (by decide) (by omega) (fun c_17 => ?_) (fun c_17 => ?_)
      · refine n_iinc (k := 3) (lv' := [(2, .int (nI (i + 1))), (3, .ref (gt (L (F 2 h)) i)), (0, .ref h), (1, .ref a)]) hx hb dX8_standingAward_42 hl rfl (by decide) rfl (fun ls hl => ?_)
        refine lv_goto (tgt := 2) hx hb dX8_standingAward_45 (by decide) ?_
        refine ih_1 (by omega) (hJ_3.succ (fun q9 => by omega)) ls ?_
        show lv_has ls 4 [(0, .ref h), (1, .ref a), (2, .int (nI (i + 1)))]
        exact lv_sub hl [2, 3, 0] rfl
      · refine lv_aload_n hx hb dX8_standingAward_40 rfl (lv_at hl 0 rfl) ?_
        exact W.aret hx hb hr (Or.inl ⟨_, rfl⟩) (Or.inr ⟨_, rfl⟩) (fun U9 ht hW9 => ⟨some (gt (L (F 2 h)) i), rfl, (show some (gt (L (F 2 h)) i) = kStand F L h a from by unfold kStand; rw [fr_some hJ_3 (by omega) ⟨by assumption, by assumption⟩]; rfl), ht⟩) (fun _ h => by cases h) dX8_standingAward_41
set_option maxHeartbeats 4000000 in
set_option maxRecDepth 100000 in
theorem ck_hasBecomeFinal (l : Launch) (D : va_G) (cI cO cb : ClassId) (eA mi : Nat) (st : Nat → Nat) {A : Nat → Prop} (ws : va_W) (hD : va_D A ws) {own kd : Nat → Nat} {F : Nat → Nat → Nat} {L : Nat → List Nat} (hC : CW cI cO eA st own kd F L ws) (hW : WF kd F L) (hs : sInj st)  (h : Nat) (hk_h : kd h = 9) (w : Nat) (hk_w : kd w = 2) : Met l yX8_hasBecomeFinal wsX8_hasBecomeFinal ({ frames := 4, cells := 0, slots := 0, locals := 88 }) (va_Pc [.ref h, .ref w] (cB D cI cO cb eA mi st A ws)) (vp_Si (fun ri => ri = bi (decide (kFin F L h w)))) 0 0 (fun _ => False) := by
  refine Met.ofW (cc := cX8_hasBecomeFinal) (maxL := 2) (ret := (some .boolean)) (by decide) rfl ?_
  intro p e s m args below meth c s₁ B hml hv
  obtain ⟨rfl, hP, hK, hG, hA⟩ := hv
  have hx := B.exec
  have hb := B.bytes
  have hr := B.returns
  have hts := atoms_spec (ws := wsX8_hasBecomeFinal) B.pre
  have hown : s.vm.findClass RX8 = some m.cls := findClass_of_methodNamed B.named
  have hlocks := B.notSynchronized
  have hin_X0 : ∀ w ∈ wsX00, w ∈ wsX8_hasBecomeFinal := fun w h => List.mem_cons_of_mem _ (List.mem_append_left _ (List.mem_append_left _ (List.mem_append_left _ (List.mem_append_right _ h))))
  have hin_X8 : ∀ w ∈ wsX80, w ∈ wsX8_hasBecomeFinal := fun w h => List.mem_cons_of_mem _ (List.mem_append_left _ (List.mem_append_left _ (List.mem_append_right _ h)))
  have l_159 := (hts (.fieldLink RX8 159 "TenderHall$Award" "voided" "Z") (List.mem_of_getElem? (i := 1) rfl))
  have l_29 := (hts (.fieldLink RX8 29 "TenderHall" "day" "I") (List.mem_of_getElem? (i := 2) rfl))
  have l_184 := (hts (.fieldLink RX8 184 "TenderHall$Award" "finalFrom" "I") (List.mem_of_getElem? (i := 3) rfl))
  have hS : va_S A s.heap s.heap [] := va_S.rf
  have hD0 := hD
  have hl := lv_entry ([.ref h, .ref w]) (n := 2) (Nat.le_of_ble_eq_true rfl)
  rw [lg_entry_eq]
  generalize (lg_sl ([.ref h, .ref w]) ++ List.replicate (2 - (lg_sl ([.ref h, .ref w])).length) Slot.unset).toArray = ls at hl ⊢
  have hl : lv_has ls 2 [(0, .ref h), (1, .ref w)] := hl
  refine lv_aload_n hx hb dX8_hasBecomeFinal_0 rfl (lv_at hl 1 rfl) ?_
  have hm_1 : (w, .inr (2, [.int (nI (F 0 w)), .ref (F 1 w), .ref (F 2 w), .int (nI (F 3 w)), .int (nI (F 4 w)), .int (nI (F 5 w)), .int (nI (F 6 w))])) ∈ ws := hC.at hk_w (by decide) (by decide)
  refine c_get (C := RX0) (T := TX0) (N := 7) hx hb hts hin_X0 hown hK hP hm_1 rfl 4 (by decide) l_159 (fun _ h9 => h9) rfl dX8_hasBecomeFinal_1 ?_
  have hn_2 : F 4 w < 2 := hW.num (f := 4) hk_w rfl (by decide)
  refine n_if_ne (tgt := 30) hx hb dX8_hasBecomeFinal_4 (by decide) (by omega) (fun c_3 => ?_) (fun c_3 => ?_)
  · refine lv_iconst (v := nI 0) hx hb dX8_hasBecomeFinal_30 (by decide) ?_
    exact W.zret (v := nI 0) hx hb hr rfl (fun U9 ht hW9 => ⟨_, rfl, bi_zero (by first | (rw [decide_eq_true_eq]; exact ⟨by omega, by omega, by omega⟩) | (rw [decide_eq_false_iff_not]; rintro ⟨q1, q2, q3⟩; omega)), ht⟩) (fun _ h => by cases h) dX8_hasBecomeFinal_31
  · refine lv_aload_n hx hb dX8_hasBecomeFinal_7 rfl (lv_at hl 0 rfl) ?_
    have hm_4 : (h, .inr (9, [.ref (F 0 h), .ref (F 1 h), .ref (F 2 h), .ref (F 3 h), .ref (F 4 h), .int (nI (F 5 h))])) ∈ ws := hC.at hk_h (by decide) (by decide)
    refine c_get (C := RX8) (T := TX8) (N := 6) hx hb hts hin_X8 hown hK hP hm_4 rfl 5 (by decide) l_29 (fun _ h9 => h9) rfl dX8_hasBecomeFinal_8 ?_
    have hn_5 : F 5 h < 2001 := hW.num (f := 5) hk_h rfl (by decide)
    refine lv_aload_n hx hb dX8_hasBecomeFinal_11 rfl (lv_at hl 1 rfl) ?_
    refine c_get (C := RX0) (T := TX0) (N := 7) hx hb hts hin_X0 hown hK hP hm_1 rfl 3 (by decide) l_184 (fun _ h9 => h9) rfl dX8_hasBecomeFinal_12 ?_
    have hn_6 : F 3 w < 3000 := hW.num (f := 3) hk_w rfl (by decide)
    refine n_icmp_lt (tgt := 30) hx hb dX8_hasBecomeFinal_15 (by decide) (by omega) (by omega) (fun c_7 => ?_) (fun c_7 => ?_)
    · refine lv_iconst (v := nI 0) hx hb dX8_hasBecomeFinal_30 (by decide) ?_
      exact W.zret (v := nI 0) hx hb hr rfl (fun U9 ht hW9 => ⟨_, rfl, bi_zero (by first | (rw [decide_eq_true_eq]; exact ⟨by omega, by omega, by omega⟩) | (rw [decide_eq_false_iff_not]; rintro ⟨q1, q2, q3⟩; omega)), ht⟩) (fun _ h => by cases h) dX8_hasBecomeFinal_31
    · refine lv_aload_n hx hb dX8_hasBecomeFinal_18 rfl (lv_at hl 0 rfl) ?_
      refine lv_aload_n hx hb dX8_hasBecomeFinal_19 rfl (lv_at hl 1 rfl) ?_
      refine vp_callSi (W.runV (As := [.ref w]) (rest := []) ⟨hx, hb, hml, hown, hts⟩ (ck_openAbout l D cI cO cb eA mi st ws hD hC hW hs h hk_h w hk_w) (cwV 1 hts gX8_hasBecomeFinal_X8_openAbout rfl rfl rfl kd_X8_openAbout ⟨Nat.le_of_ble_eq_true rfl, Nat.le_of_ble_eq_true rfl⟩) ⟨cB_blind, c_recv hK hP rfl hm_4, cB_pre hK hG hA hS hP _⟩ rfl rfl hl.1 rfl (lv_room (Nat.le_of_ble_eq_true rfl)) dX8_hasBecomeFinal_20 ⟨Nat.le_of_ble_eq_true rfl, Nat.le_of_ble_eq_true rfl⟩) (fun r_8 hr_8 => ?_)
      subst hr_8
      have hn_9 : kOpen F L h w ≤ 60 := kOpen_le hW (by assumption)
      refine n_if_ne (tgt := 30) hx hb dX8_hasBecomeFinal_23 (by decide) (by omega) (fun c_10 => ?_) (fun c_10 => ?_)
      · refine lv_iconst (v := nI 0) hx hb dX8_hasBecomeFinal_30 (by decide) ?_
        exact W.zret (v := nI 0) hx hb hr rfl (fun U9 ht hW9 => ⟨_, rfl, bi_zero (by first | (rw [decide_eq_true_eq]; exact ⟨by omega, by omega, by omega⟩) | (rw [decide_eq_false_iff_not]; rintro ⟨q1, q2, q3⟩; omega)), ht⟩) (fun _ h => by cases h) dX8_hasBecomeFinal_31
      · refine lv_iconst (v := nI 1) hx hb dX8_hasBecomeFinal_26 (by decide) ?_
        refine lv_goto (tgt := 31) hx hb dX8_hasBecomeFinal_27 (by decide) ?_
        exact W.zret (v := nI 1) hx hb hr rfl (fun U9 ht hW9 => ⟨_, rfl, bi_one (by first | (rw [decide_eq_true_eq]; exact ⟨by omega, by omega, by omega⟩) | (rw [decide_eq_false_iff_not]; rintro ⟨q1, q2, q3⟩; omega)), ht⟩) (fun _ h => by cases h) dX8_hasBecomeFinal_31
set_option maxHeartbeats 4000000 in
set_option maxRecDepth 100000 in
theorem ck_isOpened (l : Launch) (D : va_G) (cI cO cb : ClassId) (eA mi : Nat) (st : Nat → Nat) {A : Nat → Prop} (ws : va_W) (hD : va_D A ws) {own kd : Nat → Nat} {F : Nat → Nat → Nat} {L : Nat → List Nat} (hC : CW cI cO eA st own kd F L ws) (hW : WF kd F L) (hs : sInj st)  (h : Nat) (hk_h : kd h = 9) (t : Nat) (hk_t : kd t = 8) : Met l yX8_isOpened wsX8_isOpened ({ frames := 0, cells := 0, slots := 0, locals := 0 }) (va_Pc [.ref h, .ref t] (cB D cI cO cb eA mi st A ws)) (vp_Si (fun ri => ri = bi (decide (F 1 t ≤ F 5 h)))) 0 0 (fun _ => False) := by
  refine Met.ofW (cc := cX8_isOpened) (maxL := 2) (ret := (some .boolean)) (by decide) rfl ?_
  intro p e s m args below meth c s₁ B hml hv
  obtain ⟨rfl, hP, hK, hG, hA⟩ := hv
  have hx := B.exec
  have hb := B.bytes
  have hr := B.returns
  have hts := atoms_spec (ws := wsX8_isOpened) B.pre
  have hown : s.vm.findClass RX8 = some m.cls := findClass_of_methodNamed B.named
  have hlocks := B.notSynchronized
  have hin_X7 : ∀ w ∈ wsX70, w ∈ wsX8_isOpened := fun w h => List.mem_cons_of_mem _ (List.mem_append_right _ h)
  have hin_X8 : ∀ w ∈ wsX80, w ∈ wsX8_isOpened := fun w h => List.mem_cons_of_mem _ (List.mem_append_left _ (List.mem_append_right _ h))
  have l_29 := (hts (.fieldLink RX8 29 "TenderHall" "day" "I") (List.mem_of_getElem? (i := 1) rfl))
  have l_255 := (hts (.fieldLink RX8 255 "TenderHall$Tender" "closing" "I") (List.mem_of_getElem? (i := 2) rfl))
  have hS : va_S A s.heap s.heap [] := va_S.rf
  have hD0 := hD
  have hl := lv_entry ([.ref h, .ref t]) (n := 2) (Nat.le_of_ble_eq_true rfl)
  rw [lg_entry_eq]
  generalize (lg_sl ([.ref h, .ref t]) ++ List.replicate (2 - (lg_sl ([.ref h, .ref t])).length) Slot.unset).toArray = ls at hl ⊢
  have hl : lv_has ls 2 [(0, .ref h), (1, .ref t)] := hl
  refine lv_aload_n hx hb dX8_isOpened_0 rfl (lv_at hl 0 rfl) ?_
  have hm_1 : (h, .inr (9, [.ref (F 0 h), .ref (F 1 h), .ref (F 2 h), .ref (F 3 h), .ref (F 4 h), .int (nI (F 5 h))])) ∈ ws := hC.at hk_h (by decide) (by decide)
  refine c_get (C := RX8) (T := TX8) (N := 6) hx hb hts hin_X8 hown hK hP hm_1 rfl 5 (by decide) l_29 (fun _ h9 => h9) rfl dX8_isOpened_1 ?_
  have hn_2 : F 5 h < 2001 := hW.num (f := 5) hk_h rfl (by decide)
  refine lv_aload_n hx hb dX8_isOpened_4 rfl (lv_at hl 1 rfl) ?_
  have hm_3 : (t, .inr (8, [.int (nI (F 0 t)), .int (nI (F 1 t)), .int (nI (F 2 t)), .int (nI (F 3 t)), .int (nI (F 4 t)), .ref (F 5 t)])) ∈ ws := hC.at hk_t (by decide) (by decide)
  refine c_get (C := RX7) (T := TX7) (N := 6) hx hb hts hin_X7 hown hK hP hm_3 rfl 1 (by decide) l_255 (fun _ h9 => h9) rfl dX8_isOpened_5 ?_
  have hn_4 : F 1 t < 1001 := hW.num (f := 1) hk_t rfl (by decide)
  refine n_icmp_lt (tgt := 15) hx hb dX8_isOpened_8 (by decide) (by omega) (by omega) (fun c_5 => ?_) (fun c_5 => ?_)
  · refine lv_iconst (v := nI 0) hx hb dX8_isOpened_15 (by decide) ?_
    exact W.zret (v := nI 0) hx hb hr rfl (fun U9 ht hW9 => ⟨_, rfl, bi_zero (by first | (rw [decide_eq_true_eq]; omega) | (rw [decide_eq_false_iff_not]; omega)), ht⟩) (fun _ h => by cases h) dX8_isOpened_16
  · refine lv_iconst (v := nI 1) hx hb dX8_isOpened_11 (by decide) ?_
    refine lv_goto (tgt := 16) hx hb dX8_isOpened_12 (by decide) ?_
    exact W.zret (v := nI 1) hx hb hr rfl (fun U9 ht hW9 => ⟨_, rfl, bi_one (by first | (rw [decide_eq_true_eq]; omega) | (rw [decide_eq_false_iff_not]; omega)), ht⟩) (fun _ h => by cases h) dX8_isOpened_16
set_option maxHeartbeats 4000000 in
set_option maxRecDepth 100000 in
theorem ck_hasComplained (l : Launch) (D : va_G) (cI cO cb : ClassId) (eA mi : Nat) (st : Nat → Nat) {A : Nat → Prop} (ws : va_W) (hD : va_D A ws) {own kd : Nat → Nat} {F : Nat → Nat → Nat} {L : Nat → List Nat} (hC : CW cI cO eA st own kd F L ws) (hW : WF kd F L) (hs : sInj st)  (h : Nat) (hk_h : kd h = 9) (b : Nat) (w : Nat) (hk_w : kd w = 2) (hb8 : b < 2 ^ 31) : Met l yX8_hasComplained wsX8_hasComplained ({ frames := 3, cells := 0, slots := 0, locals := 64 }) (va_Pc [.ref h, .int (nI b), .ref w] (cB D cI cO cb eA mi st A ws)) (vp_Si (fun ri => ri = bi (decide (kComp F L h b w)))) 0 0 (fun _ => False) := by
  refine Met.ofW (cc := cX8_hasComplained) (maxL := 5) (ret := (some .boolean)) (by decide) rfl ?_
  intro p e s m args below meth c s₁ B hml hv
  obtain ⟨rfl, hP, hK, hG, hA⟩ := hv
  have hx := B.exec
  have hb := B.bytes
  have hr := B.returns
  have hts := atoms_spec (ws := wsX8_hasComplained) B.pre
  have hown : s.vm.findClass RX8 = some m.cls := findClass_of_methodNamed B.named
  have hlocks := B.notSynchronized
  have hin_X3 : ∀ w ∈ wsX30, w ∈ wsX8_hasComplained := fun w h => List.mem_cons_of_mem _ (List.mem_append_left _ (List.mem_append_right _ h))
  have hin_X8 : ∀ w ∈ wsX80, w ∈ wsX8_hasComplained := fun w h => List.mem_cons_of_mem _ (List.mem_append_left _ (List.mem_append_left _ (List.mem_append_right _ h)))
  have l_23 := (hts (.fieldLink RX8 23 "TenderHall" "complaints" "Ljava/util/ArrayList;") (List.mem_of_getElem? (i := 1) rfl))
  have l_213 := (hts (.fieldLink RX8 213 "TenderHall$Complaint" "award" "LTenderHall$Award;") (List.mem_of_getElem? (i := 3) rfl))
  have l_310 := (hts (.fieldLink RX8 310 "TenderHall$Complaint" "bidder" "I") (List.mem_of_getElem? (i := 4) rfl))
  have hS : va_S A s.heap s.heap [] := va_S.rf
  have hD0 := hD
  have hl := lv_entry ([.ref h, .int (nI b), .ref w]) (n := 5) (Nat.le_of_ble_eq_true rfl)
  rw [lg_entry_eq]
  generalize (lg_sl ([.ref h, .int (nI b), .ref w]) ++ List.replicate (5 - (lg_sl ([.ref h, .int (nI b), .ref w])).length) Slot.unset).toArray = ls at hl ⊢
  have hl : lv_has ls 5 [(0, .ref h), (1, .int (nI b)), (2, .ref w)] := hl
  have hk3 : kd (F 3 h) = 25 := hW.ref hk_h rfl (by decide)
  have hl3 : (L (F 3 h)).length ≤ 60 := hW.len hk3 (by decide)
  refine lv_iconst (v := nI 0) hx hb dX8_hasComplained_0 (by decide) ?_
  refine lv_istore_n (lv' := [(3, .int (nI 0)), (0, .ref h), (1, .int (nI b)), (2, .ref w)]) hx hb dX8_hasComplained_1 rfl hl (by decide) rfl (fun ls hl => ?_)
  refine w_loopJ (n := (L (F 3 h)).length) (nL := 5) (fun i => nall (fun j => F 1 (gt (L (F 3 h)) j) = w ∧ F 0 (gt (L (F 3 h)) j) = b) i) (fun i => [(0, .ref h), (1, .int (nI b)), (2, .ref w), (3, .int (nI i))]) (fun i hb_2 hJ_3 ih_1 ls hl => ?_) 0 (Nat.zero_le _) nall.zero ls (lv_sub hl [1, 2, 3, 0] rfl)
  refine lv_iload_n hx hb dX8_hasComplained_2 rfl (lv_at hl 3 rfl) ?_
  refine lv_aload_n hx hb dX8_hasComplained_3 rfl (lv_at hl 0 rfl) ?_
  have hm_4 : (h, .inr (9, [.ref (F 0 h), .ref (F 1 h), .ref (F 2 h), .ref (F 3 h), .ref (F 4 h), .int (nI (F 5 h))])) ∈ ws := hC.at hk_h (by decide) (by decide)
  refine c_get (C := RX8) (T := TX8) (N := 6) hx hb hts hin_X8 hown hK hP hm_4 rfl 3 (by decide) l_23 (fun _ h9 => h9) rfl dX8_hasComplained_4 ?_
  have hk_5 : kd (F 3 h) = 25 := hW.ref (f := 3) hk_h rfl (by decide)
  have hl_6 : (L (F 3 h)).length ≤ 60 := hW.len hk_5 (by decide)
  obtain ⟨fs_hm_7, hm_7⟩ := hC.obj hk_5 (by decide)
  refine vp_callSi (W.runV (As := []) (rest := [.int (nI i)]) ⟨hx, hb, hml, hown, hts⟩ ((cl_size l D cI cO cb eA mi st ws hD (F 3 h) (L (F 3 h)) (hC.lst hk_5 (by decide)))) (cwV 0 hts gX8_hasComplained_Jx4a65c_size_8abf5 rfl rfl rfl kd_Jx4a65c_size_8abf5 ⟨Nat.le_of_ble_eq_true rfl, Nat.le_of_ble_eq_true rfl⟩) ⟨cB_blind, c_recv hK hP rfl hm_7, cB_pre hK hG hA hS hP _⟩ rfl rfl hl.1 rfl (lv_room (Nat.le_of_ble_eq_true rfl)) dX8_hasComplained_7 ⟨Nat.le_of_ble_eq_true rfl, Nat.le_of_ble_eq_true rfl⟩) (fun r_8 hr_8 => ?_)
  subst hr_8
  refine n_icmp_ge (tgt := 52) hx hb dX8_hasComplained_10 (by decide) (by omega) (by omega) (fun c_9 => ?_) (fun c_9 => ?_)
  · refine lv_iconst (v := nI 0) hx hb dX8_hasComplained_52 (by decide) ?_
    exact W.zret (v := nI 0) hx hb hr rfl (fun U9 ht hW9 => ⟨_, rfl, bi_zero (by rw [decide_eq_false_iff_not]; rintro ⟨j, q1, q2⟩; exact hJ_3 j (by omega) q2), ht⟩) (fun _ h => by cases h) dX8_hasComplained_53
  · refine lv_aload_n hx hb dX8_hasComplained_13 rfl (lv_at hl 0 rfl) ?_
    refine c_get (C := RX8) (T := TX8) (N := 6) hx hb hts hin_X8 hown hK hP hm_4 rfl 3 (by decide) l_23 (fun _ h9 => h9) rfl dX8_hasComplained_14 ?_
    refine lv_iload_n hx hb dX8_hasComplained_17 rfl (lv_at hl 3 rfl) ?_
    obtain ⟨fs_hm_10, hm_10⟩ := hC.obj hk_5 (by decide)
    refine va_csr (W.runV (As := [.int (nI i)]) (rest := []) ⟨hx, hb, hml, hown, hts⟩ ((cl_get l D cI cO cb eA mi st ws hD (F 3 h) (L (F 3 h)) (hC.lst hk_5 (by decide)) i (gt (L (F 3 h)) i) (gt_some (by omega)))) (cwV 1 hts gX8_hasComplained_Jx4a65c_get_915e3 rfl rfl rfl kd_Jx4a65c_get_915e3 ⟨Nat.le_of_ble_eq_true rfl, Nat.le_of_ble_eq_true rfl⟩) ⟨cB_blind, c_recv hK hP rfl hm_10, cB_pre hK hG hA hS hP _⟩ rfl rfl hl.1 rfl (lv_room (Nat.le_of_ble_eq_true rfl)) dX8_hasComplained_18 ⟨Nat.le_of_ble_eq_true rfl, Nat.le_of_ble_eq_true rfl⟩) (fun r_11 hr_11 => ?_)
    subst hr_11
    have hk_12 : kd (gt (L (F 3 h)) i) = 5 := hW.el hk_5 (by omega)
    have hm_13 : (gt (L (F 3 h)) i, .inr (5, [.int (nI (F 0 (gt (L (F 3 h)) i))), .ref (F 1 (gt (L (F 3 h)) i)), .int (nI (F 2 (gt (L (F 3 h)) i))), .int (nI (F 3 (gt (L (F 3 h)) i))), .int (nI (F 4 (gt (L (F 3 h)) i))), .int (nI (F 5 (gt (L (F 3 h)) i)))])) ∈ ws := hC.at hk_12 (by decide) (by decide)
    refine va_castE hx hb hown (hts (.classLink RX8 191 "TenderHall$Complaint") (List.mem_of_getElem? (i := 2) rfl)) (c_recv hK hP (ci := 5) rfl hm_13) dX8_hasComplained_21 ?_
    refine lv_astore (lv' := [(4, .ref (gt (L (F 3 h)) i)), (0, .ref h), (1, .int (nI b)), (2, .ref w), (3, .int (nI i))]) hx hb dX8_hasComplained_24 hl (by decide) rfl (fun ls hl => ?_)
    refine lv_aload hx hb dX8_hasComplained_26 (lv_at hl 0 rfl) ?_
    refine c_get (C := RX3) (T := TX3) (N := 6) hx hb hts hin_X3 hown hK hP hm_13 rfl 1 (by decide) l_213 (fun _ h9 => h9) rfl dX8_hasComplained_28 ?_
    have hk_14 : kd (F 1 (gt (L (F 3 h)) i)) = 2 := hW.ref (f := 1) hk_12 rfl (by decide)
    refine lv_aload_n hx hb dX8_hasComplained_31 rfl (lv_at hl 3 rfl) ?_
    refine r_acmp_ne (tgt := 46) hx hb dX8_hasComplained_32 (by decide)  (fun c_15 => ?_) (fun c_15 => ?_)
    · refine n_iinc (k := 4) (lv' := [(3, .int (nI (i + 1))), (4, .ref (gt (L (F 3 h)) i)), (0, .ref h), (1, .int (nI b)), (2, .ref w)]) hx hb dX8_hasComplained_46 hl rfl (by decide) rfl (fun ls hl => ?_)
      refine lv_goto (tgt := 2) hx hb dX8_hasComplained_49 (by decide) ?_
      refine ih_1 (by omega) (hJ_3.succ (fun q9 => by omega)) ls ?_
      show lv_has ls 5 [(0, .ref h), (1, .int (nI b)), (2, .ref w), (3, .int (nI (i + 1)))]
      exact lv_sub hl [2, 3, 4, 0] rfl
    · refine lv_aload hx hb dX8_hasComplained_35 (lv_at hl 0 rfl) ?_
      refine c_get (C := RX3) (T := TX3) (N := 6) hx hb hts hin_X3 hown hK hP hm_13 rfl 0 (by decide) l_310 (fun _ h9 => h9) rfl dX8_hasComplained_37 ?_
      have hn_16 : F 0 (gt (L (F 3 h)) i) < 8 := hW.num (f := 0) hk_12 rfl (by decide)
      refine lv_iload_n hx hb dX8_hasComplained_40 rfl (lv_at hl 2 rfl) ?_
      refine n_icmp_ne (tgt := 46) hx hb dX8_hasComplained_41 (by decide) (by omega) (by omega) (fun c_17 => ?_) (fun c_17 => ?_)
      · refine n_iinc (k := 4) (lv' := [(3, .int (nI (i + 1))), (4, .ref (gt (L (F 3 h)) i)), (0, .ref h), (1, .int (nI b)), (2, .ref w)]) hx hb dX8_hasComplained_46 hl rfl (by decide) rfl (fun ls hl => ?_)
        refine lv_goto (tgt := 2) hx hb dX8_hasComplained_49 (by decide) ?_
        refine ih_1 (by omega) (hJ_3.succ (fun q9 => by omega)) ls ?_
        show lv_has ls 5 [(0, .ref h), (1, .int (nI b)), (2, .ref w), (3, .int (nI (i + 1)))]
        exact lv_sub hl [2, 3, 4, 0] rfl
      · refine lv_iconst (v := nI 1) hx hb dX8_hasComplained_44 (by decide) ?_
        exact W.zret (v := nI 1) hx hb hr rfl (fun U9 ht hW9 => ⟨_, rfl, bi_one (by rw [decide_eq_true_eq]; exact ⟨i, by omega, by omega, by omega⟩), ht⟩) (fun _ h => by cases h) dX8_hasComplained_45
set_option maxHeartbeats 4000000 in
set_option maxRecDepth 100000 in
theorem ck_today (l : Launch) (D : va_G) (cI cO cb : ClassId) (eA mi : Nat) (st : Nat → Nat) {A : Nat → Prop} (ws : va_W) (hD : va_D A ws) {own kd : Nat → Nat} {F : Nat → Nat → Nat} {L : Nat → List Nat} (hC : CW cI cO eA st own kd F L ws) (hW : WF kd F L) (hs : sInj st)  (h : Nat) (hk_h : kd h = 9) : Met l yX8_today wsX8_today ({ frames := 0, cells := 0, slots := 0, locals := 0 }) (va_Pc [.ref h] (cB D cI cO cb eA mi st A ws)) (vp_Si (fun ri => ri = nI (F 5 h))) 0 0 (fun _ => False) := by
  refine Met.ofW (cc := cX8_today) (maxL := 1) (ret := (some .int)) (by decide) rfl ?_
  intro p e s m args below meth c s₁ B hml hv
  obtain ⟨rfl, hP, hK, hG, hA⟩ := hv
  have hx := B.exec
  have hb := B.bytes
  have hr := B.returns
  have hts := atoms_spec (ws := wsX8_today) B.pre
  have hown : s.vm.findClass RX8 = some m.cls := findClass_of_methodNamed B.named
  have hlocks := B.notSynchronized
  have hin_X8 : ∀ w ∈ wsX80, w ∈ wsX8_today := fun w h => List.mem_cons_of_mem _ (List.mem_append_right _ h)
  have l_29 := (hts (.fieldLink RX8 29 "TenderHall" "day" "I") (List.mem_of_getElem? (i := 1) rfl))
  have hS : va_S A s.heap s.heap [] := va_S.rf
  have hD0 := hD
  have hl := lv_entry ([.ref h]) (n := 1) (Nat.le_of_ble_eq_true rfl)
  rw [lg_entry_eq]
  generalize (lg_sl ([.ref h]) ++ List.replicate (1 - (lg_sl ([.ref h])).length) Slot.unset).toArray = ls at hl ⊢
  have hl : lv_has ls 1 [(0, .ref h)] := hl
  refine lv_aload_n hx hb dX8_today_0 rfl (lv_at hl 0 rfl) ?_
  have hm_1 : (h, .inr (9, [.ref (F 0 h), .ref (F 1 h), .ref (F 2 h), .ref (F 3 h), .ref (F 4 h), .int (nI (F 5 h))])) ∈ ws := hC.at hk_h (by decide) (by decide)
  refine c_get (C := RX8) (T := TX8) (N := 6) hx hb hts hin_X8 hown hK hP hm_1 rfl 5 (by decide) l_29 (fun _ h9 => h9) rfl dX8_today_1 ?_
  have hn_2 : F 5 h < 2001 := hW.num (f := 5) hk_h rfl (by decide)
  exact W.iret (v := nI (F 5 h)) hx hb hr (fun U9 ht hW9 => ⟨_, rfl, rfl, ht⟩) (fun _ h => by cases h) dX8_today_4
set_option maxHeartbeats 4000000 in
set_option maxRecDepth 100000 in
theorem ck_isOutside (l : Launch)   (v : Int32) (lo : Int32) (hi : Int32) : Met l yX8_isOutside wsX8_isOutside ({ frames := 0, cells := 0, slots := 0, locals := 0 }) (va_Pc [.int v, .int lo, .int hi] (fun _ => True)) (vp_Si (fun ri => ri = bi (decide (v < lo ∨ hi < v)))) 0 0 (fun _ => False) := by
  refine Met.ofW (cc := cX8_isOutside) (maxL := 3) (ret := (some .boolean)) (by decide) rfl ?_
  intro p e s m args below meth c s₁ B hml hv
  obtain ⟨rfl, -⟩ := hv
  have hx := B.exec
  have hb := B.bytes
  have hr := B.returns
  have hts := atoms_spec (ws := wsX8_isOutside) B.pre
  have hown : s.vm.findClass RX8 = some m.cls := findClass_of_methodNamed B.named
  have hlocks := B.notSynchronized
  have hl := lv_entry ([.int v, .int lo, .int hi]) (n := 3) (Nat.le_of_ble_eq_true rfl)
  rw [lg_entry_eq]
  generalize (lg_sl ([.int v, .int lo, .int hi]) ++ List.replicate (3 - (lg_sl ([.int v, .int lo, .int hi])).length) Slot.unset).toArray = ls at hl ⊢
  have hl : lv_has ls 3 [(0, .int v), (1, .int lo), (2, .int hi)] := hl
  refine lv_iload_n hx hb dX8_isOutside_0 rfl (lv_at hl 0 rfl) ?_
  refine lv_iload_n hx hb dX8_isOutside_1 rfl (lv_at hl 1 rfl) ?_
  refine lv_icmp_lt (tgt := 10) hx hb dX8_isOutside_2 (by decide)  (fun c_1 => ?_) (fun c_1 => ?_)
  · refine lv_iconst (v := nI 1) hx hb dX8_isOutside_10 (by decide) ?_
    refine lv_goto (tgt := 15) hx hb dX8_isOutside_11 (by decide) ?_
    exact W.zret (v := nI 1) hx hb hr rfl (fun U9 ht hW9 => ⟨_, rfl, bi_one (by first | (rw [decide_eq_true_eq]; exact Or.inl c_1) | (rw [decide_eq_true_eq]; exact Or.inr (Int32.not_le.mp c_1)) | (rw [decide_eq_false_iff_not]; exact not_or.mpr ⟨c_1, Int32.not_lt.mpr c_1⟩)), ht⟩) (fun _ h => by cases h) dX8_isOutside_15
  · refine lv_iload_n hx hb dX8_isOutside_5 rfl (lv_at hl 0 rfl) ?_
    refine lv_iload_n hx hb dX8_isOutside_6 rfl (lv_at hl 2 rfl) ?_
    refine lv_icmp_le (tgt := 14) hx hb dX8_isOutside_7 (by decide)  (fun c_2 => ?_) (fun c_2 => ?_)
    · refine lv_iconst (v := nI 0) hx hb dX8_isOutside_14 (by decide) ?_
      exact W.zret (v := nI 0) hx hb hr rfl (fun U9 ht hW9 => ⟨_, rfl, bi_zero (by first | (rw [decide_eq_true_eq]; exact Or.inl c_2) | (rw [decide_eq_true_eq]; exact Or.inr (Int32.not_le.mp c_2)) | (rw [decide_eq_false_iff_not]; exact not_or.mpr ⟨c_1, Int32.not_lt.mpr c_2⟩)), ht⟩) (fun _ h => by cases h) dX8_isOutside_15
    · refine lv_iconst (v := nI 1) hx hb dX8_isOutside_10 (by decide) ?_
      refine lv_goto (tgt := 15) hx hb dX8_isOutside_11 (by decide) ?_
      exact W.zret (v := nI 1) hx hb hr rfl (fun U9 ht hW9 => ⟨_, rfl, bi_one (by first | (rw [decide_eq_true_eq]; exact Or.inl c_2) | (rw [decide_eq_true_eq]; exact Or.inr (Int32.not_le.mp c_2)) | (rw [decide_eq_false_iff_not]; exact not_or.mpr ⟨c_1, Int32.not_lt.mpr c_2⟩)), ht⟩) (fun _ h => by cases h) dX8_isOutside_15
