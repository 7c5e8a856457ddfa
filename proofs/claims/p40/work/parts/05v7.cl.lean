abbrev L_X8_hillHere_w : List Rc := [(1, 1, 13, 14)]
abbrev LL_X8_hillHere_w : List Rc := []
def P_X8_hillHere_w (σ0 : Nat → Nat → Int32) (τ0 : Nat → Nat → Int64) (b : Nat → Int) (N : Nat) (mo : Nat) (q : Nat) (nm : Nat → Int) (hc : Nat) (r : Int32) (σ : Nat → Nat → Int32) (τ : Nat → Nat → Int64) : Prop := Rg σ ∧ Fr L_X8_hillHere_w σ0 σ ∧ FrL LL_X8_hillHere_w τ0 τ ∧ (-1 ≤ r.toInt ∧ r.toInt ≤ 7) ∧ (RH r σ (lokP b N mo nm hc q) True) ∧ CT σ τ b N mo q ∧ WH σ τ nm hc
set_option maxHeartbeats 4000000 in
theorem c_X8_hillHere_w (l : Launch) (D : va_G) (cA : Nat → ClassId) (ad : Nat → Nat) (hI : Inj ad) (σ0 : Nat → Nat → Int32) (τ0 : Nat → Nat → Int64) (hR : Rg σ0) (b : Nat → Int) (N : Nat) (mo : Nat) (q : Nat) (nm : Nat → Int) (hc : Nat) (gCT0 : CT σ0 τ0 b N mo q) (gWH0 : WH σ0 τ0 nm hc) : Met l yX8_hillHere wsX8_hillHere ({ frames := 2, cells := 0, slots := 0, locals := 42 } : Room) (WQc D cA ad [.ref (ad 1), .ref (ad 2)] σ0 τ0) (va_Qi (fun (r : Int32) (u : SS) => P_X8_hillHere_w σ0 τ0 b N mo q nm hc r u.1 u.2) (WB D cA ad) (AA ad)) 0 0 (AA ad) := by
  refine Met.ofW (cc := cX8_hillHere) (maxL := 2) (ret := (some .int)) (by decide) rfl ?_
  intro p e s m args below meth c s₁ B hml hv
  obtain ⟨rfl, hP, hK, hN⟩ := hv
  have C : Cy p s m _ meth c cX8_hillHere 2 wsX8_hillHere RX8 D cA ad (some .int) := ⟨B.exec, B.bytes, hml, findClass_of_methodNamed B.named, atoms_spec (ws := wsX8_hillHere) B.pre, hK, B.notSynchronized, B.returns, hI, hN⟩
  have hl := lv_entry ([.ref (ad 1), .ref (ad 2)]) (n := 2) (Nat.le_of_ble_eq_true rfl)
  rw [lg_entry_eq]
  generalize (lg_sl ([.ref (ad 1), .ref (ad 2)]) ++ List.replicate (2 - (lg_sl ([.ref (ad 1), .ref (ad 2)])).length) Slot.unset).toArray = ls at hl ⊢
  have hl : lv_has ls 2 [(0, .ref (ad 1)), (1, .ref (ad 2))] := hl
  have hS : va_S (AA ad) s.heap s.heap [] := va_S.rf
  have hF : Fr L_X8_hillHere_w σ0 σ0 := Fr.rf
  have hFL : FrL LL_X8_hillHere_w τ0 τ0 := FrL.rf
  have gCT := gCT0
  have gWH := gWH0
  obtain ⟨hx, hb, _, hown, hts, _, hk, hr, _, _⟩ := C
  have hr8 := rg_9_4 hR (k := 2) (by decide) (by decide)
  refine lv_aload_n hx hb dX8_hillHere_0 rfl (lv_at hl 0 rfl) ?_
  refine lv_aload_n hx hb dX8_hillHere_1 rfl (lv_at hl 1 rfl) ?_
  refine lv_aload_n hx hb dX8_hillHere_2 rfl (lv_at hl 0 rfl) ?_
  refine fg_8_11 (k := 1) hx hb hts in_X8_hillHere_8 hown hK hP (by decide) (by decide) (hts _ lk_X8_hillHere_94) dX8_hillHere_3 ?_
  refine lv_aload_n hx hb dX8_hillHere_6 rfl (lv_at hl 1 rfl) ?_
  refine fgN_9_7 (k := 2) hx hb hts in_X8_hillHere_9 hown hK hP (by decide) (by decide) (hN.use nw_8_128) dX8_hillHere_7 ?_
  refine lv_aload_n hx hb dX8_hillHere_10 rfl (lv_at hl 1 rfl) ?_
  refine fgN_9_4 (k := 2) hx hb hts in_X8_hillHere_9 hown hK hP (by decide) (by decide) (hN.use nw_8_133) dX8_hillHere_11 ?_
  have hr1 := rg_9_4 hR (k := 2) (by decide) (by decide)
  refine r_cVi (k := 2) (As := [.long (τ0 1 11), .ref (ad 40), .int (σ0 2 4)]) (rest := [.ref (ad 1)]) ⟨hx, hb, hml, hown, hts⟩ hK hP hN hS (c_X9_numberOf l D cA ad hI σ0 τ0 hR 2 (τ0 1 11) 40 (σ0 2 4) ⟨by omega, by omega⟩ ⟨by omega, by omega⟩ (by omega)) (cwV 3 hts gX8_hillHere_X9_numberOf rfl rfl rfl (by decide +kernel) ⟨by decide, by decide⟩) (rv_Valley hK hP (by decide) (by decide)) rfl hl.1 rfl (Nat.le_of_ble_eq_true rfl) dX8_hillHere_14 (Nat.zero_le _) (Nat.zero_le _) (fun r2 u2 H2 locs2 hp2 hP hS => ?_)
  obtain ⟨σ2, τ2⟩ := u2
  obtain ⟨hR, f2, fL2, hq2, hp2_0⟩ : P_X9_numberOf σ0 τ0 2 (τ0 1 11) 40 (σ0 2 4) r2 σ2 τ2 := hp2
  have hP : va_P D vwCl (gw cA ad σ2 τ2) H2 := hP
  obtain rfl := FrL.nil fL2
  obtain rfl := Fr.nil f2
  rw [gWH.1, show ((hc : Nat) : Int).toNat = hc from rfl] at hp2_0
  refine r_cVi (k := 1) (As := [.int r2]) (rest := []) ⟨hx, hb, hml, hown, hts⟩ hK hP hN hS (c_X8_toldHere_v l D cA ad hI σ0 τ0 hR r2 _ _ _ _ (by omega) gCT) (cwV 1 hts gX8_hillHere_X8_toldHere rfl rfl rfl (by decide +kernel) ⟨by decide, by decide⟩) (rv_Tape hK hP (by decide) (by decide)) rfl hl.1 rfl (Nat.le_of_ble_eq_true rfl) dX8_hillHere_17 (Nat.zero_le _) (Nat.zero_le _) (fun r3 u3 H3 locs3 hp3 hP hS => ?_)
  obtain ⟨σ3, τ3⟩ := u3
  obtain ⟨hR, f3, fL3, hq3, hp3_0, gnCT⟩ : P_X8_toldHere_v σ0 τ0 r2 _ _ _ _ r3 σ3 τ3 := hp3
  have ot := hp3_0
  have hP : va_P D vwCl (gw cA ad σ3 τ3) H3 := hP
  obtain rfl := FrL.nil fL3
  have hF := hF.step f3 (by decide)
  have gCT := gCT.ag (Agr.fr f3 (by decide))
  have gWH := gWH.ag (Agr.fr f3 (by decide))
  have hrg := fndq_rg nm (wdq b N q) hc
  exact r_iret hx hb hr hK hP hS hk dX8_hillHere_20 (show P_X8_hillHere_w σ0 τ0 b N mo q nm hc r3 σ3 τ0 from ⟨hR, hF, hFL, by omega, by rcases ot with ot | ot | ot <;> first | exact RH.ofk (by unfold lokP; rw [if_pos (by omega)]) (by omega) (by omega) (by omega) | (have hf := WN.f gWH (NZ.of (gCT.nr (by omega))); exact RH.ofk (by unfold lokP; rw [if_neg (by omega), if_pos (by omega)]) (by omega) (by omega) (by omega)) | (have hf := WN.f gWH (NZ.of (gCT.nr (by omega))); exact RH.ofr (by unfold lokP; rw [if_neg (by omega), if_neg (by omega)]) (by omega) (by omega) trivial), gCT, gWH⟩)
theorem in_X7_readOn_7 : ∀ w ∈ u_ws RX7 TX7 3, w ∈ wsX7_readOn := by decide +kernel
theorem lk_X7_readOn_15 : Cond.fieldLink RX7 15 "CuckooShares$SentenceText" "valley" "LCuckooShares$Valley;" ∈ wsX7_readOn := by decide +kernel
theorem lk_X7_readOn_19 : Cond.fieldLink RX7 19 "CuckooShares$SentenceText" "into" "LCuckooShares$Sentence;" ∈ wsX7_readOn := by decide +kernel
theorem lk_X7_readOn_9 : Cond.fieldLink RX7 9 "CuckooShares$SentenceText" "tape" "LCuckooShares$Tape;" ∈ wsX7_readOn := by decide +kernel
abbrev L_X7_readOn : List Rc := [(1, 1, 13, 14), (1, 1, 7, 10), (372, 372, 0, 39), (376, 376, 0, 39), (380, 380, 0, 39), (24, 24, 2, 2)]
abbrev LL_X7_readOn : List Rc := [(1, 1, 11, 11)]
def P_X7_readOn (σ0 : Nat → Nat → Int32) (τ0 : Nat → Nat → Int64) (b : Nat → Int) (N : Nat) (mo : Nat) (q : Nat) (nn : Nat) (nm : Nat → Int) (hc : Nat) (kk : Int) (r : Int32) (σ : Nat → Nat → Int32) (τ : Nat → Nat → Int64) : Prop := Rg σ ∧ Fr L_X7_readOn σ0 σ ∧ FrL LL_X7_readOn τ0 τ ∧ (0 ≤ r.toInt ∧ r.toInt ≤ 1) ∧ (RO r σ (leaP b N mo nm hc kk q nn) (fun s => CT σ τ b N mo s.1 ∧ (σ 24 1).toInt = (s.2 : Int) ∧ (σ 24 2).toInt = (σ0 24 2).toInt + 1)) ∧ WH σ τ nm hc
set_option maxHeartbeats 4000000 in
theorem c_X7_readOn (l : Launch) (D : va_G) (cA : Nat → ClassId) (ad : Nat → Nat) (hI : Inj ad) (σ0 : Nat → Nat → Int32) (τ0 : Nat → Nat → Int64) (hR : Rg σ0) (b : Nat → Int) (N : Nat) (mo : Nat) (q : Nat) (nn : Nat) (nm : Nat → Int) (hc : Nat) (kk : Int) (hpre0 : kk = 25) (hpre1 : (σ0 24 1).toInt = (nn : Int) ∧ nn ≤ 20) (hpre2 : 0 ≤ (σ0 24 2).toInt ∧ (σ0 24 2).toInt ≤ 38) (gCT0 : CT σ0 τ0 b N mo q) (gWH0 : WH σ0 τ0 nm hc) : Met l yX7_readOn wsX7_readOn ({ frames := 3, cells := 0, slots := 0, locals := 63 } : Room) (WQc D cA ad [.ref (ad 27)] σ0 τ0) (va_Qi (fun (r : Int32) (u : SS) => P_X7_readOn σ0 τ0 b N mo q nn nm hc kk r u.1 u.2) (WB D cA ad) (AA ad)) 0 0 (AA ad) := by
  refine Met.ofW (cc := cX7_readOn) (maxL := 2) (ret := (some .boolean)) (by decide) rfl ?_
  intro p e s m args below meth c s₁ B hml hv
  obtain ⟨rfl, hP, hK, hN⟩ := hv
  have C : Cy p s m _ meth c cX7_readOn 2 wsX7_readOn RX7 D cA ad (some .boolean) := ⟨B.exec, B.bytes, hml, findClass_of_methodNamed B.named, atoms_spec (ws := wsX7_readOn) B.pre, hK, B.notSynchronized, B.returns, hI, hN⟩
  have hl := lv_entry ([.ref (ad 27)]) (n := 2) (Nat.le_of_ble_eq_true rfl)
  rw [lg_entry_eq]
  generalize (lg_sl ([.ref (ad 27)]) ++ List.replicate (2 - (lg_sl ([.ref (ad 27)])).length) Slot.unset).toArray = ls at hl ⊢
  have hl : lv_has ls 2 [(0, .ref (ad 27))] := hl
  have hS : va_S (AA ad) s.heap s.heap [] := va_S.rf
  have hF : Fr L_X7_readOn σ0 σ0 := Fr.rf
  have hFL : FrL LL_X7_readOn τ0 τ0 := FrL.rf
  have gCT := gCT0
  have gWH := gWH0
  obtain ⟨hx, hb, _, hown, hts, _, hk, hr, _, _⟩ := C
  refine lv_aload_n hx hb dX7_readOn_0 rfl (lv_at hl 0 rfl) ?_
  refine fg_7_0 (k := 27) hx hb hts in_X7_readOn_7 hown hK hP (by decide) (by decide) (hts _ lk_X7_readOn_9) dX7_readOn_1 ?_
  refine lv_aload_n hx hb dX7_readOn_4 rfl (lv_at hl 0 rfl) ?_
  refine fg_7_1 (k := 27) hx hb hts in_X7_readOn_7 hown hK hP (by decide) (by decide) (hts _ lk_X7_readOn_15) dX7_readOn_5 ?_
  refine r_cVi (k := 1) (As := [.ref (ad 2)]) (rest := []) ⟨hx, hb, hml, hown, hts⟩ hK hP hN hS (c_X8_hillHere_w l D cA ad hI σ0 τ0 hR _ _ _ _ _ _ gCT gWH) (cwV 1 hts gX7_readOn_X8_hillHere rfl rfl rfl (by decide +kernel) ⟨by decide, by decide⟩) (rv_Tape hK hP (by decide) (by decide)) rfl hl.1 rfl (Nat.le_of_ble_eq_true rfl) dX7_readOn_8 (Nat.zero_le _) (Nat.zero_le _) (fun r1 u1 H1 locs1 hp1 hP hS => ?_)
  obtain ⟨σ1, τ1⟩ := u1
  obtain ⟨hR, f1, fL1, hq1, hp1_0, gnCT, gnWH⟩ : P_X8_hillHere_w σ0 τ0 _ _ _ _ _ _ r1 σ1 τ1 := hp1
  have o1 := hp1_0
  have hP : va_P D vwCl (gw cA ad σ1 τ1) H1 := hP
  obtain rfl := FrL.nil fL1
  have hF := hF.step f1 (by decide)
  have gCT := gCT.ag (Agr.fr f1 (by decide))
  have gWH := gWH.ag (Agr.fr f1 (by decide))
  have t2 : (σ1 24 1).toInt = (σ0 24 1).toInt := congrArg Int32.toInt (f1.at 24 1 (by decide))
  have t3 : (σ1 24 2).toInt = (σ0 24 2).toInt := congrArg Int32.toInt (f1.at 24 2 (by decide))
  refine lv_istore_n (lv' := [(1, .int r1), (0, .ref (ad 27))]) hx hb dX7_readOn_11 rfl hl (by decide) rfl (fun ls hl => ?_)
  refine lv_iload_n hx hb dX7_readOn_12 rfl (lv_at hl 0 rfl) ?_
  refine r_iconst hx hb dX7_readOn_13 (by decide) (fun z4 ez4 => ?_)
  refine r_icmp_ne (tgt := 19) hx hb dX7_readOn_14 (by decide) (fun c5 => ?_) (fun c5 => ?_)
  · obtain ⟨e1, _, _, _⟩ := o1.ye (by omega)
    refine lv_aload_n hx hb dX7_readOn_19 rfl (lv_at hl 1 rfl) ?_
    refine fg_7_0 (k := 27) hx hb hts in_X7_readOn_7 hown hK hP (by decide) (by decide) (hts _ lk_X7_readOn_9) dX7_readOn_20 ?_
    refine r_cVv (k := 1) (As := []) (rest := []) ⟨hx, hb, hml, hown, hts⟩ hK hP hN hS (c_X8_next_v l D cA ad hI σ1 τ0 hR _ _ _ _ gCT) (cwV 0 hts gX7_readOn_X8_next rfl rfl rfl (by decide +kernel) ⟨by decide, by decide⟩) (rv_Tape hK hP (by decide) (by decide)) rfl hl.1 rfl (Nat.le_of_ble_eq_true rfl) dX7_readOn_23 (Nat.zero_le _) (Nat.zero_le _) (fun u6 H6 locs6 hp6 hP hS => ?_)
    obtain ⟨σ6, τ6⟩ := u6
    obtain ⟨hR, f6, fL6, hp6_0⟩ : P_X8_next_v σ1 τ0 _ _ _ _ σ6 τ6 := hp6
    have hP : va_P D vwCl (gw cA ad σ6 τ6) H6 := hP
    have hFL := hFL.step fL6 (by decide)
    have gWH := gWH.agL (AgrL.fr fL6 (by decide))
    have hF := hF.step f6 (by decide)
    have gWH := gWH.ag (Agr.fr f6 (by decide))
    have t7 : (σ6 24 1).toInt = (σ1 24 1).toInt := congrArg Int32.toInt (f6.at 24 1 (by decide))
    have t8 : (σ6 24 2).toInt = (σ1 24 2).toInt := congrArg Int32.toInt (f6.at 24 2 (by decide))
    have gCT := hp6_0
    refine lv_aload_n hx hb dX7_readOn_26 rfl (lv_at hl 1 rfl) ?_
    refine fg_7_2 (k := 27) hx hb hts in_X7_readOn_7 hown hK hP (by decide) (by decide) (hts _ lk_X7_readOn_19) dX7_readOn_27 ?_
    refine r_bipush hx hb dX7_readOn_30 (by decide) (fun z9 ez9 => ?_)
    refine r_bipush hx hb dX7_readOn_32 (by decide) (fun z10 ez10 => ?_)
    refine lv_iload_n hx hb dX7_readOn_34 rfl (lv_at hl 0 rfl) ?_
    refine r_cVi (k := 24) (As := [.int z9, .int z10, .int r1]) (rest := []) ⟨hx, hb, hml, hown, hts⟩ hK hP hN hS (c_X6_add l D cA ad hI σ6 τ6 hR z9 z10 r1 (by omega)) (cwV 3 hts gX7_readOn_X6_add rfl rfl rfl (by decide +kernel) ⟨by decide, by decide⟩) (rv_Sent hK hP (by decide) (by decide)) rfl hl.1 rfl (Nat.le_of_ble_eq_true rfl) dX7_readOn_35 (Nat.zero_le _) (Nat.zero_le _) (fun r11 u11 H11 locs11 hp11 hP hS => ?_)
    obtain ⟨σ11, τ11⟩ := u11
    obtain ⟨hR, f11, fL11, hq11, hp11_0⟩ : P_X6_add σ6 τ6 z9 z10 r1 r11 σ11 τ11 := hp11
    have hP : va_P D vwCl (gw cA ad σ11 τ11) H11 := hP
    obtain rfl := FrL.nil fL11
    have hF := hF.step f11 (by decide)
    have gCT := gCT.ag (Agr.fr f11 (by decide))
    have gWH := gWH.ag (Agr.fr f11 (by decide))
    have t12 : (σ11 24 1).toInt = (σ6 24 1).toInt := congrArg Int32.toInt (f11.at 24 1 (by decide))
    have hr13 := rg_6_2 hR (k := 24) (by decide) (by decide)
    exact r_zret hx hb hr hK hP hS hk (by omega) dX7_readOn_38 (show P_X7_readOn σ0 τ0 b N mo q nn nm hc kk r11 σ11 τ6 from ⟨hR, hF, hFL, by omega, by first | (obtain ⟨f, e1, x1, x2⟩ := o1.no (by omega); exact RO.ofl (by unfold leaP; rw [if_pos hpre0, e1, bnd_l]) (by omega) x1 x2) | exact RO.ofr (by unfold leaP; rw [if_pos hpre0, e1, bnd_r]) (by omega) ⟨gCT, by omega, by omega⟩ | (exfalso; omega), gWH⟩)
  · refine r_iconst hx hb dX7_readOn_17 (by decide) (fun z14 ez14 => ?_)
    exact r_zret hx hb hr hK hP hS hk (by omega) dX7_readOn_18 (show P_X7_readOn σ0 τ0 b N mo q nn nm hc kk z14 σ1 τ0 from ⟨hR, hF, hFL, by omega, by first | (obtain ⟨f, e1, x1, x2⟩ := o1.no (by omega); exact RO.ofl (by unfold leaP; rw [if_pos hpre0, e1, bnd_l]) (by omega) x1 x2) | exact RO.ofr (by unfold leaP; rw [if_pos hpre0, e1, bnd_r]) (by omega) ⟨gCT, by omega, by omega⟩ | (exfalso; omega), gWH⟩)
abbrev L_X7_readOne_d8 : List Rc := [(1, 1, 7, 10), (372, 372, 0, 39), (376, 376, 0, 39), (380, 380, 0, 39), (24, 24, 1, 2), (1, 1, 12, 14)]
abbrev LL_X7_readOne_d8 : List Rc := [(1, 1, 11, 11)]
def P_X7_readOne_d8 (σ0 : Nat → Nat → Int32) (τ0 : Nat → Nat → Int64) (a1 : Int32) (b : Nat → Int) (N : Nat) (mo : Nat) (q : Nat) (nn : Nat) (nm : Nat → Int) (hc : Nat) (r : Int32) (σ : Nat → Nat → Int32) (τ : Nat → Nat → Int64) : Prop := Rg σ ∧ Fr L_X7_readOne_d8 σ0 σ ∧ FrL LL_X7_readOne_d8 τ0 τ ∧ (0 ≤ r.toInt ∧ r.toInt ≤ 1) ∧ (RO r σ (oneP b N mo nm hc 1 q nn) (fun s => CT σ τ b N mo s.1 ∧ (σ 24 1).toInt = (s.2 : Int) ∧ (σ 24 2).toInt + 2 * (nn : Int) + 1 ≤ (σ0 24 2).toInt + 2 * (s.2 : Int))) ∧ WH σ τ nm hc
set_option maxHeartbeats 4000000 in
theorem c_X7_readOne_d8 (l : Launch) (D : va_G) (cA : Nat → ClassId) (ad : Nat → Nat) (hI : Inj ad) (σ0 : Nat → Nat → Int32) (τ0 : Nat → Nat → Int64) (hR : Rg σ0) (a1 : Int32) (b : Nat → Int) (N : Nat) (mo : Nat) (q : Nat) (nn : Nat) (nm : Nat → Int) (hc : Nat) (ha1 : 8 ≤ a1.toInt ∧ a1.toInt ≤ 8) (hpre0 : (σ0 24 1).toInt = (nn : Int)) (hpre1 : 0 ≤ (σ0 24 2).toInt ∧ (σ0 24 2).toInt ≤ 2 * (nn : Int)) (hpre2 : nn ≤ 20) (gCT0 : CT σ0 τ0 b N mo q) (gWH0 : WH σ0 τ0 nm hc) : Met l yX7_readOne wsX7_readOne ({ frames := 4, cells := 0, slots := 0, locals := 87 } : Room) (WQc D cA ad [.ref (ad 27), .int a1] σ0 τ0) (va_Qi (fun (r : Int32) (u : SS) => P_X7_readOne_d8 σ0 τ0 a1 b N mo q nn nm hc r u.1 u.2) (WB D cA ad) (AA ad)) 0 0 (AA ad) := by
  refine Met.ofW (cc := cX7_readOne) (maxL := 3) (ret := (some .boolean)) (by decide) rfl ?_
  intro p e s m args below meth c s₁ B hml hv
  obtain ⟨rfl, hP, hK, hN⟩ := hv
  have C : Cy p s m _ meth c cX7_readOne 3 wsX7_readOne RX7 D cA ad (some .boolean) := ⟨B.exec, B.bytes, hml, findClass_of_methodNamed B.named, atoms_spec (ws := wsX7_readOne) B.pre, hK, B.notSynchronized, B.returns, hI, hN⟩
  have hl := lv_entry ([.ref (ad 27), .int a1]) (n := 3) (Nat.le_of_ble_eq_true rfl)
  rw [lg_entry_eq]
  generalize (lg_sl ([.ref (ad 27), .int a1]) ++ List.replicate (3 - (lg_sl ([.ref (ad 27), .int a1])).length) Slot.unset).toArray = ls at hl ⊢
  have hl : lv_has ls 3 [(0, .ref (ad 27)), (1, .int a1)] := hl
  have hS : va_S (AA ad) s.heap s.heap [] := va_S.rf
  have hF : Fr L_X7_readOne_d8 σ0 σ0 := Fr.rf
  have hFL : FrL LL_X7_readOne_d8 τ0 τ0 := FrL.rf
  have gCT := gCT0
  have gWH := gWH0
  obtain ⟨hx, hb, _, hown, hts, _, hk, hr, _, _⟩ := C
  have htk := gCT.tk
  refine lv_aload_n hx hb dX7_readOne_0 rfl (lv_at hl 0 rfl) ?_
  refine fg_7_0 (k := 27) hx hb hts in_X7_readOne_7 hown hK hP (by decide) (by decide) (hts _ lk_X7_readOne_9) dX7_readOne_1 ?_
  refine fgN_8_9 (k := 1) hx hb hts in_X7_readOne_8 hown hK hP (by decide) (by decide) (hN.use nw_7_32) dX7_readOne_4 ?_
  refine lv_istore_n (lv' := [(2, .int (σ0 1 9)), (0, .ref (ad 27)), (1, .int a1)]) hx hb dX7_readOne_7 rfl hl (by decide) rfl (fun ls hl => ?_)
  refine lv_iload_n hx hb dX7_readOne_8 rfl (lv_at hl 0 rfl) ?_
  refine r_cSi (As := [.int (σ0 1 9)]) (rest := []) ⟨hx, hb, hml, hown, hts⟩ hK hP hN hS (c_X7_beginsOne l D cA ad hI σ0 τ0 hR (σ0 1 9)) (va_cwS 1 hts gX7_readOne_X7_beginsOne rfl rfl rfl (by decide +kernel) ⟨by decide, by decide⟩) rfl hl.1 rfl (Nat.le_of_ble_eq_true rfl) dX7_readOne_9 (Nat.zero_le _) (Nat.zero_le _) (fun r1 u1 H1 locs1 hp1 hP hS => ?_)
  obtain ⟨σ1, τ1⟩ := u1
  obtain ⟨hR, f1, fL1, hq1, hp1_0⟩ : P_X7_beginsOne σ0 τ0 (σ0 1 9) r1 σ1 τ1 := hp1
  have hP : va_P D vwCl (gw cA ad σ1 τ1) H1 := hP
  obtain rfl := FrL.nil fL1
  obtain rfl := Fr.nil f1
  refine r_if_ne (tgt := 24) hx hb dX7_readOne_12 (by decide) (fun c2 => ?_) (fun c2 => ?_)
  · refine lv_aload_n hx hb dX7_readOne_24 rfl (lv_at hl 1 rfl) ?_
    refine fg_7_2 (k := 27) hx hb hts in_X7_readOne_7 hown hK hP (by decide) (by decide) (hts _ lk_X7_readOne_19) dX7_readOne_25 ?_
    refine fgN_6_1 (k := 24) hx hb hts in_X7_readOne_6 hown hK hP (by decide) (by decide) (hN.use nw_7_61) dX7_readOne_28 ?_
    refine r_bipush hx hb dX7_readOne_31 (by decide) (fun z3 ez3 => ?_)
    refine r_icmp_ge (tgt := 42) hx hb dX7_readOne_33 (by decide) (fun c4 => ?_) (fun c4 => ?_)
    · refine lv_aload_n hx hb dX7_readOne_42 rfl (lv_at hl 1 rfl) ?_
      refine fg_7_0 (k := 27) hx hb hts in_X7_readOne_7 hown hK hP (by decide) (by decide) (hts _ lk_X7_readOne_9) dX7_readOne_43 ?_
      refine r_iconst hx hb dX7_readOne_46 (by decide) (fun z5 ez5 => ?_)
      refine r_cVi (k := 1) (As := [.int z5]) (rest := []) ⟨hx, hb, hml, hown, hts⟩ hK hP hN hS (c_X8_blame_v l D cA ad hI σ0 τ0 hR z5 _ _ _ _ (by omega) gCT) (cwV 1 hts gX7_readOne_X8_blame rfl rfl rfl (by decide +kernel) ⟨by decide, by decide⟩) (rv_Tape hK hP (by decide) (by decide)) rfl hl.1 rfl (Nat.le_of_ble_eq_true rfl) dX7_readOne_47 (Nat.zero_le _) (Nat.zero_le _) (fun r6 u6 H6 locs6 hp6 hP hS => ?_)
      obtain ⟨σ6, τ6⟩ := u6
      obtain ⟨hR, f6, fL6, hq6, hp6_0, hp6_1, hp6_2, gnCT⟩ : P_X8_blame_v σ0 τ0 z5 _ _ _ _ r6 σ6 τ6 := hp6
      have hP : va_P D vwCl (gw cA ad σ6 τ6) H6 := hP
      obtain rfl := FrL.nil fL6
      have hF := hF.step f6 (by decide)
      have gCT := gCT.ag (Agr.fr f6 (by decide))
      have gWH := gWH.ag (Agr.fr f6 (by decide))
      have t7 : (σ6 24 1).toInt = (σ0 24 1).toInt := congrArg Int32.toInt (f6.at 24 1 (by decide))
      have t8 : (σ6 24 2).toInt = (σ0 24 2).toInt := congrArg Int32.toInt (f6.at 24 2 (by decide))
      exact r_zret hx hb hr hK hP hS hk (by omega) dX7_readOne_50 (show P_X7_readOne_d8 σ0 τ0 a1 b N mo q nn nm hc r6 σ6 τ0 from ⟨hR, hF, hFL, by omega, by first | exact RO.ofr ((one_l (by omega) (by omega) (by omega) (by omega)).trans (lea_n (by omega) (by omega))) (by omega) ⟨gCT, by omega, by omega⟩ | (exfalso; omega) | exact RO.ofk (one_x (by omega)) (by omega) (by omega) (by omega) | exact RO.ofk (one_4 (by omega) (by omega)) (by omega) (by omega) (by omega) | (obtain ⟨f, e1, x1, x2⟩ := o1.no (by omega); exact RO.ofl ((one_n (by omega) (by omega)).trans e1) (by omega) x1 x2) | exact RO.ofr ((one_n (by omega) (by omega)).trans e1) (by omega) ⟨gCT, by omega, by omega⟩ | (obtain ⟨f, e2, x1, x2⟩ := o2.no (by omega); exact RO.ofl (by rw [one_o (by omega) (by omega), e2, bnd_l]) (by omega) x1 x2) | (obtain ⟨f, e3, x1, x2⟩ := o3.no (by omega); exact RO.ofl (by rw [one_o (by omega) (by omega), e2, bnd_r, e3, bnd_l]) (by omega) x1 x2) | exact RO.ofr (by rw [one_o (by omega) (by omega), e2, bnd_r, e3, bnd_r]) (by omega) ⟨gCT, by omega, by omega⟩ | (rw [one_l (by omega) (by omega) (by omega) (by omega)]; exact o4.map (fun s es h => ⟨h.1, h.2.1, by have h2 := h.2.2; have hl := lea_up es; omega⟩)) | (rw [one_l (by omega) (by omega) (by omega) (by omega)]; exact o5.map (fun s es h => ⟨h.1, h.2.1, by have h2 := h.2.2; have hl := lea_up es; omega⟩)), gWH⟩)
    · refine lv_iload_n hx hb dX7_readOne_36 rfl (lv_at hl 2 rfl) ?_
      refine r_bipush hx hb dX7_readOne_37 (by decide) (fun z9 ez9 => ?_)
      refine r_icmp_le (tgt := 51) hx hb dX7_readOne_39 (by decide) (fun c10 => ?_) (fun c10 => ?_)
      · refine lv_aload_n hx hb dX7_readOne_51 rfl (lv_at hl 1 rfl) ?_
        refine fg_7_2 (k := 27) hx hb hts in_X7_readOne_7 hown hK hP (by decide) (by decide) (hts _ lk_X7_readOne_19) dX7_readOne_52 ?_
        refine lv_dup hx hb dX7_readOne_55 rfl ?_
        refine fgN_6_1 (k := 24) hx hb hts in_X7_readOne_6 hown hK hP (by decide) (by decide) (hN.use nw_7_61) dX7_readOne_56 ?_
        refine r_iconst hx hb dX7_readOne_59 (by decide) (fun z11 ez11 => ?_)
        refine r_iadd hx hb dX7_readOne_60 (by omega) (fun z12 ez12 => ?_)
        refine fpN_6_1 (k := 24) hx hb hts in_X7_readOne_6 hown hK hP (by decide) (by decide) (hN.use nw_7_61) hI hR hS (by omega) dX7_readOne_61 (fun σ13 H13 locs13 u13 v13 hR hP hS => ?_)
        have hF := hF.puts u13 4 rfl (by decide) (by decide) (by decide) (by decide)
        have gCT := gCT.ag (Agr.put u13 (by decide))
        have gWH := gWH.ag (Agr.put u13 (by decide))
        have t14 : (σ13 24 2).toInt = (σ0 24 2).toInt := congrArg Int32.toInt (u13 24 2 (by omega))
        refine lv_aload_n hx hb dX7_readOne_64 rfl (lv_at hl 1 rfl) ?_
        refine fg_7_0 (k := 27) hx hb hts in_X7_readOne_7 hown hK hP (by decide) (by decide) (hts _ lk_X7_readOne_9) dX7_readOne_65 ?_
        refine r_cVv (k := 1) (As := []) (rest := []) ⟨hx, hb, hml, hown, hts⟩ hK hP hN hS (c_X8_next_v l D cA ad hI σ13 τ0 hR _ _ _ _ gCT) (cwV 0 hts gX7_readOne_X8_next rfl rfl rfl (by decide +kernel) ⟨by decide, by decide⟩) (rv_Tape hK hP (by decide) (by decide)) rfl hl.1 rfl (Nat.le_of_ble_eq_true rfl) dX7_readOne_68 (Nat.zero_le _) (Nat.zero_le _) (fun u15 H15 locs15 hp15 hP hS => ?_)
        obtain ⟨σ15, τ15⟩ := u15
        obtain ⟨hR, f15, fL15, hp15_0⟩ : P_X8_next_v σ13 τ0 _ _ _ _ σ15 τ15 := hp15
        have hP : va_P D vwCl (gw cA ad σ15 τ15) H15 := hP
        have hFL := hFL.step fL15 (by decide)
        have gWH := gWH.agL (AgrL.fr fL15 (by decide))
        have hF := hF.step f15 (by decide)
        have gWH := gWH.ag (Agr.fr f15 (by decide))
        have t16 : (σ15 24 2).toInt = (σ13 24 2).toInt := congrArg Int32.toInt (f15.at 24 2 (by decide))
        have t17 : (σ15 24 1).toInt = (σ13 24 1).toInt := congrArg Int32.toInt (f15.at 24 1 (by decide))
        have gCT := hp15_0
        refine lv_iload_n hx hb dX7_readOne_71 rfl (lv_at hl 0 rfl) ?_
        by_cases c18 : (σ0 1 9).toInt = 22
        · refine lv_tableIn (off := 108) (tgt := 180) hx hb dX7_readOne_72 (by omega) (by omega) (by rw [c18]; rfl) (by decide) ?_
          refine lv_aload_n hx hb dX7_readOne_180 rfl (lv_at hl 1 rfl) ?_
          refine lv_iload_n hx hb dX7_readOne_181 rfl (lv_at hl 2 rfl) ?_
          refine r_iconst hx hb dX7_readOne_182 (by decide) (fun z19 ez19 => ?_)
          refine r_iadd hx hb dX7_readOne_183 (by omega) (fun z20 ez20 => ?_)
          refine r_cVi (k := 27) (As := [.int z20]) (rest := []) ⟨hx, hb, hml, hown, hts⟩ hK hP hN hS (c_X7_readOne_d9 l D cA ad hI σ15 τ15 hR z20 b N mo _ (nn + 1) nm hc (by omega) (by omega) (by omega) (by omega) gCT gWH) (cwV 1 hts gX7_readOne_X7_readOne rfl rfl rfl (by decide +kernel) ⟨by decide, by decide⟩) (rv_SText hK hP (by decide) (by decide)) rfl hl.1 rfl (Nat.le_of_ble_eq_true rfl) dX7_readOne_184 (Nat.zero_le _) (Nat.zero_le _) (fun r21 u21 H21 locs21 hp21 hP hS => ?_)
          obtain ⟨σ21, τ21⟩ := u21
          obtain ⟨hR, f21, fL21, hq21, hp21_0, gnWH⟩ : P_X7_readOne_d9 σ15 τ15 z20 b N mo _ (nn + 1) nm hc r21 σ21 τ21 := hp21
          have o1 := hp21_0
          have hP : va_P D vwCl (gw cA ad σ21 τ21) H21 := hP
          obtain rfl := FrL.nil fL21
          have hF := hF.step f21 (by decide)
          have gCT := gCT.ag (Agr.fr f21 (by decide))
          have gWH := gWH.ag (Agr.fr f21 (by decide))
          have t22 : (σ21 24 2).toInt = (σ15 24 2).toInt := congrArg Int32.toInt (f21.at 24 2 (by decide))
          have t23 : (σ21 24 1).toInt = (σ15 24 1).toInt := congrArg Int32.toInt (f21.at 24 1 (by decide))
          refine r_if_eq (tgt := 208) hx hb dX7_readOne_187 (by decide) (fun c24 => ?_) (fun c24 => ?_)
          · refine r_iconst hx hb dX7_readOne_208 (by decide) (fun z25 ez25 => ?_)
            exact r_zret hx hb hr hK hP hS hk (by omega) dX7_readOne_209 (show P_X7_readOne_d8 σ0 τ0 a1 b N mo q nn nm hc z25 σ21 τ15 from ⟨hR, hF, hFL, by omega, by first | exact RO.ofr ((one_l (by omega) (by omega) (by omega) (by omega)).trans (lea_n (by omega) (by omega))) (by omega) ⟨gCT, by omega, by omega⟩ | (exfalso; omega) | exact RO.ofk (one_x (by omega)) (by omega) (by omega) (by omega) | exact RO.ofk (one_4 (by omega) (by omega)) (by omega) (by omega) (by omega) | (obtain ⟨f, e1, x1, x2⟩ := o1.no (by omega); exact RO.ofl ((one_n (by omega) (by omega)).trans e1) (by omega) x1 x2) | exact RO.ofr ((one_n (by omega) (by omega)).trans e1) (by omega) ⟨gCT, by omega, by omega⟩ | (obtain ⟨f, e2, x1, x2⟩ := o2.no (by omega); exact RO.ofl (by rw [one_o (by omega) (by omega), e2, bnd_l]) (by omega) x1 x2) | (obtain ⟨f, e3, x1, x2⟩ := o3.no (by omega); exact RO.ofl (by rw [one_o (by omega) (by omega), e2, bnd_r, e3, bnd_l]) (by omega) x1 x2) | exact RO.ofr (by rw [one_o (by omega) (by omega), e2, bnd_r, e3, bnd_r]) (by omega) ⟨gCT, by omega, by omega⟩ | (rw [one_l (by omega) (by omega) (by omega) (by omega)]; exact o4.map (fun s es h => ⟨h.1, h.2.1, by have h2 := h.2.2; have hl := lea_up es; omega⟩)) | (rw [one_l (by omega) (by omega) (by omega) (by omega)]; exact o5.map (fun s es h => ⟨h.1, h.2.1, by have h2 := h.2.2; have hl := lea_up es; omega⟩)), gWH⟩)
          · exfalso; omega
        by_cases c26 : (σ0 1 9).toInt = 23
        · refine lv_tableIn (off := 177) (tgt := 249) hx hb dX7_readOne_72 (by omega) (by omega) (by rw [c26]; rfl) (by decide) ?_
          refine lv_aload_n hx hb dX7_readOne_249 rfl (lv_at hl 1 rfl) ?_
          refine fg_7_2 (k := 27) hx hb hts in_X7_readOne_7 hown hK hP (by decide) (by decide) (hts _ lk_X7_readOne_19) dX7_readOne_250 ?_
          refine lv_iload_n hx hb dX7_readOne_253 rfl (lv_at hl 0 rfl) ?_
          refine r_bipush hx hb dX7_readOne_254 (by decide) (fun z27 ez27 => ?_)
          refine r_iconst hx hb dX7_readOne_256 (by decide) (fun z28 ez28 => ?_)
          refine r_cVi (k := 24) (As := [.int (σ0 1 9), .int z27, .int z28]) (rest := []) ⟨hx, hb, hml, hown, hts⟩ hK hP hN hS (c_X6_add l D cA ad hI σ15 τ15 hR (σ0 1 9) z27 z28 (by omega)) (cwV 3 hts gX7_readOne_X6_add rfl rfl rfl (by decide +kernel) ⟨by decide, by decide⟩) (rv_Sent hK hP (by decide) (by decide)) rfl hl.1 rfl (Nat.le_of_ble_eq_true rfl) dX7_readOne_257 (Nat.zero_le _) (Nat.zero_le _) (fun r29 u29 H29 locs29 hp29 hP hS => ?_)
          obtain ⟨σ29, τ29⟩ := u29
          obtain ⟨hR, f29, fL29, hq29, hp29_0⟩ : P_X6_add σ15 τ15 (σ0 1 9) z27 z28 r29 σ29 τ29 := hp29
          have hP : va_P D vwCl (gw cA ad σ29 τ29) H29 := hP
          obtain rfl := FrL.nil fL29
          have hF := hF.step f29 (by decide)
          have gCT := gCT.ag (Agr.fr f29 (by decide))
          have gWH := gWH.ag (Agr.fr f29 (by decide))
          have t30 : (σ29 24 1).toInt = (σ15 24 1).toInt := congrArg Int32.toInt (f29.at 24 1 (by decide))
          have hr31 := rg_6_2 hR (k := 24) (by decide) (by decide)
          exact r_zret hx hb hr hK hP hS hk (by omega) dX7_readOne_260 (show P_X7_readOne_d8 σ0 τ0 a1 b N mo q nn nm hc r29 σ29 τ15 from ⟨hR, hF, hFL, by omega, by first | exact RO.ofr ((one_l (by omega) (by omega) (by omega) (by omega)).trans (lea_n (by omega) (by omega))) (by omega) ⟨gCT, by omega, by omega⟩ | (exfalso; omega) | exact RO.ofk (one_x (by omega)) (by omega) (by omega) (by omega) | exact RO.ofk (one_4 (by omega) (by omega)) (by omega) (by omega) (by omega) | (obtain ⟨f, e1, x1, x2⟩ := o1.no (by omega); exact RO.ofl ((one_n (by omega) (by omega)).trans e1) (by omega) x1 x2) | exact RO.ofr ((one_n (by omega) (by omega)).trans e1) (by omega) ⟨gCT, by omega, by omega⟩ | (obtain ⟨f, e2, x1, x2⟩ := o2.no (by omega); exact RO.ofl (by rw [one_o (by omega) (by omega), e2, bnd_l]) (by omega) x1 x2) | (obtain ⟨f, e3, x1, x2⟩ := o3.no (by omega); exact RO.ofl (by rw [one_o (by omega) (by omega), e2, bnd_r, e3, bnd_l]) (by omega) x1 x2) | exact RO.ofr (by rw [one_o (by omega) (by omega), e2, bnd_r, e3, bnd_r]) (by omega) ⟨gCT, by omega, by omega⟩ | (rw [one_l (by omega) (by omega) (by omega) (by omega)]; exact o4.map (fun s es h => ⟨h.1, h.2.1, by have h2 := h.2.2; have hl := lea_up es; omega⟩)) | (rw [one_l (by omega) (by omega) (by omega) (by omega)]; exact o5.map (fun s es h => ⟨h.1, h.2.1, by have h2 := h.2.2; have hl := lea_up es; omega⟩)), gWH⟩)
        by_cases c32 : (σ0 1 9).toInt = 24
        · refine lv_tableIn (off := 177) (tgt := 249) hx hb dX7_readOne_72 (by omega) (by omega) (by rw [c32]; rfl) (by decide) ?_
          refine lv_aload_n hx hb dX7_readOne_249 rfl (lv_at hl 1 rfl) ?_
          refine fg_7_2 (k := 27) hx hb hts in_X7_readOne_7 hown hK hP (by decide) (by decide) (hts _ lk_X7_readOne_19) dX7_readOne_250 ?_
          refine lv_iload_n hx hb dX7_readOne_253 rfl (lv_at hl 0 rfl) ?_
          refine r_bipush hx hb dX7_readOne_254 (by decide) (fun z33 ez33 => ?_)
          refine r_iconst hx hb dX7_readOne_256 (by decide) (fun z34 ez34 => ?_)
          refine r_cVi (k := 24) (As := [.int (σ0 1 9), .int z33, .int z34]) (rest := []) ⟨hx, hb, hml, hown, hts⟩ hK hP hN hS (c_X6_add l D cA ad hI σ15 τ15 hR (σ0 1 9) z33 z34 (by omega)) (cwV 3 hts gX7_readOne_X6_add rfl rfl rfl (by decide +kernel) ⟨by decide, by decide⟩) (rv_Sent hK hP (by decide) (by decide)) rfl hl.1 rfl (Nat.le_of_ble_eq_true rfl) dX7_readOne_257 (Nat.zero_le _) (Nat.zero_le _) (fun r35 u35 H35 locs35 hp35 hP hS => ?_)
          obtain ⟨σ35, τ35⟩ := u35
          obtain ⟨hR, f35, fL35, hq35, hp35_0⟩ : P_X6_add σ15 τ15 (σ0 1 9) z33 z34 r35 σ35 τ35 := hp35
          have hP : va_P D vwCl (gw cA ad σ35 τ35) H35 := hP
          obtain rfl := FrL.nil fL35
          have hF := hF.step f35 (by decide)
          have gCT := gCT.ag (Agr.fr f35 (by decide))
          have gWH := gWH.ag (Agr.fr f35 (by decide))
          have t36 : (σ35 24 1).toInt = (σ15 24 1).toInt := congrArg Int32.toInt (f35.at 24 1 (by decide))
          have hr37 := rg_6_2 hR (k := 24) (by decide) (by decide)
          exact r_zret hx hb hr hK hP hS hk (by omega) dX7_readOne_260 (show P_X7_readOne_d8 σ0 τ0 a1 b N mo q nn nm hc r35 σ35 τ15 from ⟨hR, hF, hFL, by omega, by first | exact RO.ofr ((one_l (by omega) (by omega) (by omega) (by omega)).trans (lea_n (by omega) (by omega))) (by omega) ⟨gCT, by omega, by omega⟩ | (exfalso; omega) | exact RO.ofk (one_x (by omega)) (by omega) (by omega) (by omega) | exact RO.ofk (one_4 (by omega) (by omega)) (by omega) (by omega) (by omega) | (obtain ⟨f, e1, x1, x2⟩ := o1.no (by omega); exact RO.ofl ((one_n (by omega) (by omega)).trans e1) (by omega) x1 x2) | exact RO.ofr ((one_n (by omega) (by omega)).trans e1) (by omega) ⟨gCT, by omega, by omega⟩ | (obtain ⟨f, e2, x1, x2⟩ := o2.no (by omega); exact RO.ofl (by rw [one_o (by omega) (by omega), e2, bnd_l]) (by omega) x1 x2) | (obtain ⟨f, e3, x1, x2⟩ := o3.no (by omega); exact RO.ofl (by rw [one_o (by omega) (by omega), e2, bnd_r, e3, bnd_l]) (by omega) x1 x2) | exact RO.ofr (by rw [one_o (by omega) (by omega), e2, bnd_r, e3, bnd_r]) (by omega) ⟨gCT, by omega, by omega⟩ | (rw [one_l (by omega) (by omega) (by omega) (by omega)]; exact o4.map (fun s es h => ⟨h.1, h.2.1, by have h2 := h.2.2; have hl := lea_up es; omega⟩)) | (rw [one_l (by omega) (by omega) (by omega) (by omega)]; exact o5.map (fun s es h => ⟨h.1, h.2.1, by have h2 := h.2.2; have hl := lea_up es; omega⟩)), gWH⟩)
        by_cases c38 : (σ0 1 9).toInt = 25
        · refine lv_tableIn (off := 166) (tgt := 238) hx hb dX7_readOne_72 (by omega) (by omega) (by rw [c38]; rfl) (by decide) ?_
          refine lv_aload_n hx hb dX7_readOne_238 rfl (lv_at hl 1 rfl) ?_
          refine r_cVi (k := 27) (As := []) (rest := []) ⟨hx, hb, hml, hown, hts⟩ hK hP hN hS (c_X7_readOn l D cA ad hI σ15 τ15 hR b N mo _ (nn + 1) nm hc (tkq b N mo q) (by omega) (by omega) (by omega) gCT gWH) (cwV 0 hts gX7_readOne_X7_readOn rfl rfl rfl (by decide +kernel) ⟨by decide, by decide⟩) (rv_SText hK hP (by decide) (by decide)) rfl hl.1 rfl (Nat.le_of_ble_eq_true rfl) dX7_readOne_239 (Nat.zero_le _) (Nat.zero_le _) (fun r39 u39 H39 locs39 hp39 hP hS => ?_)
          obtain ⟨σ39, τ39⟩ := u39
          obtain ⟨hR, f39, fL39, hq39, hp39_0, gnWH⟩ : P_X7_readOn σ15 τ15 b N mo _ (nn + 1) nm hc (tkq b N mo q) r39 σ39 τ39 := hp39
          have o4 := hp39_0
          have hP : va_P D vwCl (gw cA ad σ39 τ39) H39 := hP
          have hFL := hFL.step fL39 (by decide)
          have gWH := gWH.agL (AgrL.fr fL39 (by decide))
          have hF := hF.step f39 (by decide)
          have gWH := gWH.ag (Agr.fr f39 (by decide))
          have t40 : (σ39 24 1).toInt = (σ15 24 1).toInt := congrArg Int32.toInt (f39.at 24 1 (by decide))
          have hr41 := rg_6_2 hR (k := 24) (by decide) (by decide)
          exact r_zret hx hb hr hK hP hS hk (by omega) dX7_readOne_242 (show P_X7_readOne_d8 σ0 τ0 a1 b N mo q nn nm hc r39 σ39 τ39 from ⟨hR, hF, hFL, by omega, by first | exact RO.ofr ((one_l (by omega) (by omega) (by omega) (by omega)).trans (lea_n (by omega) (by omega))) (by omega) ⟨gCT, by omega, by omega⟩ | (exfalso; omega) | exact RO.ofk (one_x (by omega)) (by omega) (by omega) (by omega) | exact RO.ofk (one_4 (by omega) (by omega)) (by omega) (by omega) (by omega) | (obtain ⟨f, e1, x1, x2⟩ := o1.no (by omega); exact RO.ofl ((one_n (by omega) (by omega)).trans e1) (by omega) x1 x2) | exact RO.ofr ((one_n (by omega) (by omega)).trans e1) (by omega) ⟨gCT, by omega, by omega⟩ | (obtain ⟨f, e2, x1, x2⟩ := o2.no (by omega); exact RO.ofl (by rw [one_o (by omega) (by omega), e2, bnd_l]) (by omega) x1 x2) | (obtain ⟨f, e3, x1, x2⟩ := o3.no (by omega); exact RO.ofl (by rw [one_o (by omega) (by omega), e2, bnd_r, e3, bnd_l]) (by omega) x1 x2) | exact RO.ofr (by rw [one_o (by omega) (by omega), e2, bnd_r, e3, bnd_r]) (by omega) ⟨gCT, by omega, by omega⟩ | (rw [one_l (by omega) (by omega) (by omega) (by omega)]; exact o4.map (fun s es h => ⟨h.1, h.2.1, by have h2 := h.2.2; have hl := lea_up es; omega⟩)) | (rw [one_l (by omega) (by omega) (by omega) (by omega)]; exact o5.map (fun s es h => ⟨h.1, h.2.1, by have h2 := h.2.2; have hl := lea_up es; omega⟩)), gWH⟩)
        by_cases c42 : (σ0 1 9).toInt = 26
        · refine lv_tableIn (off := 177) (tgt := 249) hx hb dX7_readOne_72 (by omega) (by omega) (by rw [c42]; rfl) (by decide) ?_
          refine lv_aload_n hx hb dX7_readOne_249 rfl (lv_at hl 1 rfl) ?_
          refine fg_7_2 (k := 27) hx hb hts in_X7_readOne_7 hown hK hP (by decide) (by decide) (hts _ lk_X7_readOne_19) dX7_readOne_250 ?_
          refine lv_iload_n hx hb dX7_readOne_253 rfl (lv_at hl 0 rfl) ?_
          refine r_bipush hx hb dX7_readOne_254 (by decide) (fun z43 ez43 => ?_)
          refine r_iconst hx hb dX7_readOne_256 (by decide) (fun z44 ez44 => ?_)
          refine r_cVi (k := 24) (As := [.int (σ0 1 9), .int z43, .int z44]) (rest := []) ⟨hx, hb, hml, hown, hts⟩ hK hP hN hS (c_X6_add l D cA ad hI σ15 τ15 hR (σ0 1 9) z43 z44 (by omega)) (cwV 3 hts gX7_readOne_X6_add rfl rfl rfl (by decide +kernel) ⟨by decide, by decide⟩) (rv_Sent hK hP (by decide) (by decide)) rfl hl.1 rfl (Nat.le_of_ble_eq_true rfl) dX7_readOne_257 (Nat.zero_le _) (Nat.zero_le _) (fun r45 u45 H45 locs45 hp45 hP hS => ?_)
          obtain ⟨σ45, τ45⟩ := u45
          obtain ⟨hR, f45, fL45, hq45, hp45_0⟩ : P_X6_add σ15 τ15 (σ0 1 9) z43 z44 r45 σ45 τ45 := hp45
          have hP : va_P D vwCl (gw cA ad σ45 τ45) H45 := hP
          obtain rfl := FrL.nil fL45
          have hF := hF.step f45 (by decide)
          have gCT := gCT.ag (Agr.fr f45 (by decide))
          have gWH := gWH.ag (Agr.fr f45 (by decide))
          have t46 : (σ45 24 1).toInt = (σ15 24 1).toInt := congrArg Int32.toInt (f45.at 24 1 (by decide))
          have hr47 := rg_6_2 hR (k := 24) (by decide) (by decide)
          exact r_zret hx hb hr hK hP hS hk (by omega) dX7_readOne_260 (show P_X7_readOne_d8 σ0 τ0 a1 b N mo q nn nm hc r45 σ45 τ15 from ⟨hR, hF, hFL, by omega, by first | exact RO.ofr ((one_l (by omega) (by omega) (by omega) (by omega)).trans (lea_n (by omega) (by omega))) (by omega) ⟨gCT, by omega, by omega⟩ | (exfalso; omega) | exact RO.ofk (one_x (by omega)) (by omega) (by omega) (by omega) | exact RO.ofk (one_4 (by omega) (by omega)) (by omega) (by omega) (by omega) | (obtain ⟨f, e1, x1, x2⟩ := o1.no (by omega); exact RO.ofl ((one_n (by omega) (by omega)).trans e1) (by omega) x1 x2) | exact RO.ofr ((one_n (by omega) (by omega)).trans e1) (by omega) ⟨gCT, by omega, by omega⟩ | (obtain ⟨f, e2, x1, x2⟩ := o2.no (by omega); exact RO.ofl (by rw [one_o (by omega) (by omega), e2, bnd_l]) (by omega) x1 x2) | (obtain ⟨f, e3, x1, x2⟩ := o3.no (by omega); exact RO.ofl (by rw [one_o (by omega) (by omega), e2, bnd_r, e3, bnd_l]) (by omega) x1 x2) | exact RO.ofr (by rw [one_o (by omega) (by omega), e2, bnd_r, e3, bnd_r]) (by omega) ⟨gCT, by omega, by omega⟩ | (rw [one_l (by omega) (by omega) (by omega) (by omega)]; exact o4.map (fun s es h => ⟨h.1, h.2.1, by have h2 := h.2.2; have hl := lea_up es; omega⟩)) | (rw [one_l (by omega) (by omega) (by omega) (by omega)]; exact o5.map (fun s es h => ⟨h.1, h.2.1, by have h2 := h.2.2; have hl := lea_up es; omega⟩)), gWH⟩)
        by_cases c48 : (σ0 1 9).toInt = 27
        · refine lv_tableIn (off := 171) (tgt := 243) hx hb dX7_readOne_72 (by omega) (by omega) (by rw [c48]; rfl) (by decide) ?_
          refine lv_aload_n hx hb dX7_readOne_243 rfl (lv_at hl 1 rfl) ?_
          refine lv_iload_n hx hb dX7_readOne_244 rfl (lv_at hl 0 rfl) ?_
          refine r_cVi (k := 27) (As := [.int (σ0 1 9)]) (rest := []) ⟨hx, hb, hml, hown, hts⟩ hK hP hN hS (c_X7_readMeasure l D cA ad hI σ15 τ15 hR (σ0 1 9) b N mo _ (nn + 1) nm hc (tkq b N mo q) (by omega) (by omega) (by omega) (by omega) gCT gWH) (cwV 1 hts gX7_readOne_X7_readMeasure rfl rfl rfl (by decide +kernel) ⟨by decide, by decide⟩) (rv_SText hK hP (by decide) (by decide)) rfl hl.1 rfl (Nat.le_of_ble_eq_true rfl) dX7_readOne_245 (Nat.zero_le _) (Nat.zero_le _) (fun r49 u49 H49 locs49 hp49 hP hS => ?_)
          obtain ⟨σ49, τ49⟩ := u49
          obtain ⟨hR, f49, fL49, hq49, hp49_0, gnWH⟩ : P_X7_readMeasure σ15 τ15 (σ0 1 9) b N mo _ (nn + 1) nm hc (tkq b N mo q) r49 σ49 τ49 := hp49
          have o5 := hp49_0
          have hP : va_P D vwCl (gw cA ad σ49 τ49) H49 := hP
          have hFL := hFL.step fL49 (by decide)
          have gWH := gWH.agL (AgrL.fr fL49 (by decide))
          have hF := hF.step f49 (by decide)
          have gWH := gWH.ag (Agr.fr f49 (by decide))
          have t50 : (σ49 24 1).toInt = (σ15 24 1).toInt := congrArg Int32.toInt (f49.at 24 1 (by decide))
          have hr51 := rg_6_2 hR (k := 24) (by decide) (by decide)
          exact r_zret hx hb hr hK hP hS hk (by omega) dX7_readOne_248 (show P_X7_readOne_d8 σ0 τ0 a1 b N mo q nn nm hc r49 σ49 τ49 from ⟨hR, hF, hFL, by omega, by first | exact RO.ofr ((one_l (by omega) (by omega) (by omega) (by omega)).trans (lea_n (by omega) (by omega))) (by omega) ⟨gCT, by omega, by omega⟩ | (exfalso; omega) | exact RO.ofk (one_x (by omega)) (by omega) (by omega) (by omega) | exact RO.ofk (one_4 (by omega) (by omega)) (by omega) (by omega) (by omega) | (obtain ⟨f, e1, x1, x2⟩ := o1.no (by omega); exact RO.ofl ((one_n (by omega) (by omega)).trans e1) (by omega) x1 x2) | exact RO.ofr ((one_n (by omega) (by omega)).trans e1) (by omega) ⟨gCT, by omega, by omega⟩ | (obtain ⟨f, e2, x1, x2⟩ := o2.no (by omega); exact RO.ofl (by rw [one_o (by omega) (by omega), e2, bnd_l]) (by omega) x1 x2) | (obtain ⟨f, e3, x1, x2⟩ := o3.no (by omega); exact RO.ofl (by rw [one_o (by omega) (by omega), e2, bnd_r, e3, bnd_l]) (by omega) x1 x2) | exact RO.ofr (by rw [one_o (by omega) (by omega), e2, bnd_r, e3, bnd_r]) (by omega) ⟨gCT, by omega, by omega⟩ | (rw [one_l (by omega) (by omega) (by omega) (by omega)]; exact o4.map (fun s es h => ⟨h.1, h.2.1, by have h2 := h.2.2; have hl := lea_up es; omega⟩)) | (rw [one_l (by omega) (by omega) (by omega) (by omega)]; exact o5.map (fun s es h => ⟨h.1, h.2.1, by have h2 := h.2.2; have hl := lea_up es; omega⟩)), gWH⟩)
        by_cases c52 : (σ0 1 9).toInt = 28
        · refine lv_tableIn (off := 171) (tgt := 243) hx hb dX7_readOne_72 (by omega) (by omega) (by rw [c52]; rfl) (by decide) ?_
          refine lv_aload_n hx hb dX7_readOne_243 rfl (lv_at hl 1 rfl) ?_
          refine lv_iload_n hx hb dX7_readOne_244 rfl (lv_at hl 0 rfl) ?_
          refine r_cVi (k := 27) (As := [.int (σ0 1 9)]) (rest := []) ⟨hx, hb, hml, hown, hts⟩ hK hP hN hS (c_X7_readMeasure l D cA ad hI σ15 τ15 hR (σ0 1 9) b N mo _ (nn + 1) nm hc (tkq b N mo q) (by omega) (by omega) (by omega) (by omega) gCT gWH) (cwV 1 hts gX7_readOne_X7_readMeasure rfl rfl rfl (by decide +kernel) ⟨by decide, by decide⟩) (rv_SText hK hP (by decide) (by decide)) rfl hl.1 rfl (Nat.le_of_ble_eq_true rfl) dX7_readOne_245 (Nat.zero_le _) (Nat.zero_le _) (fun r53 u53 H53 locs53 hp53 hP hS => ?_)
          obtain ⟨σ53, τ53⟩ := u53
          obtain ⟨hR, f53, fL53, hq53, hp53_0, gnWH⟩ : P_X7_readMeasure σ15 τ15 (σ0 1 9) b N mo _ (nn + 1) nm hc (tkq b N mo q) r53 σ53 τ53 := hp53
          have o5 := hp53_0
          have hP : va_P D vwCl (gw cA ad σ53 τ53) H53 := hP
          have hFL := hFL.step fL53 (by decide)
          have gWH := gWH.agL (AgrL.fr fL53 (by decide))
          have hF := hF.step f53 (by decide)
          have gWH := gWH.ag (Agr.fr f53 (by decide))
          have t54 : (σ53 24 1).toInt = (σ15 24 1).toInt := congrArg Int32.toInt (f53.at 24 1 (by decide))
          have hr55 := rg_6_2 hR (k := 24) (by decide) (by decide)
          exact r_zret hx hb hr hK hP hS hk (by omega) dX7_readOne_248 (show P_X7_readOne_d8 σ0 τ0 a1 b N mo q nn nm hc r53 σ53 τ53 from ⟨hR, hF, hFL, by omega, by first | exact RO.ofr ((one_l (by omega) (by omega) (by omega) (by omega)).trans (lea_n (by omega) (by omega))) (by omega) ⟨gCT, by omega, by omega⟩ | (exfalso; omega) | exact RO.ofk (one_x (by omega)) (by omega) (by omega) (by omega) | exact RO.ofk (one_4 (by omega) (by omega)) (by omega) (by omega) (by omega) | (obtain ⟨f, e1, x1, x2⟩ := o1.no (by omega); exact RO.ofl ((one_n (by omega) (by omega)).trans e1) (by omega) x1 x2) | exact RO.ofr ((one_n (by omega) (by omega)).trans e1) (by omega) ⟨gCT, by omega, by omega⟩ | (obtain ⟨f, e2, x1, x2⟩ := o2.no (by omega); exact RO.ofl (by rw [one_o (by omega) (by omega), e2, bnd_l]) (by omega) x1 x2) | (obtain ⟨f, e3, x1, x2⟩ := o3.no (by omega); exact RO.ofl (by rw [one_o (by omega) (by omega), e2, bnd_r, e3, bnd_l]) (by omega) x1 x2) | exact RO.ofr (by rw [one_o (by omega) (by omega), e2, bnd_r, e3, bnd_r]) (by omega) ⟨gCT, by omega, by omega⟩ | (rw [one_l (by omega) (by omega) (by omega) (by omega)]; exact o4.map (fun s es h => ⟨h.1, h.2.1, by have h2 := h.2.2; have hl := lea_up es; omega⟩)) | (rw [one_l (by omega) (by omega) (by omega) (by omega)]; exact o5.map (fun s es h => ⟨h.1, h.2.1, by have h2 := h.2.2; have hl := lea_up es; omega⟩)), gWH⟩)
        by_cases c56 : (σ0 1 9).toInt = 29
        · refine lv_tableIn (off := 171) (tgt := 243) hx hb dX7_readOne_72 (by omega) (by omega) (by rw [c56]; rfl) (by decide) ?_
          refine lv_aload_n hx hb dX7_readOne_243 rfl (lv_at hl 1 rfl) ?_
          refine lv_iload_n hx hb dX7_readOne_244 rfl (lv_at hl 0 rfl) ?_
          refine r_cVi (k := 27) (As := [.int (σ0 1 9)]) (rest := []) ⟨hx, hb, hml, hown, hts⟩ hK hP hN hS (c_X7_readMeasure l D cA ad hI σ15 τ15 hR (σ0 1 9) b N mo _ (nn + 1) nm hc (tkq b N mo q) (by omega) (by omega) (by omega) (by omega) gCT gWH) (cwV 1 hts gX7_readOne_X7_readMeasure rfl rfl rfl (by decide +kernel) ⟨by decide, by decide⟩) (rv_SText hK hP (by decide) (by decide)) rfl hl.1 rfl (Nat.le_of_ble_eq_true rfl) dX7_readOne_245 (Nat.zero_le _) (Nat.zero_le _) (fun r57 u57 H57 locs57 hp57 hP hS => ?_)
          obtain ⟨σ57, τ57⟩ := u57
          obtain ⟨hR, f57, fL57, hq57, hp57_0, gnWH⟩ : P_X7_readMeasure σ15 τ15 (σ0 1 9) b N mo _ (nn + 1) nm hc (tkq b N mo q) r57 σ57 τ57 := hp57
          have o5 := hp57_0
          have hP : va_P D vwCl (gw cA ad σ57 τ57) H57 := hP
          have hFL := hFL.step fL57 (by decide)
          have gWH := gWH.agL (AgrL.fr fL57 (by decide))
          have hF := hF.step f57 (by decide)
          have gWH := gWH.ag (Agr.fr f57 (by decide))
          have t58 : (σ57 24 1).toInt = (σ15 24 1).toInt := congrArg Int32.toInt (f57.at 24 1 (by decide))
          have hr59 := rg_6_2 hR (k := 24) (by decide) (by decide)
          exact r_zret hx hb hr hK hP hS hk (by omega) dX7_readOne_248 (show P_X7_readOne_d8 σ0 τ0 a1 b N mo q nn nm hc r57 σ57 τ57 from ⟨hR, hF, hFL, by omega, by first | exact RO.ofr ((one_l (by omega) (by omega) (by omega) (by omega)).trans (lea_n (by omega) (by omega))) (by omega) ⟨gCT, by omega, by omega⟩ | (exfalso; omega) | exact RO.ofk (one_x (by omega)) (by omega) (by omega) (by omega) | exact RO.ofk (one_4 (by omega) (by omega)) (by omega) (by omega) (by omega) | (obtain ⟨f, e1, x1, x2⟩ := o1.no (by omega); exact RO.ofl ((one_n (by omega) (by omega)).trans e1) (by omega) x1 x2) | exact RO.ofr ((one_n (by omega) (by omega)).trans e1) (by omega) ⟨gCT, by omega, by omega⟩ | (obtain ⟨f, e2, x1, x2⟩ := o2.no (by omega); exact RO.ofl (by rw [one_o (by omega) (by omega), e2, bnd_l]) (by omega) x1 x2) | (obtain ⟨f, e3, x1, x2⟩ := o3.no (by omega); exact RO.ofl (by rw [one_o (by omega) (by omega), e2, bnd_r, e3, bnd_l]) (by omega) x1 x2) | exact RO.ofr (by rw [one_o (by omega) (by omega), e2, bnd_r, e3, bnd_r]) (by omega) ⟨gCT, by omega, by omega⟩ | (rw [one_l (by omega) (by omega) (by omega) (by omega)]; exact o4.map (fun s es h => ⟨h.1, h.2.1, by have h2 := h.2.2; have hl := lea_up es; omega⟩)) | (rw [one_l (by omega) (by omega) (by omega) (by omega)]; exact o5.map (fun s es h => ⟨h.1, h.2.1, by have h2 := h.2.2; have hl := lea_up es; omega⟩)), gWH⟩)
        by_cases c60 : (σ0 1 9).toInt = 30
        · refine lv_tableIn (off := 171) (tgt := 243) hx hb dX7_readOne_72 (by omega) (by omega) (by rw [c60]; rfl) (by decide) ?_
          refine lv_aload_n hx hb dX7_readOne_243 rfl (lv_at hl 1 rfl) ?_
          refine lv_iload_n hx hb dX7_readOne_244 rfl (lv_at hl 0 rfl) ?_
          refine r_cVi (k := 27) (As := [.int (σ0 1 9)]) (rest := []) ⟨hx, hb, hml, hown, hts⟩ hK hP hN hS (c_X7_readMeasure l D cA ad hI σ15 τ15 hR (σ0 1 9) b N mo _ (nn + 1) nm hc (tkq b N mo q) (by omega) (by omega) (by omega) (by omega) gCT gWH) (cwV 1 hts gX7_readOne_X7_readMeasure rfl rfl rfl (by decide +kernel) ⟨by decide, by decide⟩) (rv_SText hK hP (by decide) (by decide)) rfl hl.1 rfl (Nat.le_of_ble_eq_true rfl) dX7_readOne_245 (Nat.zero_le _) (Nat.zero_le _) (fun r61 u61 H61 locs61 hp61 hP hS => ?_)
          obtain ⟨σ61, τ61⟩ := u61
          obtain ⟨hR, f61, fL61, hq61, hp61_0, gnWH⟩ : P_X7_readMeasure σ15 τ15 (σ0 1 9) b N mo _ (nn + 1) nm hc (tkq b N mo q) r61 σ61 τ61 := hp61
          have o5 := hp61_0
          have hP : va_P D vwCl (gw cA ad σ61 τ61) H61 := hP
          have hFL := hFL.step fL61 (by decide)
          have gWH := gWH.agL (AgrL.fr fL61 (by decide))
          have hF := hF.step f61 (by decide)
          have gWH := gWH.ag (Agr.fr f61 (by decide))
          have t62 : (σ61 24 1).toInt = (σ15 24 1).toInt := congrArg Int32.toInt (f61.at 24 1 (by decide))
          have hr63 := rg_6_2 hR (k := 24) (by decide) (by decide)
          exact r_zret hx hb hr hK hP hS hk (by omega) dX7_readOne_248 (show P_X7_readOne_d8 σ0 τ0 a1 b N mo q nn nm hc r61 σ61 τ61 from ⟨hR, hF, hFL, by omega, by first | exact RO.ofr ((one_l (by omega) (by omega) (by omega) (by omega)).trans (lea_n (by omega) (by omega))) (by omega) ⟨gCT, by omega, by omega⟩ | (exfalso; omega) | exact RO.ofk (one_x (by omega)) (by omega) (by omega) (by omega) | exact RO.ofk (one_4 (by omega) (by omega)) (by omega) (by omega) (by omega) | (obtain ⟨f, e1, x1, x2⟩ := o1.no (by omega); exact RO.ofl ((one_n (by omega) (by omega)).trans e1) (by omega) x1 x2) | exact RO.ofr ((one_n (by omega) (by omega)).trans e1) (by omega) ⟨gCT, by omega, by omega⟩ | (obtain ⟨f, e2, x1, x2⟩ := o2.no (by omega); exact RO.ofl (by rw [one_o (by omega) (by omega), e2, bnd_l]) (by omega) x1 x2) | (obtain ⟨f, e3, x1, x2⟩ := o3.no (by omega); exact RO.ofl (by rw [one_o (by omega) (by omega), e2, bnd_r, e3, bnd_l]) (by omega) x1 x2) | exact RO.ofr (by rw [one_o (by omega) (by omega), e2, bnd_r, e3, bnd_r]) (by omega) ⟨gCT, by omega, by omega⟩ | (rw [one_l (by omega) (by omega) (by omega) (by omega)]; exact o4.map (fun s es h => ⟨h.1, h.2.1, by have h2 := h.2.2; have hl := lea_up es; omega⟩)) | (rw [one_l (by omega) (by omega) (by omega) (by omega)]; exact o5.map (fun s es h => ⟨h.1, h.2.1, by have h2 := h.2.2; have hl := lea_up es; omega⟩)), gWH⟩)
        by_cases c64 : (σ0 1 9).toInt = 31
        · refine lv_tableIn (off := 177) (tgt := 249) hx hb dX7_readOne_72 (by omega) (by omega) (by rw [c64]; rfl) (by decide) ?_
          refine lv_aload_n hx hb dX7_readOne_249 rfl (lv_at hl 1 rfl) ?_
          refine fg_7_2 (k := 27) hx hb hts in_X7_readOne_7 hown hK hP (by decide) (by decide) (hts _ lk_X7_readOne_19) dX7_readOne_250 ?_
          refine lv_iload_n hx hb dX7_readOne_253 rfl (lv_at hl 0 rfl) ?_
          refine r_bipush hx hb dX7_readOne_254 (by decide) (fun z65 ez65 => ?_)
          refine r_iconst hx hb dX7_readOne_256 (by decide) (fun z66 ez66 => ?_)
          refine r_cVi (k := 24) (As := [.int (σ0 1 9), .int z65, .int z66]) (rest := []) ⟨hx, hb, hml, hown, hts⟩ hK hP hN hS (c_X6_add l D cA ad hI σ15 τ15 hR (σ0 1 9) z65 z66 (by omega)) (cwV 3 hts gX7_readOne_X6_add rfl rfl rfl (by decide +kernel) ⟨by decide, by decide⟩) (rv_Sent hK hP (by decide) (by decide)) rfl hl.1 rfl (Nat.le_of_ble_eq_true rfl) dX7_readOne_257 (Nat.zero_le _) (Nat.zero_le _) (fun r67 u67 H67 locs67 hp67 hP hS => ?_)
          obtain ⟨σ67, τ67⟩ := u67
          obtain ⟨hR, f67, fL67, hq67, hp67_0⟩ : P_X6_add σ15 τ15 (σ0 1 9) z65 z66 r67 σ67 τ67 := hp67
          have hP : va_P D vwCl (gw cA ad σ67 τ67) H67 := hP
          obtain rfl := FrL.nil fL67
          have hF := hF.step f67 (by decide)
          have gCT := gCT.ag (Agr.fr f67 (by decide))
          have gWH := gWH.ag (Agr.fr f67 (by decide))
          have t68 : (σ67 24 1).toInt = (σ15 24 1).toInt := congrArg Int32.toInt (f67.at 24 1 (by decide))
          have hr69 := rg_6_2 hR (k := 24) (by decide) (by decide)
          exact r_zret hx hb hr hK hP hS hk (by omega) dX7_readOne_260 (show P_X7_readOne_d8 σ0 τ0 a1 b N mo q nn nm hc r67 σ67 τ15 from ⟨hR, hF, hFL, by omega, by first | exact RO.ofr ((one_l (by omega) (by omega) (by omega) (by omega)).trans (lea_n (by omega) (by omega))) (by omega) ⟨gCT, by omega, by omega⟩ | (exfalso; omega) | exact RO.ofk (one_x (by omega)) (by omega) (by omega) (by omega) | exact RO.ofk (one_4 (by omega) (by omega)) (by omega) (by omega) (by omega) | (obtain ⟨f, e1, x1, x2⟩ := o1.no (by omega); exact RO.ofl ((one_n (by omega) (by omega)).trans e1) (by omega) x1 x2) | exact RO.ofr ((one_n (by omega) (by omega)).trans e1) (by omega) ⟨gCT, by omega, by omega⟩ | (obtain ⟨f, e2, x1, x2⟩ := o2.no (by omega); exact RO.ofl (by rw [one_o (by omega) (by omega), e2, bnd_l]) (by omega) x1 x2) | (obtain ⟨f, e3, x1, x2⟩ := o3.no (by omega); exact RO.ofl (by rw [one_o (by omega) (by omega), e2, bnd_r, e3, bnd_l]) (by omega) x1 x2) | exact RO.ofr (by rw [one_o (by omega) (by omega), e2, bnd_r, e3, bnd_r]) (by omega) ⟨gCT, by omega, by omega⟩ | (rw [one_l (by omega) (by omega) (by omega) (by omega)]; exact o4.map (fun s es h => ⟨h.1, h.2.1, by have h2 := h.2.2; have hl := lea_up es; omega⟩)) | (rw [one_l (by omega) (by omega) (by omega) (by omega)]; exact o5.map (fun s es h => ⟨h.1, h.2.1, by have h2 := h.2.2; have hl := lea_up es; omega⟩)), gWH⟩)
        by_cases c70 : (σ0 1 9).toInt = 32
        · refine lv_tableIn (off := 177) (tgt := 249) hx hb dX7_readOne_72 (by omega) (by omega) (by rw [c70]; rfl) (by decide) ?_
          refine lv_aload_n hx hb dX7_readOne_249 rfl (lv_at hl 1 rfl) ?_
          refine fg_7_2 (k := 27) hx hb hts in_X7_readOne_7 hown hK hP (by decide) (by decide) (hts _ lk_X7_readOne_19) dX7_readOne_250 ?_
          refine lv_iload_n hx hb dX7_readOne_253 rfl (lv_at hl 0 rfl) ?_
          refine r_bipush hx hb dX7_readOne_254 (by decide) (fun z71 ez71 => ?_)
          refine r_iconst hx hb dX7_readOne_256 (by decide) (fun z72 ez72 => ?_)
          refine r_cVi (k := 24) (As := [.int (σ0 1 9), .int z71, .int z72]) (rest := []) ⟨hx, hb, hml, hown, hts⟩ hK hP hN hS (c_X6_add l D cA ad hI σ15 τ15 hR (σ0 1 9) z71 z72 (by omega)) (cwV 3 hts gX7_readOne_X6_add rfl rfl rfl (by decide +kernel) ⟨by decide, by decide⟩) (rv_Sent hK hP (by decide) (by decide)) rfl hl.1 rfl (Nat.le_of_ble_eq_true rfl) dX7_readOne_257 (Nat.zero_le _) (Nat.zero_le _) (fun r73 u73 H73 locs73 hp73 hP hS => ?_)
          obtain ⟨σ73, τ73⟩ := u73
          obtain ⟨hR, f73, fL73, hq73, hp73_0⟩ : P_X6_add σ15 τ15 (σ0 1 9) z71 z72 r73 σ73 τ73 := hp73
          have hP : va_P D vwCl (gw cA ad σ73 τ73) H73 := hP
          obtain rfl := FrL.nil fL73
          have hF := hF.step f73 (by decide)
          have gCT := gCT.ag (Agr.fr f73 (by decide))
          have gWH := gWH.ag (Agr.fr f73 (by decide))
          have t74 : (σ73 24 1).toInt = (σ15 24 1).toInt := congrArg Int32.toInt (f73.at 24 1 (by decide))
          have hr75 := rg_6_2 hR (k := 24) (by decide) (by decide)
          exact r_zret hx hb hr hK hP hS hk (by omega) dX7_readOne_260 (show P_X7_readOne_d8 σ0 τ0 a1 b N mo q nn nm hc r73 σ73 τ15 from ⟨hR, hF, hFL, by omega, by first | exact RO.ofr ((one_l (by omega) (by omega) (by omega) (by omega)).trans (lea_n (by omega) (by omega))) (by omega) ⟨gCT, by omega, by omega⟩ | (exfalso; omega) | exact RO.ofk (one_x (by omega)) (by omega) (by omega) (by omega) | exact RO.ofk (one_4 (by omega) (by omega)) (by omega) (by omega) (by omega) | (obtain ⟨f, e1, x1, x2⟩ := o1.no (by omega); exact RO.ofl ((one_n (by omega) (by omega)).trans e1) (by omega) x1 x2) | exact RO.ofr ((one_n (by omega) (by omega)).trans e1) (by omega) ⟨gCT, by omega, by omega⟩ | (obtain ⟨f, e2, x1, x2⟩ := o2.no (by omega); exact RO.ofl (by rw [one_o (by omega) (by omega), e2, bnd_l]) (by omega) x1 x2) | (obtain ⟨f, e3, x1, x2⟩ := o3.no (by omega); exact RO.ofl (by rw [one_o (by omega) (by omega), e2, bnd_r, e3, bnd_l]) (by omega) x1 x2) | exact RO.ofr (by rw [one_o (by omega) (by omega), e2, bnd_r, e3, bnd_r]) (by omega) ⟨gCT, by omega, by omega⟩ | (rw [one_l (by omega) (by omega) (by omega) (by omega)]; exact o4.map (fun s es h => ⟨h.1, h.2.1, by have h2 := h.2.2; have hl := lea_up es; omega⟩)) | (rw [one_l (by omega) (by omega) (by omega) (by omega)]; exact o5.map (fun s es h => ⟨h.1, h.2.1, by have h2 := h.2.2; have hl := lea_up es; omega⟩)), gWH⟩)
        by_cases c76 : (σ0 1 9).toInt = 33
        · refine lv_tableIn (off := 177) (tgt := 249) hx hb dX7_readOne_72 (by omega) (by omega) (by rw [c76]; rfl) (by decide) ?_
          refine lv_aload_n hx hb dX7_readOne_249 rfl (lv_at hl 1 rfl) ?_
          refine fg_7_2 (k := 27) hx hb hts in_X7_readOne_7 hown hK hP (by decide) (by decide) (hts _ lk_X7_readOne_19) dX7_readOne_250 ?_
          refine lv_iload_n hx hb dX7_readOne_253 rfl (lv_at hl 0 rfl) ?_
          refine r_bipush hx hb dX7_readOne_254 (by decide) (fun z77 ez77 => ?_)
          refine r_iconst hx hb dX7_readOne_256 (by decide) (fun z78 ez78 => ?_)
          refine r_cVi (k := 24) (As := [.int (σ0 1 9), .int z77, .int z78]) (rest := []) ⟨hx, hb, hml, hown, hts⟩ hK hP hN hS (c_X6_add l D cA ad hI σ15 τ15 hR (σ0 1 9) z77 z78 (by omega)) (cwV 3 hts gX7_readOne_X6_add rfl rfl rfl (by decide +kernel) ⟨by decide, by decide⟩) (rv_Sent hK hP (by decide) (by decide)) rfl hl.1 rfl (Nat.le_of_ble_eq_true rfl) dX7_readOne_257 (Nat.zero_le _) (Nat.zero_le _) (fun r79 u79 H79 locs79 hp79 hP hS => ?_)
          obtain ⟨σ79, τ79⟩ := u79
          obtain ⟨hR, f79, fL79, hq79, hp79_0⟩ : P_X6_add σ15 τ15 (σ0 1 9) z77 z78 r79 σ79 τ79 := hp79
          have hP : va_P D vwCl (gw cA ad σ79 τ79) H79 := hP
          obtain rfl := FrL.nil fL79
          have hF := hF.step f79 (by decide)
          have gCT := gCT.ag (Agr.fr f79 (by decide))
          have gWH := gWH.ag (Agr.fr f79 (by decide))
          have t80 : (σ79 24 1).toInt = (σ15 24 1).toInt := congrArg Int32.toInt (f79.at 24 1 (by decide))
          have hr81 := rg_6_2 hR (k := 24) (by decide) (by decide)
          exact r_zret hx hb hr hK hP hS hk (by omega) dX7_readOne_260 (show P_X7_readOne_d8 σ0 τ0 a1 b N mo q nn nm hc r79 σ79 τ15 from ⟨hR, hF, hFL, by omega, by first | exact RO.ofr ((one_l (by omega) (by omega) (by omega) (by omega)).trans (lea_n (by omega) (by omega))) (by omega) ⟨gCT, by omega, by omega⟩ | (exfalso; omega) | exact RO.ofk (one_x (by omega)) (by omega) (by omega) (by omega) | exact RO.ofk (one_4 (by omega) (by omega)) (by omega) (by omega) (by omega) | (obtain ⟨f, e1, x1, x2⟩ := o1.no (by omega); exact RO.ofl ((one_n (by omega) (by omega)).trans e1) (by omega) x1 x2) | exact RO.ofr ((one_n (by omega) (by omega)).trans e1) (by omega) ⟨gCT, by omega, by omega⟩ | (obtain ⟨f, e2, x1, x2⟩ := o2.no (by omega); exact RO.ofl (by rw [one_o (by omega) (by omega), e2, bnd_l]) (by omega) x1 x2) | (obtain ⟨f, e3, x1, x2⟩ := o3.no (by omega); exact RO.ofl (by rw [one_o (by omega) (by omega), e2, bnd_r, e3, bnd_l]) (by omega) x1 x2) | exact RO.ofr (by rw [one_o (by omega) (by omega), e2, bnd_r, e3, bnd_r]) (by omega) ⟨gCT, by omega, by omega⟩ | (rw [one_l (by omega) (by omega) (by omega) (by omega)]; exact o4.map (fun s es h => ⟨h.1, h.2.1, by have h2 := h.2.2; have hl := lea_up es; omega⟩)) | (rw [one_l (by omega) (by omega) (by omega) (by omega)]; exact o5.map (fun s es h => ⟨h.1, h.2.1, by have h2 := h.2.2; have hl := lea_up es; omega⟩)), gWH⟩)
        by_cases c82 : (σ0 1 9).toInt = 34
        · refine lv_tableIn (off := 177) (tgt := 249) hx hb dX7_readOne_72 (by omega) (by omega) (by rw [c82]; rfl) (by decide) ?_
          refine lv_aload_n hx hb dX7_readOne_249 rfl (lv_at hl 1 rfl) ?_
          refine fg_7_2 (k := 27) hx hb hts in_X7_readOne_7 hown hK hP (by decide) (by decide) (hts _ lk_X7_readOne_19) dX7_readOne_250 ?_
          refine lv_iload_n hx hb dX7_readOne_253 rfl (lv_at hl 0 rfl) ?_
          refine r_bipush hx hb dX7_readOne_254 (by decide) (fun z83 ez83 => ?_)
          refine r_iconst hx hb dX7_readOne_256 (by decide) (fun z84 ez84 => ?_)
          refine r_cVi (k := 24) (As := [.int (σ0 1 9), .int z83, .int z84]) (rest := []) ⟨hx, hb, hml, hown, hts⟩ hK hP hN hS (c_X6_add l D cA ad hI σ15 τ15 hR (σ0 1 9) z83 z84 (by omega)) (cwV 3 hts gX7_readOne_X6_add rfl rfl rfl (by decide +kernel) ⟨by decide, by decide⟩) (rv_Sent hK hP (by decide) (by decide)) rfl hl.1 rfl (Nat.le_of_ble_eq_true rfl) dX7_readOne_257 (Nat.zero_le _) (Nat.zero_le _) (fun r85 u85 H85 locs85 hp85 hP hS => ?_)
          obtain ⟨σ85, τ85⟩ := u85
          obtain ⟨hR, f85, fL85, hq85, hp85_0⟩ : P_X6_add σ15 τ15 (σ0 1 9) z83 z84 r85 σ85 τ85 := hp85
          have hP : va_P D vwCl (gw cA ad σ85 τ85) H85 := hP
          obtain rfl := FrL.nil fL85
          have hF := hF.step f85 (by decide)
          have gCT := gCT.ag (Agr.fr f85 (by decide))
          have gWH := gWH.ag (Agr.fr f85 (by decide))
          have t86 : (σ85 24 1).toInt = (σ15 24 1).toInt := congrArg Int32.toInt (f85.at 24 1 (by decide))
          have hr87 := rg_6_2 hR (k := 24) (by decide) (by decide)
          exact r_zret hx hb hr hK hP hS hk (by omega) dX7_readOne_260 (show P_X7_readOne_d8 σ0 τ0 a1 b N mo q nn nm hc r85 σ85 τ15 from ⟨hR, hF, hFL, by omega, by first | exact RO.ofr ((one_l (by omega) (by omega) (by omega) (by omega)).trans (lea_n (by omega) (by omega))) (by omega) ⟨gCT, by omega, by omega⟩ | (exfalso; omega) | exact RO.ofk (one_x (by omega)) (by omega) (by omega) (by omega) | exact RO.ofk (one_4 (by omega) (by omega)) (by omega) (by omega) (by omega) | (obtain ⟨f, e1, x1, x2⟩ := o1.no (by omega); exact RO.ofl ((one_n (by omega) (by omega)).trans e1) (by omega) x1 x2) | exact RO.ofr ((one_n (by omega) (by omega)).trans e1) (by omega) ⟨gCT, by omega, by omega⟩ | (obtain ⟨f, e2, x1, x2⟩ := o2.no (by omega); exact RO.ofl (by rw [one_o (by omega) (by omega), e2, bnd_l]) (by omega) x1 x2) | (obtain ⟨f, e3, x1, x2⟩ := o3.no (by omega); exact RO.ofl (by rw [one_o (by omega) (by omega), e2, bnd_r, e3, bnd_l]) (by omega) x1 x2) | exact RO.ofr (by rw [one_o (by omega) (by omega), e2, bnd_r, e3, bnd_r]) (by omega) ⟨gCT, by omega, by omega⟩ | (rw [one_l (by omega) (by omega) (by omega) (by omega)]; exact o4.map (fun s es h => ⟨h.1, h.2.1, by have h2 := h.2.2; have hl := lea_up es; omega⟩)) | (rw [one_l (by omega) (by omega) (by omega) (by omega)]; exact o5.map (fun s es h => ⟨h.1, h.2.1, by have h2 := h.2.2; have hl := lea_up es; omega⟩)), gWH⟩)
        by_cases c88 : (σ0 1 9).toInt = 35
        · refine lv_tableIn (off := 177) (tgt := 249) hx hb dX7_readOne_72 (by omega) (by omega) (by rw [c88]; rfl) (by decide) ?_
          refine lv_aload_n hx hb dX7_readOne_249 rfl (lv_at hl 1 rfl) ?_
          refine fg_7_2 (k := 27) hx hb hts in_X7_readOne_7 hown hK hP (by decide) (by decide) (hts _ lk_X7_readOne_19) dX7_readOne_250 ?_
          refine lv_iload_n hx hb dX7_readOne_253 rfl (lv_at hl 0 rfl) ?_
          refine r_bipush hx hb dX7_readOne_254 (by decide) (fun z89 ez89 => ?_)
          refine r_iconst hx hb dX7_readOne_256 (by decide) (fun z90 ez90 => ?_)
          refine r_cVi (k := 24) (As := [.int (σ0 1 9), .int z89, .int z90]) (rest := []) ⟨hx, hb, hml, hown, hts⟩ hK hP hN hS (c_X6_add l D cA ad hI σ15 τ15 hR (σ0 1 9) z89 z90 (by omega)) (cwV 3 hts gX7_readOne_X6_add rfl rfl rfl (by decide +kernel) ⟨by decide, by decide⟩) (rv_Sent hK hP (by decide) (by decide)) rfl hl.1 rfl (Nat.le_of_ble_eq_true rfl) dX7_readOne_257 (Nat.zero_le _) (Nat.zero_le _) (fun r91 u91 H91 locs91 hp91 hP hS => ?_)
          obtain ⟨σ91, τ91⟩ := u91
          obtain ⟨hR, f91, fL91, hq91, hp91_0⟩ : P_X6_add σ15 τ15 (σ0 1 9) z89 z90 r91 σ91 τ91 := hp91
          have hP : va_P D vwCl (gw cA ad σ91 τ91) H91 := hP
          obtain rfl := FrL.nil fL91
          have hF := hF.step f91 (by decide)
          have gCT := gCT.ag (Agr.fr f91 (by decide))
          have gWH := gWH.ag (Agr.fr f91 (by decide))
          have t92 : (σ91 24 1).toInt = (σ15 24 1).toInt := congrArg Int32.toInt (f91.at 24 1 (by decide))
          have hr93 := rg_6_2 hR (k := 24) (by decide) (by decide)
          exact r_zret hx hb hr hK hP hS hk (by omega) dX7_readOne_260 (show P_X7_readOne_d8 σ0 τ0 a1 b N mo q nn nm hc r91 σ91 τ15 from ⟨hR, hF, hFL, by omega, by first | exact RO.ofr ((one_l (by omega) (by omega) (by omega) (by omega)).trans (lea_n (by omega) (by omega))) (by omega) ⟨gCT, by omega, by omega⟩ | (exfalso; omega) | exact RO.ofk (one_x (by omega)) (by omega) (by omega) (by omega) | exact RO.ofk (one_4 (by omega) (by omega)) (by omega) (by omega) (by omega) | (obtain ⟨f, e1, x1, x2⟩ := o1.no (by omega); exact RO.ofl ((one_n (by omega) (by omega)).trans e1) (by omega) x1 x2) | exact RO.ofr ((one_n (by omega) (by omega)).trans e1) (by omega) ⟨gCT, by omega, by omega⟩ | (obtain ⟨f, e2, x1, x2⟩ := o2.no (by omega); exact RO.ofl (by rw [one_o (by omega) (by omega), e2, bnd_l]) (by omega) x1 x2) | (obtain ⟨f, e3, x1, x2⟩ := o3.no (by omega); exact RO.ofl (by rw [one_o (by omega) (by omega), e2, bnd_r, e3, bnd_l]) (by omega) x1 x2) | exact RO.ofr (by rw [one_o (by omega) (by omega), e2, bnd_r, e3, bnd_r]) (by omega) ⟨gCT, by omega, by omega⟩ | (rw [one_l (by omega) (by omega) (by omega) (by omega)]; exact o4.map (fun s es h => ⟨h.1, h.2.1, by have h2 := h.2.2; have hl := lea_up es; omega⟩)) | (rw [one_l (by omega) (by omega) (by omega) (by omega)]; exact o5.map (fun s es h => ⟨h.1, h.2.1, by have h2 := h.2.2; have hl := lea_up es; omega⟩)), gWH⟩)
        by_cases c94 : (σ0 1 9).toInt = 36
        · refine lv_tableIn (off := 177) (tgt := 249) hx hb dX7_readOne_72 (by omega) (by omega) (by rw [c94]; rfl) (by decide) ?_
          refine lv_aload_n hx hb dX7_readOne_249 rfl (lv_at hl 1 rfl) ?_
          refine fg_7_2 (k := 27) hx hb hts in_X7_readOne_7 hown hK hP (by decide) (by decide) (hts _ lk_X7_readOne_19) dX7_readOne_250 ?_
          refine lv_iload_n hx hb dX7_readOne_253 rfl (lv_at hl 0 rfl) ?_
          refine r_bipush hx hb dX7_readOne_254 (by decide) (fun z95 ez95 => ?_)
          refine r_iconst hx hb dX7_readOne_256 (by decide) (fun z96 ez96 => ?_)
          refine r_cVi (k := 24) (As := [.int (σ0 1 9), .int z95, .int z96]) (rest := []) ⟨hx, hb, hml, hown, hts⟩ hK hP hN hS (c_X6_add l D cA ad hI σ15 τ15 hR (σ0 1 9) z95 z96 (by omega)) (cwV 3 hts gX7_readOne_X6_add rfl rfl rfl (by decide +kernel) ⟨by decide, by decide⟩) (rv_Sent hK hP (by decide) (by decide)) rfl hl.1 rfl (Nat.le_of_ble_eq_true rfl) dX7_readOne_257 (Nat.zero_le _) (Nat.zero_le _) (fun r97 u97 H97 locs97 hp97 hP hS => ?_)
          obtain ⟨σ97, τ97⟩ := u97
          obtain ⟨hR, f97, fL97, hq97, hp97_0⟩ : P_X6_add σ15 τ15 (σ0 1 9) z95 z96 r97 σ97 τ97 := hp97
          have hP : va_P D vwCl (gw cA ad σ97 τ97) H97 := hP
          obtain rfl := FrL.nil fL97
          have hF := hF.step f97 (by decide)
          have gCT := gCT.ag (Agr.fr f97 (by decide))
          have gWH := gWH.ag (Agr.fr f97 (by decide))
          have t98 : (σ97 24 1).toInt = (σ15 24 1).toInt := congrArg Int32.toInt (f97.at 24 1 (by decide))
          have hr99 := rg_6_2 hR (k := 24) (by decide) (by decide)
          exact r_zret hx hb hr hK hP hS hk (by omega) dX7_readOne_260 (show P_X7_readOne_d8 σ0 τ0 a1 b N mo q nn nm hc r97 σ97 τ15 from ⟨hR, hF, hFL, by omega, by first | exact RO.ofr ((one_l (by omega) (by omega) (by omega) (by omega)).trans (lea_n (by omega) (by omega))) (by omega) ⟨gCT, by omega, by omega⟩ | (exfalso; omega) | exact RO.ofk (one_x (by omega)) (by omega) (by omega) (by omega) | exact RO.ofk (one_4 (by omega) (by omega)) (by omega) (by omega) (by omega) | (obtain ⟨f, e1, x1, x2⟩ := o1.no (by omega); exact RO.ofl ((one_n (by omega) (by omega)).trans e1) (by omega) x1 x2) | exact RO.ofr ((one_n (by omega) (by omega)).trans e1) (by omega) ⟨gCT, by omega, by omega⟩ | (obtain ⟨f, e2, x1, x2⟩ := o2.no (by omega); exact RO.ofl (by rw [one_o (by omega) (by omega), e2, bnd_l]) (by omega) x1 x2) | (obtain ⟨f, e3, x1, x2⟩ := o3.no (by omega); exact RO.ofl (by rw [one_o (by omega) (by omega), e2, bnd_r, e3, bnd_l]) (by omega) x1 x2) | exact RO.ofr (by rw [one_o (by omega) (by omega), e2, bnd_r, e3, bnd_r]) (by omega) ⟨gCT, by omega, by omega⟩ | (rw [one_l (by omega) (by omega) (by omega) (by omega)]; exact o4.map (fun s es h => ⟨h.1, h.2.1, by have h2 := h.2.2; have hl := lea_up es; omega⟩)) | (rw [one_l (by omega) (by omega) (by omega) (by omega)]; exact o5.map (fun s es h => ⟨h.1, h.2.1, by have h2 := h.2.2; have hl := lea_up es; omega⟩)), gWH⟩)
        by_cases c100 : (σ0 1 9).toInt = 37
        · refine lv_tableIn (off := 177) (tgt := 249) hx hb dX7_readOne_72 (by omega) (by omega) (by rw [c100]; rfl) (by decide) ?_
          refine lv_aload_n hx hb dX7_readOne_249 rfl (lv_at hl 1 rfl) ?_
          refine fg_7_2 (k := 27) hx hb hts in_X7_readOne_7 hown hK hP (by decide) (by decide) (hts _ lk_X7_readOne_19) dX7_readOne_250 ?_
          refine lv_iload_n hx hb dX7_readOne_253 rfl (lv_at hl 0 rfl) ?_
          refine r_bipush hx hb dX7_readOne_254 (by decide) (fun z101 ez101 => ?_)
          refine r_iconst hx hb dX7_readOne_256 (by decide) (fun z102 ez102 => ?_)
          refine r_cVi (k := 24) (As := [.int (σ0 1 9), .int z101, .int z102]) (rest := []) ⟨hx, hb, hml, hown, hts⟩ hK hP hN hS (c_X6_add l D cA ad hI σ15 τ15 hR (σ0 1 9) z101 z102 (by omega)) (cwV 3 hts gX7_readOne_X6_add rfl rfl rfl (by decide +kernel) ⟨by decide, by decide⟩) (rv_Sent hK hP (by decide) (by decide)) rfl hl.1 rfl (Nat.le_of_ble_eq_true rfl) dX7_readOne_257 (Nat.zero_le _) (Nat.zero_le _) (fun r103 u103 H103 locs103 hp103 hP hS => ?_)
          obtain ⟨σ103, τ103⟩ := u103
          obtain ⟨hR, f103, fL103, hq103, hp103_0⟩ : P_X6_add σ15 τ15 (σ0 1 9) z101 z102 r103 σ103 τ103 := hp103
          have hP : va_P D vwCl (gw cA ad σ103 τ103) H103 := hP
          obtain rfl := FrL.nil fL103
          have hF := hF.step f103 (by decide)
          have gCT := gCT.ag (Agr.fr f103 (by decide))
          have gWH := gWH.ag (Agr.fr f103 (by decide))
          have t104 : (σ103 24 1).toInt = (σ15 24 1).toInt := congrArg Int32.toInt (f103.at 24 1 (by decide))
          have hr105 := rg_6_2 hR (k := 24) (by decide) (by decide)
          exact r_zret hx hb hr hK hP hS hk (by omega) dX7_readOne_260 (show P_X7_readOne_d8 σ0 τ0 a1 b N mo q nn nm hc r103 σ103 τ15 from ⟨hR, hF, hFL, by omega, by first | exact RO.ofr ((one_l (by omega) (by omega) (by omega) (by omega)).trans (lea_n (by omega) (by omega))) (by omega) ⟨gCT, by omega, by omega⟩ | (exfalso; omega) | exact RO.ofk (one_x (by omega)) (by omega) (by omega) (by omega) | exact RO.ofk (one_4 (by omega) (by omega)) (by omega) (by omega) (by omega) | (obtain ⟨f, e1, x1, x2⟩ := o1.no (by omega); exact RO.ofl ((one_n (by omega) (by omega)).trans e1) (by omega) x1 x2) | exact RO.ofr ((one_n (by omega) (by omega)).trans e1) (by omega) ⟨gCT, by omega, by omega⟩ | (obtain ⟨f, e2, x1, x2⟩ := o2.no (by omega); exact RO.ofl (by rw [one_o (by omega) (by omega), e2, bnd_l]) (by omega) x1 x2) | (obtain ⟨f, e3, x1, x2⟩ := o3.no (by omega); exact RO.ofl (by rw [one_o (by omega) (by omega), e2, bnd_r, e3, bnd_l]) (by omega) x1 x2) | exact RO.ofr (by rw [one_o (by omega) (by omega), e2, bnd_r, e3, bnd_r]) (by omega) ⟨gCT, by omega, by omega⟩ | (rw [one_l (by omega) (by omega) (by omega) (by omega)]; exact o4.map (fun s es h => ⟨h.1, h.2.1, by have h2 := h.2.2; have hl := lea_up es; omega⟩)) | (rw [one_l (by omega) (by omega) (by omega) (by omega)]; exact o5.map (fun s es h => ⟨h.1, h.2.1, by have h2 := h.2.2; have hl := lea_up es; omega⟩)), gWH⟩)
        by_cases c106 : (σ0 1 9).toInt = 38
        · refine lv_tableIn (off := 177) (tgt := 249) hx hb dX7_readOne_72 (by omega) (by omega) (by rw [c106]; rfl) (by decide) ?_
          refine lv_aload_n hx hb dX7_readOne_249 rfl (lv_at hl 1 rfl) ?_
          refine fg_7_2 (k := 27) hx hb hts in_X7_readOne_7 hown hK hP (by decide) (by decide) (hts _ lk_X7_readOne_19) dX7_readOne_250 ?_
          refine lv_iload_n hx hb dX7_readOne_253 rfl (lv_at hl 0 rfl) ?_
          refine r_bipush hx hb dX7_readOne_254 (by decide) (fun z107 ez107 => ?_)
          refine r_iconst hx hb dX7_readOne_256 (by decide) (fun z108 ez108 => ?_)
          refine r_cVi (k := 24) (As := [.int (σ0 1 9), .int z107, .int z108]) (rest := []) ⟨hx, hb, hml, hown, hts⟩ hK hP hN hS (c_X6_add l D cA ad hI σ15 τ15 hR (σ0 1 9) z107 z108 (by omega)) (cwV 3 hts gX7_readOne_X6_add rfl rfl rfl (by decide +kernel) ⟨by decide, by decide⟩) (rv_Sent hK hP (by decide) (by decide)) rfl hl.1 rfl (Nat.le_of_ble_eq_true rfl) dX7_readOne_257 (Nat.zero_le _) (Nat.zero_le _) (fun r109 u109 H109 locs109 hp109 hP hS => ?_)
          obtain ⟨σ109, τ109⟩ := u109
          obtain ⟨hR, f109, fL109, hq109, hp109_0⟩ : P_X6_add σ15 τ15 (σ0 1 9) z107 z108 r109 σ109 τ109 := hp109
          have hP : va_P D vwCl (gw cA ad σ109 τ109) H109 := hP
          obtain rfl := FrL.nil fL109
          have hF := hF.step f109 (by decide)
          have gCT := gCT.ag (Agr.fr f109 (by decide))
          have gWH := gWH.ag (Agr.fr f109 (by decide))
          have t110 : (σ109 24 1).toInt = (σ15 24 1).toInt := congrArg Int32.toInt (f109.at 24 1 (by decide))
          have hr111 := rg_6_2 hR (k := 24) (by decide) (by decide)
          exact r_zret hx hb hr hK hP hS hk (by omega) dX7_readOne_260 (show P_X7_readOne_d8 σ0 τ0 a1 b N mo q nn nm hc r109 σ109 τ15 from ⟨hR, hF, hFL, by omega, by first | exact RO.ofr ((one_l (by omega) (by omega) (by omega) (by omega)).trans (lea_n (by omega) (by omega))) (by omega) ⟨gCT, by omega, by omega⟩ | (exfalso; omega) | exact RO.ofk (one_x (by omega)) (by omega) (by omega) (by omega) | exact RO.ofk (one_4 (by omega) (by omega)) (by omega) (by omega) (by omega) | (obtain ⟨f, e1, x1, x2⟩ := o1.no (by omega); exact RO.ofl ((one_n (by omega) (by omega)).trans e1) (by omega) x1 x2) | exact RO.ofr ((one_n (by omega) (by omega)).trans e1) (by omega) ⟨gCT, by omega, by omega⟩ | (obtain ⟨f, e2, x1, x2⟩ := o2.no (by omega); exact RO.ofl (by rw [one_o (by omega) (by omega), e2, bnd_l]) (by omega) x1 x2) | (obtain ⟨f, e3, x1, x2⟩ := o3.no (by omega); exact RO.ofl (by rw [one_o (by omega) (by omega), e2, bnd_r, e3, bnd_l]) (by omega) x1 x2) | exact RO.ofr (by rw [one_o (by omega) (by omega), e2, bnd_r, e3, bnd_r]) (by omega) ⟨gCT, by omega, by omega⟩ | (rw [one_l (by omega) (by omega) (by omega) (by omega)]; exact o4.map (fun s es h => ⟨h.1, h.2.1, by have h2 := h.2.2; have hl := lea_up es; omega⟩)) | (rw [one_l (by omega) (by omega) (by omega) (by omega)]; exact o5.map (fun s es h => ⟨h.1, h.2.1, by have h2 := h.2.2; have hl := lea_up es; omega⟩)), gWH⟩)
        by_cases c112 : (σ0 1 9).toInt = 39
        · refine lv_tableIn (off := 177) (tgt := 249) hx hb dX7_readOne_72 (by omega) (by omega) (by rw [c112]; rfl) (by decide) ?_
          refine lv_aload_n hx hb dX7_readOne_249 rfl (lv_at hl 1 rfl) ?_
          refine fg_7_2 (k := 27) hx hb hts in_X7_readOne_7 hown hK hP (by decide) (by decide) (hts _ lk_X7_readOne_19) dX7_readOne_250 ?_
          refine lv_iload_n hx hb dX7_readOne_253 rfl (lv_at hl 0 rfl) ?_
          refine r_bipush hx hb dX7_readOne_254 (by decide) (fun z113 ez113 => ?_)
          refine r_iconst hx hb dX7_readOne_256 (by decide) (fun z114 ez114 => ?_)
          refine r_cVi (k := 24) (As := [.int (σ0 1 9), .int z113, .int z114]) (rest := []) ⟨hx, hb, hml, hown, hts⟩ hK hP hN hS (c_X6_add l D cA ad hI σ15 τ15 hR (σ0 1 9) z113 z114 (by omega)) (cwV 3 hts gX7_readOne_X6_add rfl rfl rfl (by decide +kernel) ⟨by decide, by decide⟩) (rv_Sent hK hP (by decide) (by decide)) rfl hl.1 rfl (Nat.le_of_ble_eq_true rfl) dX7_readOne_257 (Nat.zero_le _) (Nat.zero_le _) (fun r115 u115 H115 locs115 hp115 hP hS => ?_)
          obtain ⟨σ115, τ115⟩ := u115
          obtain ⟨hR, f115, fL115, hq115, hp115_0⟩ : P_X6_add σ15 τ15 (σ0 1 9) z113 z114 r115 σ115 τ115 := hp115
          have hP : va_P D vwCl (gw cA ad σ115 τ115) H115 := hP
          obtain rfl := FrL.nil fL115
          have hF := hF.step f115 (by decide)
          have gCT := gCT.ag (Agr.fr f115 (by decide))
          have gWH := gWH.ag (Agr.fr f115 (by decide))
          have t116 : (σ115 24 1).toInt = (σ15 24 1).toInt := congrArg Int32.toInt (f115.at 24 1 (by decide))
          have hr117 := rg_6_2 hR (k := 24) (by decide) (by decide)
          exact r_zret hx hb hr hK hP hS hk (by omega) dX7_readOne_260 (show P_X7_readOne_d8 σ0 τ0 a1 b N mo q nn nm hc r115 σ115 τ15 from ⟨hR, hF, hFL, by omega, by first | exact RO.ofr ((one_l (by omega) (by omega) (by omega) (by omega)).trans (lea_n (by omega) (by omega))) (by omega) ⟨gCT, by omega, by omega⟩ | (exfalso; omega) | exact RO.ofk (one_x (by omega)) (by omega) (by omega) (by omega) | exact RO.ofk (one_4 (by omega) (by omega)) (by omega) (by omega) (by omega) | (obtain ⟨f, e1, x1, x2⟩ := o1.no (by omega); exact RO.ofl ((one_n (by omega) (by omega)).trans e1) (by omega) x1 x2) | exact RO.ofr ((one_n (by omega) (by omega)).trans e1) (by omega) ⟨gCT, by omega, by omega⟩ | (obtain ⟨f, e2, x1, x2⟩ := o2.no (by omega); exact RO.ofl (by rw [one_o (by omega) (by omega), e2, bnd_l]) (by omega) x1 x2) | (obtain ⟨f, e3, x1, x2⟩ := o3.no (by omega); exact RO.ofl (by rw [one_o (by omega) (by omega), e2, bnd_r, e3, bnd_l]) (by omega) x1 x2) | exact RO.ofr (by rw [one_o (by omega) (by omega), e2, bnd_r, e3, bnd_r]) (by omega) ⟨gCT, by omega, by omega⟩ | (rw [one_l (by omega) (by omega) (by omega) (by omega)]; exact o4.map (fun s es h => ⟨h.1, h.2.1, by have h2 := h.2.2; have hl := lea_up es; omega⟩)) | (rw [one_l (by omega) (by omega) (by omega) (by omega)]; exact o5.map (fun s es h => ⟨h.1, h.2.1, by have h2 := h.2.2; have hl := lea_up es; omega⟩)), gWH⟩)
        by_cases c118 : (σ0 1 9).toInt = 40
        · refine lv_tableIn (off := 177) (tgt := 249) hx hb dX7_readOne_72 (by omega) (by omega) (by rw [c118]; rfl) (by decide) ?_
          refine lv_aload_n hx hb dX7_readOne_249 rfl (lv_at hl 1 rfl) ?_
          refine fg_7_2 (k := 27) hx hb hts in_X7_readOne_7 hown hK hP (by decide) (by decide) (hts _ lk_X7_readOne_19) dX7_readOne_250 ?_
          refine lv_iload_n hx hb dX7_readOne_253 rfl (lv_at hl 0 rfl) ?_
          refine r_bipush hx hb dX7_readOne_254 (by decide) (fun z119 ez119 => ?_)
          refine r_iconst hx hb dX7_readOne_256 (by decide) (fun z120 ez120 => ?_)
          refine r_cVi (k := 24) (As := [.int (σ0 1 9), .int z119, .int z120]) (rest := []) ⟨hx, hb, hml, hown, hts⟩ hK hP hN hS (c_X6_add l D cA ad hI σ15 τ15 hR (σ0 1 9) z119 z120 (by omega)) (cwV 3 hts gX7_readOne_X6_add rfl rfl rfl (by decide +kernel) ⟨by decide, by decide⟩) (rv_Sent hK hP (by decide) (by decide)) rfl hl.1 rfl (Nat.le_of_ble_eq_true rfl) dX7_readOne_257 (Nat.zero_le _) (Nat.zero_le _) (fun r121 u121 H121 locs121 hp121 hP hS => ?_)
          obtain ⟨σ121, τ121⟩ := u121
          obtain ⟨hR, f121, fL121, hq121, hp121_0⟩ : P_X6_add σ15 τ15 (σ0 1 9) z119 z120 r121 σ121 τ121 := hp121
          have hP : va_P D vwCl (gw cA ad σ121 τ121) H121 := hP
          obtain rfl := FrL.nil fL121
          have hF := hF.step f121 (by decide)
          have gCT := gCT.ag (Agr.fr f121 (by decide))
          have gWH := gWH.ag (Agr.fr f121 (by decide))
          have t122 : (σ121 24 1).toInt = (σ15 24 1).toInt := congrArg Int32.toInt (f121.at 24 1 (by decide))
          have hr123 := rg_6_2 hR (k := 24) (by decide) (by decide)
          exact r_zret hx hb hr hK hP hS hk (by omega) dX7_readOne_260 (show P_X7_readOne_d8 σ0 τ0 a1 b N mo q nn nm hc r121 σ121 τ15 from ⟨hR, hF, hFL, by omega, by first | exact RO.ofr ((one_l (by omega) (by omega) (by omega) (by omega)).trans (lea_n (by omega) (by omega))) (by omega) ⟨gCT, by omega, by omega⟩ | (exfalso; omega) | exact RO.ofk (one_x (by omega)) (by omega) (by omega) (by omega) | exact RO.ofk (one_4 (by omega) (by omega)) (by omega) (by omega) (by omega) | (obtain ⟨f, e1, x1, x2⟩ := o1.no (by omega); exact RO.ofl ((one_n (by omega) (by omega)).trans e1) (by omega) x1 x2) | exact RO.ofr ((one_n (by omega) (by omega)).trans e1) (by omega) ⟨gCT, by omega, by omega⟩ | (obtain ⟨f, e2, x1, x2⟩ := o2.no (by omega); exact RO.ofl (by rw [one_o (by omega) (by omega), e2, bnd_l]) (by omega) x1 x2) | (obtain ⟨f, e3, x1, x2⟩ := o3.no (by omega); exact RO.ofl (by rw [one_o (by omega) (by omega), e2, bnd_r, e3, bnd_l]) (by omega) x1 x2) | exact RO.ofr (by rw [one_o (by omega) (by omega), e2, bnd_r, e3, bnd_r]) (by omega) ⟨gCT, by omega, by omega⟩ | (rw [one_l (by omega) (by omega) (by omega) (by omega)]; exact o4.map (fun s es h => ⟨h.1, h.2.1, by have h2 := h.2.2; have hl := lea_up es; omega⟩)) | (rw [one_l (by omega) (by omega) (by omega) (by omega)]; exact o5.map (fun s es h => ⟨h.1, h.2.1, by have h2 := h.2.2; have hl := lea_up es; omega⟩)), gWH⟩)
        by_cases c124 : (σ0 1 9).toInt = 41
        · refine lv_tableIn (off := 177) (tgt := 249) hx hb dX7_readOne_72 (by omega) (by omega) (by rw [c124]; rfl) (by decide) ?_
          refine lv_aload_n hx hb dX7_readOne_249 rfl (lv_at hl 1 rfl) ?_
          refine fg_7_2 (k := 27) hx hb hts in_X7_readOne_7 hown hK hP (by decide) (by decide) (hts _ lk_X7_readOne_19) dX7_readOne_250 ?_
          refine lv_iload_n hx hb dX7_readOne_253 rfl (lv_at hl 0 rfl) ?_
          refine r_bipush hx hb dX7_readOne_254 (by decide) (fun z125 ez125 => ?_)
          refine r_iconst hx hb dX7_readOne_256 (by decide) (fun z126 ez126 => ?_)
          refine r_cVi (k := 24) (As := [.int (σ0 1 9), .int z125, .int z126]) (rest := []) ⟨hx, hb, hml, hown, hts⟩ hK hP hN hS (c_X6_add l D cA ad hI σ15 τ15 hR (σ0 1 9) z125 z126 (by omega)) (cwV 3 hts gX7_readOne_X6_add rfl rfl rfl (by decide +kernel) ⟨by decide, by decide⟩) (rv_Sent hK hP (by decide) (by decide)) rfl hl.1 rfl (Nat.le_of_ble_eq_true rfl) dX7_readOne_257 (Nat.zero_le _) (Nat.zero_le _) (fun r127 u127 H127 locs127 hp127 hP hS => ?_)
          obtain ⟨σ127, τ127⟩ := u127
          obtain ⟨hR, f127, fL127, hq127, hp127_0⟩ : P_X6_add σ15 τ15 (σ0 1 9) z125 z126 r127 σ127 τ127 := hp127
          have hP : va_P D vwCl (gw cA ad σ127 τ127) H127 := hP
          obtain rfl := FrL.nil fL127
          have hF := hF.step f127 (by decide)
          have gCT := gCT.ag (Agr.fr f127 (by decide))
          have gWH := gWH.ag (Agr.fr f127 (by decide))
          have t128 : (σ127 24 1).toInt = (σ15 24 1).toInt := congrArg Int32.toInt (f127.at 24 1 (by decide))
          have hr129 := rg_6_2 hR (k := 24) (by decide) (by decide)
          exact r_zret hx hb hr hK hP hS hk (by omega) dX7_readOne_260 (show P_X7_readOne_d8 σ0 τ0 a1 b N mo q nn nm hc r127 σ127 τ15 from ⟨hR, hF, hFL, by omega, by first | exact RO.ofr ((one_l (by omega) (by omega) (by omega) (by omega)).trans (lea_n (by omega) (by omega))) (by omega) ⟨gCT, by omega, by omega⟩ | (exfalso; omega) | exact RO.ofk (one_x (by omega)) (by omega) (by omega) (by omega) | exact RO.ofk (one_4 (by omega) (by omega)) (by omega) (by omega) (by omega) | (obtain ⟨f, e1, x1, x2⟩ := o1.no (by omega); exact RO.ofl ((one_n (by omega) (by omega)).trans e1) (by omega) x1 x2) | exact RO.ofr ((one_n (by omega) (by omega)).trans e1) (by omega) ⟨gCT, by omega, by omega⟩ | (obtain ⟨f, e2, x1, x2⟩ := o2.no (by omega); exact RO.ofl (by rw [one_o (by omega) (by omega), e2, bnd_l]) (by omega) x1 x2) | (obtain ⟨f, e3, x1, x2⟩ := o3.no (by omega); exact RO.ofl (by rw [one_o (by omega) (by omega), e2, bnd_r, e3, bnd_l]) (by omega) x1 x2) | exact RO.ofr (by rw [one_o (by omega) (by omega), e2, bnd_r, e3, bnd_r]) (by omega) ⟨gCT, by omega, by omega⟩ | (rw [one_l (by omega) (by omega) (by omega) (by omega)]; exact o4.map (fun s es h => ⟨h.1, h.2.1, by have h2 := h.2.2; have hl := lea_up es; omega⟩)) | (rw [one_l (by omega) (by omega) (by omega) (by omega)]; exact o5.map (fun s es h => ⟨h.1, h.2.1, by have h2 := h.2.2; have hl := lea_up es; omega⟩)), gWH⟩)
        by_cases c130 : (σ0 1 9).toInt = 42
        · refine lv_tableIn (off := 177) (tgt := 249) hx hb dX7_readOne_72 (by omega) (by omega) (by rw [c130]; rfl) (by decide) ?_
          refine lv_aload_n hx hb dX7_readOne_249 rfl (lv_at hl 1 rfl) ?_
          refine fg_7_2 (k := 27) hx hb hts in_X7_readOne_7 hown hK hP (by decide) (by decide) (hts _ lk_X7_readOne_19) dX7_readOne_250 ?_
          refine lv_iload_n hx hb dX7_readOne_253 rfl (lv_at hl 0 rfl) ?_
          refine r_bipush hx hb dX7_readOne_254 (by decide) (fun z131 ez131 => ?_)
          refine r_iconst hx hb dX7_readOne_256 (by decide) (fun z132 ez132 => ?_)
          refine r_cVi (k := 24) (As := [.int (σ0 1 9), .int z131, .int z132]) (rest := []) ⟨hx, hb, hml, hown, hts⟩ hK hP hN hS (c_X6_add l D cA ad hI σ15 τ15 hR (σ0 1 9) z131 z132 (by omega)) (cwV 3 hts gX7_readOne_X6_add rfl rfl rfl (by decide +kernel) ⟨by decide, by decide⟩) (rv_Sent hK hP (by decide) (by decide)) rfl hl.1 rfl (Nat.le_of_ble_eq_true rfl) dX7_readOne_257 (Nat.zero_le _) (Nat.zero_le _) (fun r133 u133 H133 locs133 hp133 hP hS => ?_)
          obtain ⟨σ133, τ133⟩ := u133
          obtain ⟨hR, f133, fL133, hq133, hp133_0⟩ : P_X6_add σ15 τ15 (σ0 1 9) z131 z132 r133 σ133 τ133 := hp133
          have hP : va_P D vwCl (gw cA ad σ133 τ133) H133 := hP
          obtain rfl := FrL.nil fL133
          have hF := hF.step f133 (by decide)
          have gCT := gCT.ag (Agr.fr f133 (by decide))
          have gWH := gWH.ag (Agr.fr f133 (by decide))
          have t134 : (σ133 24 1).toInt = (σ15 24 1).toInt := congrArg Int32.toInt (f133.at 24 1 (by decide))
          have hr135 := rg_6_2 hR (k := 24) (by decide) (by decide)
          exact r_zret hx hb hr hK hP hS hk (by omega) dX7_readOne_260 (show P_X7_readOne_d8 σ0 τ0 a1 b N mo q nn nm hc r133 σ133 τ15 from ⟨hR, hF, hFL, by omega, by first | exact RO.ofr ((one_l (by omega) (by omega) (by omega) (by omega)).trans (lea_n (by omega) (by omega))) (by omega) ⟨gCT, by omega, by omega⟩ | (exfalso; omega) | exact RO.ofk (one_x (by omega)) (by omega) (by omega) (by omega) | exact RO.ofk (one_4 (by omega) (by omega)) (by omega) (by omega) (by omega) | (obtain ⟨f, e1, x1, x2⟩ := o1.no (by omega); exact RO.ofl ((one_n (by omega) (by omega)).trans e1) (by omega) x1 x2) | exact RO.ofr ((one_n (by omega) (by omega)).trans e1) (by omega) ⟨gCT, by omega, by omega⟩ | (obtain ⟨f, e2, x1, x2⟩ := o2.no (by omega); exact RO.ofl (by rw [one_o (by omega) (by omega), e2, bnd_l]) (by omega) x1 x2) | (obtain ⟨f, e3, x1, x2⟩ := o3.no (by omega); exact RO.ofl (by rw [one_o (by omega) (by omega), e2, bnd_r, e3, bnd_l]) (by omega) x1 x2) | exact RO.ofr (by rw [one_o (by omega) (by omega), e2, bnd_r, e3, bnd_r]) (by omega) ⟨gCT, by omega, by omega⟩ | (rw [one_l (by omega) (by omega) (by omega) (by omega)]; exact o4.map (fun s es h => ⟨h.1, h.2.1, by have h2 := h.2.2; have hl := lea_up es; omega⟩)) | (rw [one_l (by omega) (by omega) (by omega) (by omega)]; exact o5.map (fun s es h => ⟨h.1, h.2.1, by have h2 := h.2.2; have hl := lea_up es; omega⟩)), gWH⟩)
        by_cases c136 : (σ0 1 9).toInt = 43
        · refine lv_tableIn (off := 177) (tgt := 249) hx hb dX7_readOne_72 (by omega) (by omega) (by rw [c136]; rfl) (by decide) ?_
          refine lv_aload_n hx hb dX7_readOne_249 rfl (lv_at hl 1 rfl) ?_
          refine fg_7_2 (k := 27) hx hb hts in_X7_readOne_7 hown hK hP (by decide) (by decide) (hts _ lk_X7_readOne_19) dX7_readOne_250 ?_
          refine lv_iload_n hx hb dX7_readOne_253 rfl (lv_at hl 0 rfl) ?_
          refine r_bipush hx hb dX7_readOne_254 (by decide) (fun z137 ez137 => ?_)
          refine r_iconst hx hb dX7_readOne_256 (by decide) (fun z138 ez138 => ?_)
          refine r_cVi (k := 24) (As := [.int (σ0 1 9), .int z137, .int z138]) (rest := []) ⟨hx, hb, hml, hown, hts⟩ hK hP hN hS (c_X6_add l D cA ad hI σ15 τ15 hR (σ0 1 9) z137 z138 (by omega)) (cwV 3 hts gX7_readOne_X6_add rfl rfl rfl (by decide +kernel) ⟨by decide, by decide⟩) (rv_Sent hK hP (by decide) (by decide)) rfl hl.1 rfl (Nat.le_of_ble_eq_true rfl) dX7_readOne_257 (Nat.zero_le _) (Nat.zero_le _) (fun r139 u139 H139 locs139 hp139 hP hS => ?_)
          obtain ⟨σ139, τ139⟩ := u139
          obtain ⟨hR, f139, fL139, hq139, hp139_0⟩ : P_X6_add σ15 τ15 (σ0 1 9) z137 z138 r139 σ139 τ139 := hp139
          have hP : va_P D vwCl (gw cA ad σ139 τ139) H139 := hP
          obtain rfl := FrL.nil fL139
          have hF := hF.step f139 (by decide)
          have gCT := gCT.ag (Agr.fr f139 (by decide))
          have gWH := gWH.ag (Agr.fr f139 (by decide))
          have t140 : (σ139 24 1).toInt = (σ15 24 1).toInt := congrArg Int32.toInt (f139.at 24 1 (by decide))
          have hr141 := rg_6_2 hR (k := 24) (by decide) (by decide)
          exact r_zret hx hb hr hK hP hS hk (by omega) dX7_readOne_260 (show P_X7_readOne_d8 σ0 τ0 a1 b N mo q nn nm hc r139 σ139 τ15 from ⟨hR, hF, hFL, by omega, by first | exact RO.ofr ((one_l (by omega) (by omega) (by omega) (by omega)).trans (lea_n (by omega) (by omega))) (by omega) ⟨gCT, by omega, by omega⟩ | (exfalso; omega) | exact RO.ofk (one_x (by omega)) (by omega) (by omega) (by omega) | exact RO.ofk (one_4 (by omega) (by omega)) (by omega) (by omega) (by omega) | (obtain ⟨f, e1, x1, x2⟩ := o1.no (by omega); exact RO.ofl ((one_n (by omega) (by omega)).trans e1) (by omega) x1 x2) | exact RO.ofr ((one_n (by omega) (by omega)).trans e1) (by omega) ⟨gCT, by omega, by omega⟩ | (obtain ⟨f, e2, x1, x2⟩ := o2.no (by omega); exact RO.ofl (by rw [one_o (by omega) (by omega), e2, bnd_l]) (by omega) x1 x2) | (obtain ⟨f, e3, x1, x2⟩ := o3.no (by omega); exact RO.ofl (by rw [one_o (by omega) (by omega), e2, bnd_r, e3, bnd_l]) (by omega) x1 x2) | exact RO.ofr (by rw [one_o (by omega) (by omega), e2, bnd_r, e3, bnd_r]) (by omega) ⟨gCT, by omega, by omega⟩ | (rw [one_l (by omega) (by omega) (by omega) (by omega)]; exact o4.map (fun s es h => ⟨h.1, h.2.1, by have h2 := h.2.2; have hl := lea_up es; omega⟩)) | (rw [one_l (by omega) (by omega) (by omega) (by omega)]; exact o5.map (fun s es h => ⟨h.1, h.2.1, by have h2 := h.2.2; have hl := lea_up es; omega⟩)), gWH⟩)
        by_cases c142 : (σ0 1 9).toInt = 44
        · refine lv_tableIn (off := 138) (tgt := 210) hx hb dX7_readOne_72 (by omega) (by omega) (by rw [c142]; rfl) (by decide) ?_
          refine lv_aload_n hx hb dX7_readOne_210 rfl (lv_at hl 1 rfl) ?_
          refine lv_iload_n hx hb dX7_readOne_211 rfl (lv_at hl 2 rfl) ?_
          refine r_iconst hx hb dX7_readOne_212 (by decide) (fun z143 ez143 => ?_)
          refine r_iadd hx hb dX7_readOne_213 (by omega) (fun z144 ez144 => ?_)
          refine r_cVi (k := 27) (As := [.int z144]) (rest := []) ⟨hx, hb, hml, hown, hts⟩ hK hP hN hS (c_X7_readCond_d9 l D cA ad hI σ15 τ15 hR z144 b N mo _ (nn + 1) nm hc (by omega) (by omega) (by omega) (by omega) gCT gWH) (cwV 1 hts gX7_readOne_X7_readCond rfl rfl rfl (by decide +kernel) ⟨by decide, by decide⟩) (rv_SText hK hP (by decide) (by decide)) rfl hl.1 rfl (Nat.le_of_ble_eq_true rfl) dX7_readOne_214 (Nat.zero_le _) (Nat.zero_le _) (fun r145 u145 H145 locs145 hp145 hP hS => ?_)
          obtain ⟨σ145, τ145⟩ := u145
          obtain ⟨hR, f145, fL145, hq145, hp145_0, gnWH⟩ : P_X7_readCond_d9 σ15 τ15 z144 b N mo _ (nn + 1) nm hc r145 σ145 τ145 := hp145
          have o2 := hp145_0
          have hP : va_P D vwCl (gw cA ad σ145 τ145) H145 := hP
          obtain rfl := FrL.nil fL145
          have hF := hF.step f145 (by decide)
          have gCT := gCT.ag (Agr.fr f145 (by decide))
          have gWH := gWH.ag (Agr.fr f145 (by decide))
          have t146 : (σ145 24 2).toInt = (σ15 24 2).toInt := congrArg Int32.toInt (f145.at 24 2 (by decide))
          have t147 : (σ145 24 1).toInt = (σ15 24 1).toInt := congrArg Int32.toInt (f145.at 24 1 (by decide))
          refine r_if_eq (tgt := 236) hx hb dX7_readOne_217 (by decide) (fun c148 => ?_) (fun c148 => ?_)
          · refine r_iconst hx hb dX7_readOne_236 (by decide) (fun z149 ez149 => ?_)
            exact r_zret hx hb hr hK hP hS hk (by omega) dX7_readOne_237 (show P_X7_readOne_d8 σ0 τ0 a1 b N mo q nn nm hc z149 σ145 τ15 from ⟨hR, hF, hFL, by omega, by first | exact RO.ofr ((one_l (by omega) (by omega) (by omega) (by omega)).trans (lea_n (by omega) (by omega))) (by omega) ⟨gCT, by omega, by omega⟩ | (exfalso; omega) | exact RO.ofk (one_x (by omega)) (by omega) (by omega) (by omega) | exact RO.ofk (one_4 (by omega) (by omega)) (by omega) (by omega) (by omega) | (obtain ⟨f, e1, x1, x2⟩ := o1.no (by omega); exact RO.ofl ((one_n (by omega) (by omega)).trans e1) (by omega) x1 x2) | exact RO.ofr ((one_n (by omega) (by omega)).trans e1) (by omega) ⟨gCT, by omega, by omega⟩ | (obtain ⟨f, e2, x1, x2⟩ := o2.no (by omega); exact RO.ofl (by rw [one_o (by omega) (by omega), e2, bnd_l]) (by omega) x1 x2) | (obtain ⟨f, e3, x1, x2⟩ := o3.no (by omega); exact RO.ofl (by rw [one_o (by omega) (by omega), e2, bnd_r, e3, bnd_l]) (by omega) x1 x2) | exact RO.ofr (by rw [one_o (by omega) (by omega), e2, bnd_r, e3, bnd_r]) (by omega) ⟨gCT, by omega, by omega⟩ | (rw [one_l (by omega) (by omega) (by omega) (by omega)]; exact o4.map (fun s es h => ⟨h.1, h.2.1, by have h2 := h.2.2; have hl := lea_up es; omega⟩)) | (rw [one_l (by omega) (by omega) (by omega) (by omega)]; exact o5.map (fun s es h => ⟨h.1, h.2.1, by have h2 := h.2.2; have hl := lea_up es; omega⟩)), gWH⟩)
          · exfalso; omega
        refine lv_tableOut (tgt := 249) hx hb dX7_readOne_72 (by omega) (by decide) ?_
        refine lv_aload_n hx hb dX7_readOne_249 rfl (lv_at hl 1 rfl) ?_
        refine fg_7_2 (k := 27) hx hb hts in_X7_readOne_7 hown hK hP (by decide) (by decide) (hts _ lk_X7_readOne_19) dX7_readOne_250 ?_
        refine lv_iload_n hx hb dX7_readOne_253 rfl (lv_at hl 0 rfl) ?_
        refine r_bipush hx hb dX7_readOne_254 (by decide) (fun z150 ez150 => ?_)
        refine r_iconst hx hb dX7_readOne_256 (by decide) (fun z151 ez151 => ?_)
        refine r_cVi (k := 24) (As := [.int (σ0 1 9), .int z150, .int z151]) (rest := []) ⟨hx, hb, hml, hown, hts⟩ hK hP hN hS (c_X6_add l D cA ad hI σ15 τ15 hR (σ0 1 9) z150 z151 (by omega)) (cwV 3 hts gX7_readOne_X6_add rfl rfl rfl (by decide +kernel) ⟨by decide, by decide⟩) (rv_Sent hK hP (by decide) (by decide)) rfl hl.1 rfl (Nat.le_of_ble_eq_true rfl) dX7_readOne_257 (Nat.zero_le _) (Nat.zero_le _) (fun r152 u152 H152 locs152 hp152 hP hS => ?_)
        obtain ⟨σ152, τ152⟩ := u152
        obtain ⟨hR, f152, fL152, hq152, hp152_0⟩ : P_X6_add σ15 τ15 (σ0 1 9) z150 z151 r152 σ152 τ152 := hp152
        have hP : va_P D vwCl (gw cA ad σ152 τ152) H152 := hP
        obtain rfl := FrL.nil fL152
        have hF := hF.step f152 (by decide)
        have gCT := gCT.ag (Agr.fr f152 (by decide))
        have gWH := gWH.ag (Agr.fr f152 (by decide))
        have t153 : (σ152 24 1).toInt = (σ15 24 1).toInt := congrArg Int32.toInt (f152.at 24 1 (by decide))
        have hr154 := rg_6_2 hR (k := 24) (by decide) (by decide)
        exact r_zret hx hb hr hK hP hS hk (by omega) dX7_readOne_260 (show P_X7_readOne_d8 σ0 τ0 a1 b N mo q nn nm hc r152 σ152 τ15 from ⟨hR, hF, hFL, by omega, by first | exact RO.ofr ((one_l (by omega) (by omega) (by omega) (by omega)).trans (lea_n (by omega) (by omega))) (by omega) ⟨gCT, by omega, by omega⟩ | (exfalso; omega) | exact RO.ofk (one_x (by omega)) (by omega) (by omega) (by omega) | exact RO.ofk (one_4 (by omega) (by omega)) (by omega) (by omega) (by omega) | (obtain ⟨f, e1, x1, x2⟩ := o1.no (by omega); exact RO.ofl ((one_n (by omega) (by omega)).trans e1) (by omega) x1 x2) | exact RO.ofr ((one_n (by omega) (by omega)).trans e1) (by omega) ⟨gCT, by omega, by omega⟩ | (obtain ⟨f, e2, x1, x2⟩ := o2.no (by omega); exact RO.ofl (by rw [one_o (by omega) (by omega), e2, bnd_l]) (by omega) x1 x2) | (obtain ⟨f, e3, x1, x2⟩ := o3.no (by omega); exact RO.ofl (by rw [one_o (by omega) (by omega), e2, bnd_r, e3, bnd_l]) (by omega) x1 x2) | exact RO.ofr (by rw [one_o (by omega) (by omega), e2, bnd_r, e3, bnd_r]) (by omega) ⟨gCT, by omega, by omega⟩ | (rw [one_l (by omega) (by omega) (by omega) (by omega)]; exact o4.map (fun s es h => ⟨h.1, h.2.1, by have h2 := h.2.2; have hl := lea_up es; omega⟩)) | (rw [one_l (by omega) (by omega) (by omega) (by omega)]; exact o5.map (fun s es h => ⟨h.1, h.2.1, by have h2 := h.2.2; have hl := lea_up es; omega⟩)), gWH⟩)
      · exfalso; omega
  · refine lv_aload_n hx hb dX7_readOne_15 rfl (lv_at hl 1 rfl) ?_
    refine fg_7_0 (k := 27) hx hb hts in_X7_readOne_7 hown hK hP (by decide) (by decide) (hts _ lk_X7_readOne_9) dX7_readOne_16 ?_
    refine r_iconst hx hb dX7_readOne_19 (by decide) (fun z155 ez155 => ?_)
    refine r_cVi (k := 1) (As := [.int z155]) (rest := []) ⟨hx, hb, hml, hown, hts⟩ hK hP hN hS (c_X8_blame_v l D cA ad hI σ0 τ0 hR z155 _ _ _ _ (by omega) gCT) (cwV 1 hts gX7_readOne_X8_blame rfl rfl rfl (by decide +kernel) ⟨by decide, by decide⟩) (rv_Tape hK hP (by decide) (by decide)) rfl hl.1 rfl (Nat.le_of_ble_eq_true rfl) dX7_readOne_20 (Nat.zero_le _) (Nat.zero_le _) (fun r156 u156 H156 locs156 hp156 hP hS => ?_)
    obtain ⟨σ156, τ156⟩ := u156
    obtain ⟨hR, f156, fL156, hq156, hp156_0, hp156_1, hp156_2, gnCT⟩ : P_X8_blame_v σ0 τ0 z155 _ _ _ _ r156 σ156 τ156 := hp156
    have hP : va_P D vwCl (gw cA ad σ156 τ156) H156 := hP
    obtain rfl := FrL.nil fL156
    have hF := hF.step f156 (by decide)
    have gCT := gCT.ag (Agr.fr f156 (by decide))
    have gWH := gWH.ag (Agr.fr f156 (by decide))
    have t157 : (σ156 24 1).toInt = (σ0 24 1).toInt := congrArg Int32.toInt (f156.at 24 1 (by decide))
    have t158 : (σ156 24 2).toInt = (σ0 24 2).toInt := congrArg Int32.toInt (f156.at 24 2 (by decide))
    exact r_zret hx hb hr hK hP hS hk (by omega) dX7_readOne_23 (show P_X7_readOne_d8 σ0 τ0 a1 b N mo q nn nm hc r156 σ156 τ0 from ⟨hR, hF, hFL, by omega, by first | exact RO.ofr ((one_l (by omega) (by omega) (by omega) (by omega)).trans (lea_n (by omega) (by omega))) (by omega) ⟨gCT, by omega, by omega⟩ | (exfalso; omega) | exact RO.ofk (one_x (by omega)) (by omega) (by omega) (by omega) | exact RO.ofk (one_4 (by omega) (by omega)) (by omega) (by omega) (by omega) | (obtain ⟨f, e1, x1, x2⟩ := o1.no (by omega); exact RO.ofl ((one_n (by omega) (by omega)).trans e1) (by omega) x1 x2) | exact RO.ofr ((one_n (by omega) (by omega)).trans e1) (by omega) ⟨gCT, by omega, by omega⟩ | (obtain ⟨f, e2, x1, x2⟩ := o2.no (by omega); exact RO.ofl (by rw [one_o (by omega) (by omega), e2, bnd_l]) (by omega) x1 x2) | (obtain ⟨f, e3, x1, x2⟩ := o3.no (by omega); exact RO.ofl (by rw [one_o (by omega) (by omega), e2, bnd_r, e3, bnd_l]) (by omega) x1 x2) | exact RO.ofr (by rw [one_o (by omega) (by omega), e2, bnd_r, e3, bnd_r]) (by omega) ⟨gCT, by omega, by omega⟩ | (rw [one_l (by omega) (by omega) (by omega) (by omega)]; exact o4.map (fun s es h => ⟨h.1, h.2.1, by have h2 := h.2.2; have hl := lea_up es; omega⟩)) | (rw [one_l (by omega) (by omega) (by omega) (by omega)]; exact o5.map (fun s es h => ⟨h.1, h.2.1, by have h2 := h.2.2; have hl := lea_up es; omega⟩)), gWH⟩)
theorem in_X7_readAll_7 : ∀ w ∈ u_ws RX7 TX7 3, w ∈ wsX7_readAll := by decide +kernel
theorem in_X7_readAll_8 : ∀ w ∈ u_ws RX8 TX8 15, w ∈ wsX7_readAll := by decide +kernel
theorem lk_X7_readAll_19 : Cond.fieldLink RX7 19 "CuckooShares$SentenceText" "into" "LCuckooShares$Sentence;" ∈ wsX7_readAll := by decide +kernel
theorem lk_X7_readAll_9 : Cond.fieldLink RX7 9 "CuckooShares$SentenceText" "tape" "LCuckooShares$Tape;" ∈ wsX7_readAll := by decide +kernel
abbrev L_X7_readAll_d8 : List Rc := [(1, 1, 7, 10), (372, 372, 0, 39), (376, 376, 0, 39), (380, 380, 0, 39), (24, 24, 1, 2), (1, 1, 12, 14)]
abbrev LL_X7_readAll_d8 : List Rc := [(1, 1, 11, 11)]
def P_X7_readAll_d8 (σ0 : Nat → Nat → Int32) (τ0 : Nat → Nat → Int64) (a1 : Int32) (b : Nat → Int) (N : Nat) (mo : Nat) (q : Nat) (nn : Nat) (nm : Nat → Int) (hc : Nat) (r : Int32) (σ : Nat → Nat → Int32) (τ : Nat → Nat → Int64) : Prop := Rg σ ∧ Fr L_X7_readAll_d8 σ0 σ ∧ FrL LL_X7_readAll_d8 τ0 τ ∧ (0 ≤ r.toInt ∧ r.toInt ≤ 1) ∧ (RO r σ (allP b N mo (fun q nn => oneP b N mo nm hc 1 q nn) q nn) (fun s => CT σ τ b N mo s.1 ∧ (σ 24 1).toInt = (s.2 : Int) ∧ (σ 24 2).toInt + 2 * (nn : Int) + 1 ≤ (σ0 24 2).toInt + 2 * (s.2 : Int))) ∧ WH σ τ nm hc
def J_X7_readAll_d8_12 (p : Program) (l : Launch) (e : Env) (s : State) (m : MethodId) (args : Array Value) (below : List Frame) (meth : Method) (c : Code) (D : va_G) (cA : Nat → ClassId) (ad : Nat → Nat) (σ0 : Nat → Nat → Int32) (τ0 : Nat → Nat → Int64) (a1 : Int32) (b : Nat → Int) (N : Nat) (mo : Nat) (q : Nat) (nn : Nat) (nm : Nat → Int) (hc : Nat) (n : Nat) : Prop := ∀ (σ : Nat → Nat → Int32) (τ : Nat → Nat → Int64) (H : Heap) (locs : List Loc) (x2 : Int32) (fu : Nat) (q1 : Nat) (n1 : Nat) (ls : Array Slot), Rg σ → Fr L_X7_readAll_d8 σ0 σ → FrL LL_X7_readAll_d8 τ0 τ → va_P D vwCl (gw cA ad σ τ) H → va_S (AA ad) s.heap H locs → (0 ≤ x2.toInt ∧ x2.toInt ≤ 200) → (0 ≤ (σ 24 1).toInt ∧ (σ 24 1).toInt ≤ 20) → (0 ≤ (σ 24 2).toInt ∧ (σ 24 2).toInt ≤ 40) → (allP b N mo (fun q nn => oneP b N mo nm hc 1 q nn) q nn = lopP b N mo 21 (fun q nn => oneP b N mo nm hc 1 q nn) fu q1 n1) → ((σ 24 1).toInt = (n1 : Int)) → (0 ≤ (σ 24 2).toInt ∧ (σ 24 2).toInt + 2 * (nn : Int) + 1 ≤ (σ0 24 2).toInt + 2 * (n1 : Int)) → ((fu : Int) + x2.toInt = 200) → (n1 ≤ 20) → (CT σ τ b N mo q1) → (WH σ τ nm hc) → (CT σ τ b N mo q1) → lv_has ls 3 [(0, .ref (ad 27)), (1, .int a1), (2, .int x2)] → 2 * (200 - x2.toInt) + 1 < (n : Int) → W p l e ({ frames := 5, cells := 0, slots := 0, locals := 109 } : Room) s m args below meth c H locs 0 0 (MQ below (va_Qi (fun (r : Int32) (u : SS) => P_X7_readAll_d8 σ0 τ0 a1 b N mo q nn nm hc r u.1 u.2) (WB D cA ad) (AA ad)) args s 0 0 (AA ad)) (F0 m 12 ls [])
set_option maxHeartbeats 4000000 in
theorem B_X7_readAll_d8_12 (p : Program) (l : Launch) (e : Env) (s : State) (m : MethodId) (args : Array Value) (below : List Frame) (meth : Method) (c : Code) (D : va_G) (cA : Nat → ClassId) (ad : Nat → Nat) (σ0 : Nat → Nat → Int32) (τ0 : Nat → Nat → Int64) (a1 : Int32) (b : Nat → Int) (N : Nat) (mo : Nat) (q : Nat) (nn : Nat) (nm : Nat → Int) (hc : Nat) (n : Nat) (C : Cy p s m args meth c cX7_readAll 3 wsX7_readAll RX7 D cA ad (some .boolean)) (ha1 : 8 ≤ a1.toInt ∧ a1.toInt ≤ 8) (hpre0 : (σ0 24 1).toInt = (nn : Int)) (hpre1 : 0 ≤ (σ0 24 2).toInt ∧ (σ0 24 2).toInt ≤ 2 * (nn : Int)) (hpre2 : nn ≤ 20) (gCT0 : CT σ0 τ0 b N mo q) (gWH0 : WH σ0 τ0 nm hc) (K12 : J_X7_readAll_d8_12 p l e s m args below meth c D cA ad σ0 τ0 a1 b N mo q nn nm hc n) : J_X7_readAll_d8_12 p l e s m args below meth c D cA ad σ0 τ0 a1 b N mo q nn nm hc (n + 1) := by
  obtain ⟨hx, hb, hml, hown, hts, hK, hk, hr, hI, hN⟩ := C
  intro σ τ H locs x2 fu q1 n1 ls hR hF hFL hP hS hc0 hc1 hc2 iv ib2 ib3 ifu in20 gCT gWH gCT hl hm
  refine lv_iload_n hx hb dX7_readAll_12 rfl (lv_at hl 2 rfl) ?_
  refine r_sipush hx hb dX7_readAll_13 (by decide) (fun z1 ez1 => ?_)
  refine r_icmp_ge (tgt := 68) hx hb dX7_readAll_16 (by decide) (fun c2 => ?_) (fun c2 => ?_)
  · refine r_iconst hx hb dX7_readAll_68 (by decide) (fun z3 ez3 => ?_)
    exact r_zret hx hb hr hK hP hS hk (by omega) dX7_readAll_69 (show P_X7_readAll_d8 σ0 τ0 a1 b N mo q nn nm hc z3 σ τ from ⟨hR, hF, hFL, by omega, by first | (exfalso; omega) | (obtain ⟨f, e1, x1, x2⟩ := o1.no (by omega); exact RO.ofl (all_f e1) (by omega) x1 x2) | exact RO.ofr (by rw [iv, lop_e (by omega)]) (by omega) ⟨gCT, by omega, by omega⟩ | (obtain ⟨f, e2, x1, x2⟩ := o2.no (by omega); exact RO.ofl (by rw [iv, lop_f (f := (fun q nn => oneP b N mo nm hc 1 q nn)) (by omega) (by omega) e2]) (by omega) x1 x2) | (exfalso; omega), gWH⟩)
  · have htk := gCT.tk
    refine lv_aload_n hx hb dX7_readAll_19 rfl (lv_at hl 0 rfl) ?_
    refine fg_7_0 (k := 27) hx hb hts in_X7_readAll_7 hown hK hP (by decide) (by decide) (hts _ lk_X7_readAll_9) dX7_readAll_20 ?_
    refine fgN_8_9 (k := 1) hx hb hts in_X7_readAll_8 hown hK hP (by decide) (by decide) (hN.use nw_7_32) dX7_readAll_23 ?_
    refine r_bipush hx hb dX7_readAll_26 (by decide) (fun z4 ez4 => ?_)
    refine r_icmp_ne (tgt := 68) hx hb dX7_readAll_28 (by decide) (fun c5 => ?_) (fun c5 => ?_)
    · refine r_iconst hx hb dX7_readAll_68 (by decide) (fun z6 ez6 => ?_)
      exact r_zret hx hb hr hK hP hS hk (by omega) dX7_readAll_69 (show P_X7_readAll_d8 σ0 τ0 a1 b N mo q nn nm hc z6 σ τ from ⟨hR, hF, hFL, by omega, by first | (exfalso; omega) | (obtain ⟨f, e1, x1, x2⟩ := o1.no (by omega); exact RO.ofl (all_f e1) (by omega) x1 x2) | exact RO.ofr (by rw [iv, lop_e (by omega)]) (by omega) ⟨gCT, by omega, by omega⟩ | (obtain ⟨f, e2, x1, x2⟩ := o2.no (by omega); exact RO.ofl (by rw [iv, lop_f (f := (fun q nn => oneP b N mo nm hc 1 q nn)) (by omega) (by omega) e2]) (by omega) x1 x2) | (exfalso; omega), gWH⟩)
    · refine lv_aload_n hx hb dX7_readAll_31 rfl (lv_at hl 0 rfl) ?_
      refine fg_7_0 (k := 27) hx hb hts in_X7_readAll_7 hown hK hP (by decide) (by decide) (hts _ lk_X7_readAll_9) dX7_readAll_32 ?_
      refine r_cVv (k := 1) (As := []) (rest := []) ⟨hx, hb, hml, hown, hts⟩ hK hP hN hS (c_X8_next_v l D cA ad hI σ τ hR _ _ _ _ gCT) (cwV 0 hts gX7_readAll_X8_next rfl rfl rfl (by decide +kernel) ⟨by decide, by decide⟩) (rv_Tape hK hP (by decide) (by decide)) rfl hl.1 rfl (Nat.le_of_ble_eq_true rfl) dX7_readAll_35 (Nat.zero_le _) (Nat.zero_le _) (fun u7 H7 locs7 hp7 hP hS => ?_)
      obtain ⟨σ7, τ7⟩ := u7
      obtain ⟨hR, f7, fL7, hp7_0⟩ : P_X8_next_v σ τ _ _ _ _ σ7 τ7 := hp7
      have hP : va_P D vwCl (gw cA ad σ7 τ7) H7 := hP
      have hFL := hFL.step fL7 (by decide)
      have gWH := gWH.agL (AgrL.fr fL7 (by decide))
      have hF := hF.step f7 (by decide)
      have gWH := gWH.ag (Agr.fr f7 (by decide))
      have t8 : (σ7 24 1).toInt = (σ 24 1).toInt := congrArg Int32.toInt (f7.at 24 1 (by decide))
      have t9 : (σ7 24 2).toInt = (σ 24 2).toInt := congrArg Int32.toInt (f7.at 24 2 (by decide))
      have gCT := hp7_0
      refine lv_aload_n hx hb dX7_readAll_38 rfl (lv_at hl 0 rfl) ?_
      refine lv_iload_n hx hb dX7_readAll_39 rfl (lv_at hl 1 rfl) ?_
      refine r_cVi (k := 27) (As := [.int a1]) (rest := []) ⟨hx, hb, hml, hown, hts⟩ hK hP hN hS (c_X7_readOne_d8 l D cA ad hI σ7 τ7 hR a1 b N mo _ n1 nm hc (by omega) (by omega) (by omega) (by omega) gCT gWH) (cwV 1 hts gX7_readAll_X7_readOne rfl rfl rfl (by decide +kernel) ⟨by decide, by decide⟩) (rv_SText hK hP (by decide) (by decide)) rfl hl.1 rfl (Nat.le_of_ble_eq_true rfl) dX7_readAll_40 (Nat.zero_le _) (Nat.zero_le _) (fun r10 u10 H10 locs10 hp10 hP hS => ?_)
      obtain ⟨σ10, τ10⟩ := u10
      obtain ⟨hR, f10, fL10, hq10, hp10_0, gnWH⟩ : P_X7_readOne_d8 σ7 τ7 a1 b N mo _ n1 nm hc r10 σ10 τ10 := hp10
      have o2 := hp10_0
      have hP : va_P D vwCl (gw cA ad σ10 τ10) H10 := hP
      have hFL := hFL.step fL10 (by decide)
      have gWH := gWH.agL (AgrL.fr fL10 (by decide))
      have hF := hF.step f10 (by decide)
      have gWH := gWH.ag (Agr.fr f10 (by decide))
      have hr11 := rg_6_1 hR (k := 24) (by decide) (by decide)
      have hr12 := rg_6_2 hR (k := 24) (by decide) (by decide)
      refine r_if_eq (tgt := 60) hx hb dX7_readAll_43 (by decide) (fun c13 => ?_) (fun c13 => ?_)
      · refine r_iconst hx hb dX7_readAll_60 (by decide) (fun z14 ez14 => ?_)
        exact r_zret hx hb hr hK hP hS hk (by omega) dX7_readAll_61 (show P_X7_readAll_d8 σ0 τ0 a1 b N mo q nn nm hc z14 σ10 τ10 from ⟨hR, hF, hFL, by omega, by first | (exfalso; omega) | (obtain ⟨f, e1, x1, x2⟩ := o1.no (by omega); exact RO.ofl (all_f e1) (by omega) x1 x2) | exact RO.ofr (by rw [iv, lop_e (by omega)]) (by omega) ⟨gCT, by omega, by omega⟩ | (obtain ⟨f, e2, x1, x2⟩ := o2.no (by omega); exact RO.ofl (by rw [iv, lop_f (f := (fun q nn => oneP b N mo nm hc 1 q nn)) (by omega) (by omega) e2]) (by omega) x1 x2) | (exfalso; omega), gWH⟩)
      · obtain ⟨s2, e2, gCT, hs3, hs4⟩ := o2.ye (by omega)
        have hu2 := one_up _ _ _ _ e2
        refine lv_aload_n hx hb dX7_readAll_46 rfl (lv_at hl 0 rfl) ?_
        refine fg_7_2 (k := 27) hx hb hts in_X7_readAll_7 hown hK hP (by decide) (by decide) (hts _ lk_X7_readAll_19) dX7_readAll_47 ?_
        refine r_bipush hx hb dX7_readAll_50 (by decide) (fun z15 ez15 => ?_)
        refine r_iconst hx hb dX7_readAll_52 (by decide) (fun z16 ez16 => ?_)
        refine r_iconst hx hb dX7_readAll_53 (by decide) (fun z17 ez17 => ?_)
        refine r_cVi (k := 24) (As := [.int z15, .int z16, .int z17]) (rest := []) ⟨hx, hb, hml, hown, hts⟩ hK hP hN hS (c_X6_add l D cA ad hI σ10 τ10 hR z15 z16 z17 (by omega)) (cwV 3 hts gX7_readAll_X6_add rfl rfl rfl (by decide +kernel) ⟨by decide, by decide⟩) (rv_Sent hK hP (by decide) (by decide)) rfl hl.1 rfl (Nat.le_of_ble_eq_true rfl) dX7_readAll_54 (Nat.zero_le _) (Nat.zero_le _) (fun r18 u18 H18 locs18 hp18 hP hS => ?_)
        obtain ⟨σ18, τ18⟩ := u18
        obtain ⟨hR, f18, fL18, hq18, hp18_0⟩ : P_X6_add σ10 τ10 z15 z16 z17 r18 σ18 τ18 := hp18
        have hP : va_P D vwCl (gw cA ad σ18 τ18) H18 := hP
        obtain rfl := FrL.nil fL18
        have hF := hF.step f18 (by decide)
        have gCT := gCT.ag (Agr.fr f18 (by decide))
        have gWH := gWH.ag (Agr.fr f18 (by decide))
        have t19 : (σ18 24 1).toInt = (σ10 24 1).toInt := congrArg Int32.toInt (f18.at 24 1 (by decide))
        have hr20 := rg_6_2 hR (k := 24) (by decide) (by decide)
        refine r_if_ne (tgt := 62) hx hb dX7_readAll_57 (by decide) (fun c21 => ?_) (fun c21 => ?_)
        · refine r_iinc (k := 2) (lv1 := fun z22 => [(2, .int z22), (0, .ref (ad 27)), (1, .int a1)]) hx hb dX7_readAll_62 hl rfl (by decide) (fun _ => rfl) (by decide) (by omega) (fun z22 ls ez22 hl => ?_)
          refine lv_goto (tgt := 12) hx hb dX7_readAll_65 (by decide) ?_
          exact K12 σ18 τ10 H18 locs18 z22 (fu - 1) _ _ ls hR hF hFL hP hS (by omega) (by omega) (by omega) (by first | exact all_s e1 | rw [iv, lop_s (f := (fun q nn => oneP b N mo nm hc 1 q nn)) (by omega) (by omega) e2]) (by omega) (by omega) (by omega) (by omega) gCT gWH gCT (lv_sub hl [1, 2, 0] rfl) (by omega)
        · refine r_iconst hx hb dX7_readAll_60 (by decide) (fun z23 ez23 => ?_)
          exact r_zret hx hb hr hK hP hS hk (by omega) dX7_readAll_61 (show P_X7_readAll_d8 σ0 τ0 a1 b N mo q nn nm hc z23 σ18 τ10 from ⟨hR, hF, hFL, by omega, by first | (exfalso; omega) | (obtain ⟨f, e1, x1, x2⟩ := o1.no (by omega); exact RO.ofl (all_f e1) (by omega) x1 x2) | exact RO.ofr (by rw [iv, lop_e (by omega)]) (by omega) ⟨gCT, by omega, by omega⟩ | (obtain ⟨f, e2, x1, x2⟩ := o2.no (by omega); exact RO.ofl (by rw [iv, lop_f (f := (fun q nn => oneP b N mo nm hc 1 q nn)) (by omega) (by omega) e2]) (by omega) x1 x2) | (exfalso; omega), gWH⟩)
theorem A_X7_readAll_d8 (p : Program) (l : Launch) (e : Env) (s : State) (m : MethodId) (args : Array Value) (below : List Frame) (meth : Method) (c : Code) (D : va_G) (cA : Nat → ClassId) (ad : Nat → Nat) (σ0 : Nat → Nat → Int32) (τ0 : Nat → Nat → Int64) (a1 : Int32) (b : Nat → Int) (N : Nat) (mo : Nat) (q : Nat) (nn : Nat) (nm : Nat → Int) (hc : Nat) (C : Cy p s m args meth c cX7_readAll 3 wsX7_readAll RX7 D cA ad (some .boolean)) (ha1 : 8 ≤ a1.toInt ∧ a1.toInt ≤ 8) (hpre0 : (σ0 24 1).toInt = (nn : Int)) (hpre1 : 0 ≤ (σ0 24 2).toInt ∧ (σ0 24 2).toInt ≤ 2 * (nn : Int)) (hpre2 : nn ≤ 20) (gCT0 : CT σ0 τ0 b N mo q) (gWH0 : WH σ0 τ0 nm hc) : ∀ n : Nat, J_X7_readAll_d8_12 p l e s m args below meth c D cA ad σ0 τ0 a1 b N mo q nn nm hc n := by
  intro n
  induction n with
  | zero =>
    exact (by intro σ τ H locs x2 fu q1 n1 ls hR hF hFL hP hS hc0 hc1 hc2 iv ib2 ib3 ifu in20 gCT gWH gCT hl hm; exfalso; omega)
  | succ n ih =>
    exact B_X7_readAll_d8_12 p l e s m args below meth c D cA ad σ0 τ0 a1 b N mo q nn nm hc n C ha1 hpre0 hpre1 hpre2 gCT0 gWH0 ih
set_option maxHeartbeats 4000000 in
theorem c_X7_readAll_d8 (l : Launch) (D : va_G) (cA : Nat → ClassId) (ad : Nat → Nat) (hI : Inj ad) (σ0 : Nat → Nat → Int32) (τ0 : Nat → Nat → Int64) (hR : Rg σ0) (a1 : Int32) (b : Nat → Int) (N : Nat) (mo : Nat) (q : Nat) (nn : Nat) (nm : Nat → Int) (hc : Nat) (ha1 : 8 ≤ a1.toInt ∧ a1.toInt ≤ 8) (hpre0 : (σ0 24 1).toInt = (nn : Int)) (hpre1 : 0 ≤ (σ0 24 2).toInt ∧ (σ0 24 2).toInt ≤ 2 * (nn : Int)) (hpre2 : nn ≤ 20) (gCT0 : CT σ0 τ0 b N mo q) (gWH0 : WH σ0 τ0 nm hc) : Met l yX7_readAll wsX7_readAll ({ frames := 5, cells := 0, slots := 0, locals := 109 } : Room) (WQc D cA ad [.ref (ad 27), .int a1] σ0 τ0) (va_Qi (fun (r : Int32) (u : SS) => P_X7_readAll_d8 σ0 τ0 a1 b N mo q nn nm hc r u.1 u.2) (WB D cA ad) (AA ad)) 0 0 (AA ad) := by
  refine Met.ofW (cc := cX7_readAll) (maxL := 3) (ret := (some .boolean)) (by decide) rfl ?_
  intro p e s m args below meth c s₁ B hml hv
  obtain ⟨rfl, hP, hK, hN⟩ := hv
  have C : Cy p s m _ meth c cX7_readAll 3 wsX7_readAll RX7 D cA ad (some .boolean) := ⟨B.exec, B.bytes, hml, findClass_of_methodNamed B.named, atoms_spec (ws := wsX7_readAll) B.pre, hK, B.notSynchronized, B.returns, hI, hN⟩
  have hl := lv_entry ([.ref (ad 27), .int a1]) (n := 3) (Nat.le_of_ble_eq_true rfl)
  rw [lg_entry_eq]
  generalize (lg_sl ([.ref (ad 27), .int a1]) ++ List.replicate (3 - (lg_sl ([.ref (ad 27), .int a1])).length) Slot.unset).toArray = ls at hl ⊢
  have hl : lv_has ls 3 [(0, .ref (ad 27)), (1, .int a1)] := hl
  have hS : va_S (AA ad) s.heap s.heap [] := va_S.rf
  have hF : Fr L_X7_readAll_d8 σ0 σ0 := Fr.rf
  have hFL : FrL LL_X7_readAll_d8 τ0 τ0 := FrL.rf
  have gCT := gCT0
  have gWH := gWH0
  have hA := A_X7_readAll_d8 p l e s m _ below meth c D cA ad σ0 τ0 a1 b N mo q nn nm hc C ha1 hpre0 hpre1 hpre2 gCT0 gWH0 810
  have K12 := hA
  clear hA
  obtain ⟨hx, hb, _, hown, hts, _, hk, hr, _, _⟩ := C
  refine lv_aload_n hx hb dX7_readAll_0 rfl (lv_at hl 0 rfl) ?_
  refine lv_iload_n hx hb dX7_readAll_1 rfl (lv_at hl 1 rfl) ?_
  refine r_cVi (k := 27) (As := [.int a1]) (rest := []) ⟨hx, hb, hml, hown, hts⟩ hK hP hN hS (c_X7_readOne_d8 l D cA ad hI σ0 τ0 hR a1 b N mo q nn nm hc (by omega) (by omega) (by omega) (by omega) gCT gWH) (cwV 1 hts gX7_readAll_X7_readOne rfl rfl rfl (by decide +kernel) ⟨by decide, by decide⟩) (rv_SText hK hP (by decide) (by decide)) rfl hl.1 rfl (Nat.le_of_ble_eq_true rfl) dX7_readAll_2 (Nat.zero_le _) (Nat.zero_le _) (fun r1 u1 H1 locs1 hp1 hP hS => ?_)
  obtain ⟨σ1, τ1⟩ := u1
  obtain ⟨hR, f1, fL1, hq1, hp1_0, gnWH⟩ : P_X7_readOne_d8 σ0 τ0 a1 b N mo q nn nm hc r1 σ1 τ1 := hp1
  have o1 := hp1_0
  have hP : va_P D vwCl (gw cA ad σ1 τ1) H1 := hP
  have hFL := hFL.step fL1 (by decide)
  have gWH := gWH.agL (AgrL.fr fL1 (by decide))
  have hF := hF.step f1 (by decide)
  have gWH := gWH.ag (Agr.fr f1 (by decide))
  have hr2 := rg_6_1 hR (k := 24) (by decide) (by decide)
  have hr3 := rg_6_2 hR (k := 24) (by decide) (by decide)
  refine r_if_ne (tgt := 10) hx hb dX7_readAll_5 (by decide) (fun c4 => ?_) (fun c4 => ?_)
  · obtain ⟨s1, e1, gCT, hs1, hs2⟩ := o1.ye (by omega)
    have hu1 := one_up _ _ _ _ e1
    refine r_iconst hx hb dX7_readAll_10 (by decide) (fun z5 ez5 => ?_)
    refine lv_istore_n (lv' := [(2, .int z5), (0, .ref (ad 27)), (1, .int a1)]) hx hb dX7_readAll_11 rfl hl (by decide) rfl (fun ls hl => ?_)
    exact K12 σ1 τ1 H1 locs1 z5 200 _ _ ls hR hF hFL hP hS (by omega) (by omega) (by omega) (by first | exact all_s e1 | rw [iv, lop_s (f := (fun q nn => oneP b N mo nm hc 1 q nn)) (by omega) (by omega) e2]) (by omega) (by omega) (by omega) (by omega) gCT gWH gCT (lv_sub hl [1, 2, 0] rfl) (by omega)
  · refine r_iconst hx hb dX7_readAll_8 (by decide) (fun z6 ez6 => ?_)
    exact r_zret hx hb hr hK hP hS hk (by omega) dX7_readAll_9 (show P_X7_readAll_d8 σ0 τ0 a1 b N mo q nn nm hc z6 σ1 τ1 from ⟨hR, hF, hFL, by omega, by first | (exfalso; omega) | (obtain ⟨f, e1, x1, x2⟩ := o1.no (by omega); exact RO.ofl (all_f e1) (by omega) x1 x2) | exact RO.ofr (by rw [iv, lop_e (by omega)]) (by omega) ⟨gCT, by omega, by omega⟩ | (obtain ⟨f, e2, x1, x2⟩ := o2.no (by omega); exact RO.ofl (by rw [iv, lop_f (f := (fun q nn => oneP b N mo nm hc 1 q nn)) (by omega) (by omega) e2]) (by omega) x1 x2) | (exfalso; omega), gWH⟩)
theorem in_X7_readCond_7 : ∀ w ∈ u_ws RX7 TX7 3, w ∈ wsX7_readCond := by decide +kernel
theorem in_X7_readCond_8 : ∀ w ∈ u_ws RX8 TX8 15, w ∈ wsX7_readCond := by decide +kernel
theorem lk_X7_readCond_19 : Cond.fieldLink RX7 19 "CuckooShares$SentenceText" "into" "LCuckooShares$Sentence;" ∈ wsX7_readCond := by decide +kernel
theorem lk_X7_readCond_9 : Cond.fieldLink RX7 9 "CuckooShares$SentenceText" "tape" "LCuckooShares$Tape;" ∈ wsX7_readCond := by decide +kernel
abbrev L_X7_readCond_d8 : List Rc := [(1, 1, 7, 10), (372, 372, 0, 39), (376, 376, 0, 39), (380, 380, 0, 39), (24, 24, 1, 2), (1, 1, 12, 14)]
abbrev LL_X7_readCond_d8 : List Rc := [(1, 1, 11, 11)]
def P_X7_readCond_d8 (σ0 : Nat → Nat → Int32) (τ0 : Nat → Nat → Int64) (a1 : Int32) (b : Nat → Int) (N : Nat) (mo : Nat) (q : Nat) (nn : Nat) (nm : Nat → Int) (hc : Nat) (r : Int32) (σ : Nat → Nat → Int32) (τ : Nat → Nat → Int64) : Prop := Rg σ ∧ Fr L_X7_readCond_d8 σ0 σ ∧ FrL LL_X7_readCond_d8 τ0 τ ∧ (0 ≤ r.toInt ∧ r.toInt ≤ 1) ∧ (RO r σ (conP b N mo (fun q nn => oneP b N mo nm hc 1 q nn) q nn) (fun s => CT σ τ b N mo s.1 ∧ (σ 24 1).toInt = (s.2 : Int) ∧ (σ 24 2).toInt + 2 * (nn : Int) + 1 ≤ (σ0 24 2).toInt + 2 * (s.2 : Int))) ∧ WH σ τ nm hc
def J_X7_readCond_d8_12 (p : Program) (l : Launch) (e : Env) (s : State) (m : MethodId) (args : Array Value) (below : List Frame) (meth : Method) (c : Code) (D : va_G) (cA : Nat → ClassId) (ad : Nat → Nat) (σ0 : Nat → Nat → Int32) (τ0 : Nat → Nat → Int64) (a1 : Int32) (b : Nat → Int) (N : Nat) (mo : Nat) (q : Nat) (nn : Nat) (nm : Nat → Int) (hc : Nat) (n : Nat) : Prop := ∀ (σ : Nat → Nat → Int32) (τ : Nat → Nat → Int64) (H : Heap) (locs : List Loc) (x2 : Int32) (fu : Nat) (q1 : Nat) (n1 : Nat) (ls : Array Slot), Rg σ → Fr L_X7_readCond_d8 σ0 σ → FrL LL_X7_readCond_d8 τ0 τ → va_P D vwCl (gw cA ad σ τ) H → va_S (AA ad) s.heap H locs → (0 ≤ x2.toInt ∧ x2.toInt ≤ 200) → (0 ≤ (σ 24 1).toInt ∧ (σ 24 1).toInt ≤ 20) → (0 ≤ (σ 24 2).toInt ∧ (σ 24 2).toInt ≤ 40) → (conP b N mo (fun q nn => oneP b N mo nm hc 1 q nn) q nn = lopP b N mo 20 (allP b N mo (fun q nn => oneP b N mo nm hc 1 q nn)) fu q1 n1) → ((σ 24 1).toInt = (n1 : Int)) → (0 ≤ (σ 24 2).toInt ∧ (σ 24 2).toInt + 2 * (nn : Int) + 1 ≤ (σ0 24 2).toInt + 2 * (n1 : Int)) → ((fu : Int) + x2.toInt = 200) → (n1 ≤ 20) → (CT σ τ b N mo q1) → (WH σ τ nm hc) → (CT σ τ b N mo q1) → lv_has ls 3 [(0, .ref (ad 27)), (1, .int a1), (2, .int x2)] → 2 * (200 - x2.toInt) + 1 < (n : Int) → W p l e ({ frames := 6, cells := 0, slots := 0, locals := 131 } : Room) s m args below meth c H locs 0 0 (MQ below (va_Qi (fun (r : Int32) (u : SS) => P_X7_readCond_d8 σ0 τ0 a1 b N mo q nn nm hc r u.1 u.2) (WB D cA ad) (AA ad)) args s 0 0 (AA ad)) (F0 m 12 ls [])
set_option maxHeartbeats 4000000 in
theorem B_X7_readCond_d8_12 (p : Program) (l : Launch) (e : Env) (s : State) (m : MethodId) (args : Array Value) (below : List Frame) (meth : Method) (c : Code) (D : va_G) (cA : Nat → ClassId) (ad : Nat → Nat) (σ0 : Nat → Nat → Int32) (τ0 : Nat → Nat → Int64) (a1 : Int32) (b : Nat → Int) (N : Nat) (mo : Nat) (q : Nat) (nn : Nat) (nm : Nat → Int) (hc : Nat) (n : Nat) (C : Cy p s m args meth c cX7_readCond 3 wsX7_readCond RX7 D cA ad (some .boolean)) (ha1 : 8 ≤ a1.toInt ∧ a1.toInt ≤ 8) (hpre0 : (σ0 24 1).toInt = (nn : Int)) (hpre1 : 0 ≤ (σ0 24 2).toInt ∧ (σ0 24 2).toInt ≤ 2 * (nn : Int)) (hpre2 : nn ≤ 20) (gCT0 : CT σ0 τ0 b N mo q) (gWH0 : WH σ0 τ0 nm hc) (K12 : J_X7_readCond_d8_12 p l e s m args below meth c D cA ad σ0 τ0 a1 b N mo q nn nm hc n) : J_X7_readCond_d8_12 p l e s m args below meth c D cA ad σ0 τ0 a1 b N mo q nn nm hc (n + 1) := by
  obtain ⟨hx, hb, hml, hown, hts, hK, hk, hr, hI, hN⟩ := C
  intro σ τ H locs x2 fu q1 n1 ls hR hF hFL hP hS hc0 hc1 hc2 iv ib2 ib3 ifu in20 gCT gWH gCT hl hm
  refine lv_iload_n hx hb dX7_readCond_12 rfl (lv_at hl 2 rfl) ?_
  refine r_sipush hx hb dX7_readCond_13 (by decide) (fun z1 ez1 => ?_)
  refine r_icmp_ge (tgt := 68) hx hb dX7_readCond_16 (by decide) (fun c2 => ?_) (fun c2 => ?_)
  · refine r_iconst hx hb dX7_readCond_68 (by decide) (fun z3 ez3 => ?_)
    exact r_zret hx hb hr hK hP hS hk (by omega) dX7_readCond_69 (show P_X7_readCond_d8 σ0 τ0 a1 b N mo q nn nm hc z3 σ τ from ⟨hR, hF, hFL, by omega, by first | (exfalso; omega) | (obtain ⟨f, e1, x1, x2⟩ := o1.no (by omega); exact RO.ofl (con_f e1) (by omega) x1 x2) | exact RO.ofr (by rw [iv, lop_e (by omega)]) (by omega) ⟨gCT, by omega, by omega⟩ | (obtain ⟨f, e2, x1, x2⟩ := o2.no (by omega); exact RO.ofl (by rw [iv, lop_f (f := (allP b N mo (fun q nn => oneP b N mo nm hc 1 q nn))) (by omega) (by omega) e2]) (by omega) x1 x2) | (exfalso; omega), gWH⟩)
  · have htk := gCT.tk
    refine lv_aload_n hx hb dX7_readCond_19 rfl (lv_at hl 0 rfl) ?_
    refine fg_7_0 (k := 27) hx hb hts in_X7_readCond_7 hown hK hP (by decide) (by decide) (hts _ lk_X7_readCond_9) dX7_readCond_20 ?_
    refine fgN_8_9 (k := 1) hx hb hts in_X7_readCond_8 hown hK hP (by decide) (by decide) (hN.use nw_7_32) dX7_readCond_23 ?_
    refine r_bipush hx hb dX7_readCond_26 (by decide) (fun z4 ez4 => ?_)
    refine r_icmp_ne (tgt := 68) hx hb dX7_readCond_28 (by decide) (fun c5 => ?_) (fun c5 => ?_)
    · refine r_iconst hx hb dX7_readCond_68 (by decide) (fun z6 ez6 => ?_)
      exact r_zret hx hb hr hK hP hS hk (by omega) dX7_readCond_69 (show P_X7_readCond_d8 σ0 τ0 a1 b N mo q nn nm hc z6 σ τ from ⟨hR, hF, hFL, by omega, by first | (exfalso; omega) | (obtain ⟨f, e1, x1, x2⟩ := o1.no (by omega); exact RO.ofl (con_f e1) (by omega) x1 x2) | exact RO.ofr (by rw [iv, lop_e (by omega)]) (by omega) ⟨gCT, by omega, by omega⟩ | (obtain ⟨f, e2, x1, x2⟩ := o2.no (by omega); exact RO.ofl (by rw [iv, lop_f (f := (allP b N mo (fun q nn => oneP b N mo nm hc 1 q nn))) (by omega) (by omega) e2]) (by omega) x1 x2) | (exfalso; omega), gWH⟩)
    · refine lv_aload_n hx hb dX7_readCond_31 rfl (lv_at hl 0 rfl) ?_
      refine fg_7_0 (k := 27) hx hb hts in_X7_readCond_7 hown hK hP (by decide) (by decide) (hts _ lk_X7_readCond_9) dX7_readCond_32 ?_
      refine r_cVv (k := 1) (As := []) (rest := []) ⟨hx, hb, hml, hown, hts⟩ hK hP hN hS (c_X8_next_v l D cA ad hI σ τ hR _ _ _ _ gCT) (cwV 0 hts gX7_readCond_X8_next rfl rfl rfl (by decide +kernel) ⟨by decide, by decide⟩) (rv_Tape hK hP (by decide) (by decide)) rfl hl.1 rfl (Nat.le_of_ble_eq_true rfl) dX7_readCond_35 (Nat.zero_le _) (Nat.zero_le _) (fun u7 H7 locs7 hp7 hP hS => ?_)
      obtain ⟨σ7, τ7⟩ := u7
      obtain ⟨hR, f7, fL7, hp7_0⟩ : P_X8_next_v σ τ _ _ _ _ σ7 τ7 := hp7
      have hP : va_P D vwCl (gw cA ad σ7 τ7) H7 := hP
      have hFL := hFL.step fL7 (by decide)
      have gWH := gWH.agL (AgrL.fr fL7 (by decide))
      have hF := hF.step f7 (by decide)
      have gWH := gWH.ag (Agr.fr f7 (by decide))
      have t8 : (σ7 24 1).toInt = (σ 24 1).toInt := congrArg Int32.toInt (f7.at 24 1 (by decide))
      have t9 : (σ7 24 2).toInt = (σ 24 2).toInt := congrArg Int32.toInt (f7.at 24 2 (by decide))
      have gCT := hp7_0
      refine lv_aload_n hx hb dX7_readCond_38 rfl (lv_at hl 0 rfl) ?_
      refine lv_iload_n hx hb dX7_readCond_39 rfl (lv_at hl 1 rfl) ?_
      refine r_cVi (k := 27) (As := [.int a1]) (rest := []) ⟨hx, hb, hml, hown, hts⟩ hK hP hN hS (c_X7_readAll_d8 l D cA ad hI σ7 τ7 hR a1 b N mo _ n1 nm hc (by omega) (by omega) (by omega) (by omega) gCT gWH) (cwV 1 hts gX7_readCond_X7_readAll rfl rfl rfl (by decide +kernel) ⟨by decide, by decide⟩) (rv_SText hK hP (by decide) (by decide)) rfl hl.1 rfl (Nat.le_of_ble_eq_true rfl) dX7_readCond_40 (Nat.zero_le _) (Nat.zero_le _) (fun r10 u10 H10 locs10 hp10 hP hS => ?_)
      obtain ⟨σ10, τ10⟩ := u10
      obtain ⟨hR, f10, fL10, hq10, hp10_0, gnWH⟩ : P_X7_readAll_d8 σ7 τ7 a1 b N mo _ n1 nm hc r10 σ10 τ10 := hp10
      have o2 := hp10_0
      have hP : va_P D vwCl (gw cA ad σ10 τ10) H10 := hP
      have hFL := hFL.step fL10 (by decide)
      have gWH := gWH.agL (AgrL.fr fL10 (by decide))
      have hF := hF.step f10 (by decide)
      have gWH := gWH.ag (Agr.fr f10 (by decide))
      have hr11 := rg_6_1 hR (k := 24) (by decide) (by decide)
      have hr12 := rg_6_2 hR (k := 24) (by decide) (by decide)
      refine r_if_eq (tgt := 60) hx hb dX7_readCond_43 (by decide) (fun c13 => ?_) (fun c13 => ?_)
      · refine r_iconst hx hb dX7_readCond_60 (by decide) (fun z14 ez14 => ?_)
        exact r_zret hx hb hr hK hP hS hk (by omega) dX7_readCond_61 (show P_X7_readCond_d8 σ0 τ0 a1 b N mo q nn nm hc z14 σ10 τ10 from ⟨hR, hF, hFL, by omega, by first | (exfalso; omega) | (obtain ⟨f, e1, x1, x2⟩ := o1.no (by omega); exact RO.ofl (con_f e1) (by omega) x1 x2) | exact RO.ofr (by rw [iv, lop_e (by omega)]) (by omega) ⟨gCT, by omega, by omega⟩ | (obtain ⟨f, e2, x1, x2⟩ := o2.no (by omega); exact RO.ofl (by rw [iv, lop_f (f := (allP b N mo (fun q nn => oneP b N mo nm hc 1 q nn))) (by omega) (by omega) e2]) (by omega) x1 x2) | (exfalso; omega), gWH⟩)
      · obtain ⟨s2, e2, gCT, hs3, hs4⟩ := o2.ye (by omega)
        have hu2 := all_up (one_up _) _ _ _ e2
        refine lv_aload_n hx hb dX7_readCond_46 rfl (lv_at hl 0 rfl) ?_
        refine fg_7_2 (k := 27) hx hb hts in_X7_readCond_7 hown hK hP (by decide) (by decide) (hts _ lk_X7_readCond_19) dX7_readCond_47 ?_
        refine r_bipush hx hb dX7_readCond_50 (by decide) (fun z15 ez15 => ?_)
        refine r_iconst hx hb dX7_readCond_52 (by decide) (fun z16 ez16 => ?_)
        refine r_iconst hx hb dX7_readCond_53 (by decide) (fun z17 ez17 => ?_)
        refine r_cVi (k := 24) (As := [.int z15, .int z16, .int z17]) (rest := []) ⟨hx, hb, hml, hown, hts⟩ hK hP hN hS (c_X6_add l D cA ad hI σ10 τ10 hR z15 z16 z17 (by omega)) (cwV 3 hts gX7_readCond_X6_add rfl rfl rfl (by decide +kernel) ⟨by decide, by decide⟩) (rv_Sent hK hP (by decide) (by decide)) rfl hl.1 rfl (Nat.le_of_ble_eq_true rfl) dX7_readCond_54 (Nat.zero_le _) (Nat.zero_le _) (fun r18 u18 H18 locs18 hp18 hP hS => ?_)
        obtain ⟨σ18, τ18⟩ := u18
        obtain ⟨hR, f18, fL18, hq18, hp18_0⟩ : P_X6_add σ10 τ10 z15 z16 z17 r18 σ18 τ18 := hp18
        have hP : va_P D vwCl (gw cA ad σ18 τ18) H18 := hP
        obtain rfl := FrL.nil fL18
        have hF := hF.step f18 (by decide)
        have gCT := gCT.ag (Agr.fr f18 (by decide))
        have gWH := gWH.ag (Agr.fr f18 (by decide))
        have t19 : (σ18 24 1).toInt = (σ10 24 1).toInt := congrArg Int32.toInt (f18.at 24 1 (by decide))
        have hr20 := rg_6_2 hR (k := 24) (by decide) (by decide)
        refine r_if_ne (tgt := 62) hx hb dX7_readCond_57 (by decide) (fun c21 => ?_) (fun c21 => ?_)
        · refine r_iinc (k := 2) (lv1 := fun z22 => [(2, .int z22), (0, .ref (ad 27)), (1, .int a1)]) hx hb dX7_readCond_62 hl rfl (by decide) (fun _ => rfl) (by decide) (by omega) (fun z22 ls ez22 hl => ?_)
          refine lv_goto (tgt := 12) hx hb dX7_readCond_65 (by decide) ?_
          exact K12 σ18 τ10 H18 locs18 z22 (fu - 1) _ _ ls hR hF hFL hP hS (by omega) (by omega) (by omega) (by first | exact con_s e1 | rw [iv, lop_s (f := (allP b N mo (fun q nn => oneP b N mo nm hc 1 q nn))) (by omega) (by omega) e2]) (by omega) (by omega) (by omega) (by omega) gCT gWH gCT (lv_sub hl [1, 2, 0] rfl) (by omega)
        · refine r_iconst hx hb dX7_readCond_60 (by decide) (fun z23 ez23 => ?_)
          exact r_zret hx hb hr hK hP hS hk (by omega) dX7_readCond_61 (show P_X7_readCond_d8 σ0 τ0 a1 b N mo q nn nm hc z23 σ18 τ10 from ⟨hR, hF, hFL, by omega, by first | (exfalso; omega) | (obtain ⟨f, e1, x1, x2⟩ := o1.no (by omega); exact RO.ofl (con_f e1) (by omega) x1 x2) | exact RO.ofr (by rw [iv, lop_e (by omega)]) (by omega) ⟨gCT, by omega, by omega⟩ | (obtain ⟨f, e2, x1, x2⟩ := o2.no (by omega); exact RO.ofl (by rw [iv, lop_f (f := (allP b N mo (fun q nn => oneP b N mo nm hc 1 q nn))) (by omega) (by omega) e2]) (by omega) x1 x2) | (exfalso; omega), gWH⟩)
theorem A_X7_readCond_d8 (p : Program) (l : Launch) (e : Env) (s : State) (m : MethodId) (args : Array Value) (below : List Frame) (meth : Method) (c : Code) (D : va_G) (cA : Nat → ClassId) (ad : Nat → Nat) (σ0 : Nat → Nat → Int32) (τ0 : Nat → Nat → Int64) (a1 : Int32) (b : Nat → Int) (N : Nat) (mo : Nat) (q : Nat) (nn : Nat) (nm : Nat → Int) (hc : Nat) (C : Cy p s m args meth c cX7_readCond 3 wsX7_readCond RX7 D cA ad (some .boolean)) (ha1 : 8 ≤ a1.toInt ∧ a1.toInt ≤ 8) (hpre0 : (σ0 24 1).toInt = (nn : Int)) (hpre1 : 0 ≤ (σ0 24 2).toInt ∧ (σ0 24 2).toInt ≤ 2 * (nn : Int)) (hpre2 : nn ≤ 20) (gCT0 : CT σ0 τ0 b N mo q) (gWH0 : WH σ0 τ0 nm hc) : ∀ n : Nat, J_X7_readCond_d8_12 p l e s m args below meth c D cA ad σ0 τ0 a1 b N mo q nn nm hc n := by
  intro n
  induction n with
  | zero =>
    exact (by intro σ τ H locs x2 fu q1 n1 ls hR hF hFL hP hS hc0 hc1 hc2 iv ib2 ib3 ifu in20 gCT gWH gCT hl hm; exfalso; omega)
  | succ n ih =>
    exact B_X7_readCond_d8_12 p l e s m args below meth c D cA ad σ0 τ0 a1 b N mo q nn nm hc n C ha1 hpre0 hpre1 hpre2 gCT0 gWH0 ih
set_option maxHeartbeats 4000000 in
theorem c_X7_readCond_d8 (l : Launch) (D : va_G) (cA : Nat → ClassId) (ad : Nat → Nat) (hI : Inj ad) (σ0 : Nat → Nat → Int32) (τ0 : Nat → Nat → Int64) (hR : Rg σ0) (a1 : Int32) (b : Nat → Int) (N : Nat) (mo : Nat) (q : Nat) (nn : Nat) (nm : Nat → Int) (hc : Nat) (ha1 : 8 ≤ a1.toInt ∧ a1.toInt ≤ 8) (hpre0 : (σ0 24 1).toInt = (nn : Int)) (hpre1 : 0 ≤ (σ0 24 2).toInt ∧ (σ0 24 2).toInt ≤ 2 * (nn : Int)) (hpre2 : nn ≤ 20) (gCT0 : CT σ0 τ0 b N mo q) (gWH0 : WH σ0 τ0 nm hc) : Met l yX7_readCond wsX7_readCond ({ frames := 6, cells := 0, slots := 0, locals := 131 } : Room) (WQc D cA ad [.ref (ad 27), .int a1] σ0 τ0) (va_Qi (fun (r : Int32) (u : SS) => P_X7_readCond_d8 σ0 τ0 a1 b N mo q nn nm hc r u.1 u.2) (WB D cA ad) (AA ad)) 0 0 (AA ad) := by
  refine Met.ofW (cc := cX7_readCond) (maxL := 3) (ret := (some .boolean)) (by decide) rfl ?_
  intro p e s m args below meth c s₁ B hml hv
  obtain ⟨rfl, hP, hK, hN⟩ := hv
  have C : Cy p s m _ meth c cX7_readCond 3 wsX7_readCond RX7 D cA ad (some .boolean) := ⟨B.exec, B.bytes, hml, findClass_of_methodNamed B.named, atoms_spec (ws := wsX7_readCond) B.pre, hK, B.notSynchronized, B.returns, hI, hN⟩
  have hl := lv_entry ([.ref (ad 27), .int a1]) (n := 3) (Nat.le_of_ble_eq_true rfl)
  rw [lg_entry_eq]
  generalize (lg_sl ([.ref (ad 27), .int a1]) ++ List.replicate (3 - (lg_sl ([.ref (ad 27), .int a1])).length) Slot.unset).toArray = ls at hl ⊢
  have hl : lv_has ls 3 [(0, .ref (ad 27)), (1, .int a1)] := hl
  have hS : va_S (AA ad) s.heap s.heap [] := va_S.rf
  have hF : Fr L_X7_readCond_d8 σ0 σ0 := Fr.rf
  have hFL : FrL LL_X7_readCond_d8 τ0 τ0 := FrL.rf
  have gCT := gCT0
  have gWH := gWH0
  have hA := A_X7_readCond_d8 p l e s m _ below meth c D cA ad σ0 τ0 a1 b N mo q nn nm hc C ha1 hpre0 hpre1 hpre2 gCT0 gWH0 810
  have K12 := hA
  clear hA
  obtain ⟨hx, hb, _, hown, hts, _, hk, hr, _, _⟩ := C
  refine lv_aload_n hx hb dX7_readCond_0 rfl (lv_at hl 0 rfl) ?_
  refine lv_iload_n hx hb dX7_readCond_1 rfl (lv_at hl 1 rfl) ?_
  refine r_cVi (k := 27) (As := [.int a1]) (rest := []) ⟨hx, hb, hml, hown, hts⟩ hK hP hN hS (c_X7_readAll_d8 l D cA ad hI σ0 τ0 hR a1 b N mo q nn nm hc (by omega) (by omega) (by omega) (by omega) gCT gWH) (cwV 1 hts gX7_readCond_X7_readAll rfl rfl rfl (by decide +kernel) ⟨by decide, by decide⟩) (rv_SText hK hP (by decide) (by decide)) rfl hl.1 rfl (Nat.le_of_ble_eq_true rfl) dX7_readCond_2 (Nat.zero_le _) (Nat.zero_le _) (fun r1 u1 H1 locs1 hp1 hP hS => ?_)
  obtain ⟨σ1, τ1⟩ := u1
  obtain ⟨hR, f1, fL1, hq1, hp1_0, gnWH⟩ : P_X7_readAll_d8 σ0 τ0 a1 b N mo q nn nm hc r1 σ1 τ1 := hp1
  have o1 := hp1_0
  have hP : va_P D vwCl (gw cA ad σ1 τ1) H1 := hP
  have hFL := hFL.step fL1 (by decide)
  have gWH := gWH.agL (AgrL.fr fL1 (by decide))
  have hF := hF.step f1 (by decide)
  have gWH := gWH.ag (Agr.fr f1 (by decide))
  have hr2 := rg_6_1 hR (k := 24) (by decide) (by decide)
  have hr3 := rg_6_2 hR (k := 24) (by decide) (by decide)
  refine r_if_ne (tgt := 10) hx hb dX7_readCond_5 (by decide) (fun c4 => ?_) (fun c4 => ?_)
  · obtain ⟨s1, e1, gCT, hs1, hs2⟩ := o1.ye (by omega)
    have hu1 := all_up (one_up _) _ _ _ e1
    refine r_iconst hx hb dX7_readCond_10 (by decide) (fun z5 ez5 => ?_)
    refine lv_istore_n (lv' := [(2, .int z5), (0, .ref (ad 27)), (1, .int a1)]) hx hb dX7_readCond_11 rfl hl (by decide) rfl (fun ls hl => ?_)
    exact K12 σ1 τ1 H1 locs1 z5 200 _ _ ls hR hF hFL hP hS (by omega) (by omega) (by omega) (by first | exact con_s e1 | rw [iv, lop_s (f := (allP b N mo (fun q nn => oneP b N mo nm hc 1 q nn))) (by omega) (by omega) e2]) (by omega) (by omega) (by omega) (by omega) gCT gWH gCT (lv_sub hl [1, 2, 0] rfl) (by omega)
  · refine r_iconst hx hb dX7_readCond_8 (by decide) (fun z6 ez6 => ?_)
    exact r_zret hx hb hr hK hP hS hk (by omega) dX7_readCond_9 (show P_X7_readCond_d8 σ0 τ0 a1 b N mo q nn nm hc z6 σ1 τ1 from ⟨hR, hF, hFL, by omega, by first | (exfalso; omega) | (obtain ⟨f, e1, x1, x2⟩ := o1.no (by omega); exact RO.ofl (con_f e1) (by omega) x1 x2) | exact RO.ofr (by rw [iv, lop_e (by omega)]) (by omega) ⟨gCT, by omega, by omega⟩ | (obtain ⟨f, e2, x1, x2⟩ := o2.no (by omega); exact RO.ofl (by rw [iv, lop_f (f := (allP b N mo (fun q nn => oneP b N mo nm hc 1 q nn))) (by omega) (by omega) e2]) (by omega) x1 x2) | (exfalso; omega), gWH⟩)
abbrev L_X7_readOne_d7 : List Rc := [(1, 1, 7, 10), (372, 372, 0, 39), (376, 376, 0, 39), (380, 380, 0, 39), (24, 24, 1, 2), (1, 1, 12, 14)]
abbrev LL_X7_readOne_d7 : List Rc := [(1, 1, 11, 11)]
def P_X7_readOne_d7 (σ0 : Nat → Nat → Int32) (τ0 : Nat → Nat → Int64) (a1 : Int32) (b : Nat → Int) (N : Nat) (mo : Nat) (q : Nat) (nn : Nat) (nm : Nat → Int) (hc : Nat) (r : Int32) (σ : Nat → Nat → Int32) (τ : Nat → Nat → Int64) : Prop := Rg σ ∧ Fr L_X7_readOne_d7 σ0 σ ∧ FrL LL_X7_readOne_d7 τ0 τ ∧ (0 ≤ r.toInt ∧ r.toInt ≤ 1) ∧ (RO r σ (oneP b N mo nm hc 2 q nn) (fun s => CT σ τ b N mo s.1 ∧ (σ 24 1).toInt = (s.2 : Int) ∧ (σ 24 2).toInt + 2 * (nn : Int) + 1 ≤ (σ0 24 2).toInt + 2 * (s.2 : Int))) ∧ WH σ τ nm hc
set_option maxHeartbeats 4000000 in
theorem c_X7_readOne_d7 (l : Launch) (D : va_G) (cA : Nat → ClassId) (ad : Nat → Nat) (hI : Inj ad) (σ0 : Nat → Nat → Int32) (τ0 : Nat → Nat → Int64) (hR : Rg σ0) (a1 : Int32) (b : Nat → Int) (N : Nat) (mo : Nat) (q : Nat) (nn : Nat) (nm : Nat → Int) (hc : Nat) (ha1 : 7 ≤ a1.toInt ∧ a1.toInt ≤ 7) (hpre0 : (σ0 24 1).toInt = (nn : Int)) (hpre1 : 0 ≤ (σ0 24 2).toInt ∧ (σ0 24 2).toInt ≤ 2 * (nn : Int)) (hpre2 : nn ≤ 20) (gCT0 : CT σ0 τ0 b N mo q) (gWH0 : WH σ0 τ0 nm hc) : Met l yX7_readOne wsX7_readOne ({ frames := 7, cells := 0, slots := 0, locals := 153 } : Room) (WQc D cA ad [.ref (ad 27), .int a1] σ0 τ0) (va_Qi (fun (r : Int32) (u : SS) => P_X7_readOne_d7 σ0 τ0 a1 b N mo q nn nm hc r u.1 u.2) (WB D cA ad) (AA ad)) 0 0 (AA ad) := by
  refine Met.ofW (cc := cX7_readOne) (maxL := 3) (ret := (some .boolean)) (by decide) rfl ?_
  intro p e s m args below meth c s₁ B hml hv
  obtain ⟨rfl, hP, hK, hN⟩ := hv
  have C : Cy p s m _ meth c cX7_readOne 3 wsX7_readOne RX7 D cA ad (some .boolean) := ⟨B.exec, B.bytes, hml, findClass_of_methodNamed B.named, atoms_spec (ws := wsX7_readOne) B.pre, hK, B.notSynchronized, B.returns, hI, hN⟩
  have hl := lv_entry ([.ref (ad 27), .int a1]) (n := 3) (Nat.le_of_ble_eq_true rfl)
  rw [lg_entry_eq]
  generalize (lg_sl ([.ref (ad 27), .int a1]) ++ List.replicate (3 - (lg_sl ([.ref (ad 27), .int a1])).length) Slot.unset).toArray = ls at hl ⊢
  have hl : lv_has ls 3 [(0, .ref (ad 27)), (1, .int a1)] := hl
  have hS : va_S (AA ad) s.heap s.heap [] := va_S.rf
  have hF : Fr L_X7_readOne_d7 σ0 σ0 := Fr.rf
  have hFL : FrL LL_X7_readOne_d7 τ0 τ0 := FrL.rf
  have gCT := gCT0
  have gWH := gWH0
  obtain ⟨hx, hb, _, hown, hts, _, hk, hr, _, _⟩ := C
  have htk := gCT.tk
  refine lv_aload_n hx hb dX7_readOne_0 rfl (lv_at hl 0 rfl) ?_
  refine fg_7_0 (k := 27) hx hb hts in_X7_readOne_7 hown hK hP (by decide) (by decide) (hts _ lk_X7_readOne_9) dX7_readOne_1 ?_
  refine fgN_8_9 (k := 1) hx hb hts in_X7_readOne_8 hown hK hP (by decide) (by decide) (hN.use nw_7_32) dX7_readOne_4 ?_
  refine lv_istore_n (lv' := [(2, .int (σ0 1 9)), (0, .ref (ad 27)), (1, .int a1)]) hx hb dX7_readOne_7 rfl hl (by decide) rfl (fun ls hl => ?_)
  refine lv_iload_n hx hb dX7_readOne_8 rfl (lv_at hl 0 rfl) ?_
  refine r_cSi (As := [.int (σ0 1 9)]) (rest := []) ⟨hx, hb, hml, hown, hts⟩ hK hP hN hS (c_X7_beginsOne l D cA ad hI σ0 τ0 hR (σ0 1 9)) (va_cwS 1 hts gX7_readOne_X7_beginsOne rfl rfl rfl (by decide +kernel) ⟨by decide, by decide⟩) rfl hl.1 rfl (Nat.le_of_ble_eq_true rfl) dX7_readOne_9 (Nat.zero_le _) (Nat.zero_le _) (fun r1 u1 H1 locs1 hp1 hP hS => ?_)
  obtain ⟨σ1, τ1⟩ := u1
  obtain ⟨hR, f1, fL1, hq1, hp1_0⟩ : P_X7_beginsOne σ0 τ0 (σ0 1 9) r1 σ1 τ1 := hp1
  have hP : va_P D vwCl (gw cA ad σ1 τ1) H1 := hP
  obtain rfl := FrL.nil fL1
  obtain rfl := Fr.nil f1
  refine r_if_ne (tgt := 24) hx hb dX7_readOne_12 (by decide) (fun c2 => ?_) (fun c2 => ?_)
  · refine lv_aload_n hx hb dX7_readOne_24 rfl (lv_at hl 1 rfl) ?_
    refine fg_7_2 (k := 27) hx hb hts in_X7_readOne_7 hown hK hP (by decide) (by decide) (hts _ lk_X7_readOne_19) dX7_readOne_25 ?_
    refine fgN_6_1 (k := 24) hx hb hts in_X7_readOne_6 hown hK hP (by decide) (by decide) (hN.use nw_7_61) dX7_readOne_28 ?_
    refine r_bipush hx hb dX7_readOne_31 (by decide) (fun z3 ez3 => ?_)
    refine r_icmp_ge (tgt := 42) hx hb dX7_readOne_33 (by decide) (fun c4 => ?_) (fun c4 => ?_)
    · refine lv_aload_n hx hb dX7_readOne_42 rfl (lv_at hl 1 rfl) ?_
      refine fg_7_0 (k := 27) hx hb hts in_X7_readOne_7 hown hK hP (by decide) (by decide) (hts _ lk_X7_readOne_9) dX7_readOne_43 ?_
      refine r_iconst hx hb dX7_readOne_46 (by decide) (fun z5 ez5 => ?_)
      refine r_cVi (k := 1) (As := [.int z5]) (rest := []) ⟨hx, hb, hml, hown, hts⟩ hK hP hN hS (c_X8_blame_v l D cA ad hI σ0 τ0 hR z5 _ _ _ _ (by omega) gCT) (cwV 1 hts gX7_readOne_X8_blame rfl rfl rfl (by decide +kernel) ⟨by decide, by decide⟩) (rv_Tape hK hP (by decide) (by decide)) rfl hl.1 rfl (Nat.le_of_ble_eq_true rfl) dX7_readOne_47 (Nat.zero_le _) (Nat.zero_le _) (fun r6 u6 H6 locs6 hp6 hP hS => ?_)
      obtain ⟨σ6, τ6⟩ := u6
      obtain ⟨hR, f6, fL6, hq6, hp6_0, hp6_1, hp6_2, gnCT⟩ : P_X8_blame_v σ0 τ0 z5 _ _ _ _ r6 σ6 τ6 := hp6
      have hP : va_P D vwCl (gw cA ad σ6 τ6) H6 := hP
      obtain rfl := FrL.nil fL6
      have hF := hF.step f6 (by decide)
      have gCT := gCT.ag (Agr.fr f6 (by decide))
      have gWH := gWH.ag (Agr.fr f6 (by decide))
      have t7 : (σ6 24 1).toInt = (σ0 24 1).toInt := congrArg Int32.toInt (f6.at 24 1 (by decide))
      have t8 : (σ6 24 2).toInt = (σ0 24 2).toInt := congrArg Int32.toInt (f6.at 24 2 (by decide))
      exact r_zret hx hb hr hK hP hS hk (by omega) dX7_readOne_50 (show P_X7_readOne_d7 σ0 τ0 a1 b N mo q nn nm hc r6 σ6 τ0 from ⟨hR, hF, hFL, by omega, by first | exact RO.ofr ((one_l (by omega) (by omega) (by omega) (by omega)).trans (lea_n (by omega) (by omega))) (by omega) ⟨gCT, by omega, by omega⟩ | (exfalso; omega) | exact RO.ofk (one_x (by omega)) (by omega) (by omega) (by omega) | exact RO.ofk (one_4 (by omega) (by omega)) (by omega) (by omega) (by omega) | (obtain ⟨f, e1, x1, x2⟩ := o1.no (by omega); exact RO.ofl ((one_n (by omega) (by omega)).trans e1) (by omega) x1 x2) | exact RO.ofr ((one_n (by omega) (by omega)).trans e1) (by omega) ⟨gCT, by omega, by omega⟩ | (obtain ⟨f, e2, x1, x2⟩ := o2.no (by omega); exact RO.ofl (by rw [one_o (by omega) (by omega), e2, bnd_l]) (by omega) x1 x2) | (obtain ⟨f, e3, x1, x2⟩ := o3.no (by omega); exact RO.ofl (by rw [one_o (by omega) (by omega), e2, bnd_r, e3, bnd_l]) (by omega) x1 x2) | exact RO.ofr (by rw [one_o (by omega) (by omega), e2, bnd_r, e3, bnd_r]) (by omega) ⟨gCT, by omega, by omega⟩ | (rw [one_l (by omega) (by omega) (by omega) (by omega)]; exact o4.map (fun s es h => ⟨h.1, h.2.1, by have h2 := h.2.2; have hl := lea_up es; omega⟩)) | (rw [one_l (by omega) (by omega) (by omega) (by omega)]; exact o5.map (fun s es h => ⟨h.1, h.2.1, by have h2 := h.2.2; have hl := lea_up es; omega⟩)), gWH⟩)
    · refine lv_iload_n hx hb dX7_readOne_36 rfl (lv_at hl 2 rfl) ?_
      refine r_bipush hx hb dX7_readOne_37 (by decide) (fun z9 ez9 => ?_)
      refine r_icmp_le (tgt := 51) hx hb dX7_readOne_39 (by decide) (fun c10 => ?_) (fun c10 => ?_)
      · refine lv_aload_n hx hb dX7_readOne_51 rfl (lv_at hl 1 rfl) ?_
        refine fg_7_2 (k := 27) hx hb hts in_X7_readOne_7 hown hK hP (by decide) (by decide) (hts _ lk_X7_readOne_19) dX7_readOne_52 ?_
        refine lv_dup hx hb dX7_readOne_55 rfl ?_
        refine fgN_6_1 (k := 24) hx hb hts in_X7_readOne_6 hown hK hP (by decide) (by decide) (hN.use nw_7_61) dX7_readOne_56 ?_
        refine r_iconst hx hb dX7_readOne_59 (by decide) (fun z11 ez11 => ?_)
        refine r_iadd hx hb dX7_readOne_60 (by omega) (fun z12 ez12 => ?_)
        refine fpN_6_1 (k := 24) hx hb hts in_X7_readOne_6 hown hK hP (by decide) (by decide) (hN.use nw_7_61) hI hR hS (by omega) dX7_readOne_61 (fun σ13 H13 locs13 u13 v13 hR hP hS => ?_)
        have hF := hF.puts u13 4 rfl (by decide) (by decide) (by decide) (by decide)
        have gCT := gCT.ag (Agr.put u13 (by decide))
        have gWH := gWH.ag (Agr.put u13 (by decide))
        have t14 : (σ13 24 2).toInt = (σ0 24 2).toInt := congrArg Int32.toInt (u13 24 2 (by omega))
        refine lv_aload_n hx hb dX7_readOne_64 rfl (lv_at hl 1 rfl) ?_
        refine fg_7_0 (k := 27) hx hb hts in_X7_readOne_7 hown hK hP (by decide) (by decide) (hts _ lk_X7_readOne_9) dX7_readOne_65 ?_
        refine r_cVv (k := 1) (As := []) (rest := []) ⟨hx, hb, hml, hown, hts⟩ hK hP hN hS (c_X8_next_v l D cA ad hI σ13 τ0 hR _ _ _ _ gCT) (cwV 0 hts gX7_readOne_X8_next rfl rfl rfl (by decide +kernel) ⟨by decide, by decide⟩) (rv_Tape hK hP (by decide) (by decide)) rfl hl.1 rfl (Nat.le_of_ble_eq_true rfl) dX7_readOne_68 (Nat.zero_le _) (Nat.zero_le _) (fun u15 H15 locs15 hp15 hP hS => ?_)
        obtain ⟨σ15, τ15⟩ := u15
        obtain ⟨hR, f15, fL15, hp15_0⟩ : P_X8_next_v σ13 τ0 _ _ _ _ σ15 τ15 := hp15
        have hP : va_P D vwCl (gw cA ad σ15 τ15) H15 := hP
        have hFL := hFL.step fL15 (by decide)
        have gWH := gWH.agL (AgrL.fr fL15 (by decide))
        have hF := hF.step f15 (by decide)
        have gWH := gWH.ag (Agr.fr f15 (by decide))
        have t16 : (σ15 24 2).toInt = (σ13 24 2).toInt := congrArg Int32.toInt (f15.at 24 2 (by decide))
        have t17 : (σ15 24 1).toInt = (σ13 24 1).toInt := congrArg Int32.toInt (f15.at 24 1 (by decide))
        have gCT := hp15_0
        refine lv_iload_n hx hb dX7_readOne_71 rfl (lv_at hl 0 rfl) ?_
        by_cases c18 : (σ0 1 9).toInt = 22
        · refine lv_tableIn (off := 108) (tgt := 180) hx hb dX7_readOne_72 (by omega) (by omega) (by rw [c18]; rfl) (by decide) ?_
          refine lv_aload_n hx hb dX7_readOne_180 rfl (lv_at hl 1 rfl) ?_
          refine lv_iload_n hx hb dX7_readOne_181 rfl (lv_at hl 2 rfl) ?_
          refine r_iconst hx hb dX7_readOne_182 (by decide) (fun z19 ez19 => ?_)
          refine r_iadd hx hb dX7_readOne_183 (by omega) (fun z20 ez20 => ?_)
          refine r_cVi (k := 27) (As := [.int z20]) (rest := []) ⟨hx, hb, hml, hown, hts⟩ hK hP hN hS (c_X7_readOne_d8 l D cA ad hI σ15 τ15 hR z20 b N mo _ (nn + 1) nm hc (by omega) (by omega) (by omega) (by omega) gCT gWH) (cwV 1 hts gX7_readOne_X7_readOne rfl rfl rfl (by decide +kernel) ⟨by decide, by decide⟩) (rv_SText hK hP (by decide) (by decide)) rfl hl.1 rfl (Nat.le_of_ble_eq_true rfl) dX7_readOne_184 (Nat.zero_le _) (Nat.zero_le _) (fun r21 u21 H21 locs21 hp21 hP hS => ?_)
          obtain ⟨σ21, τ21⟩ := u21
          obtain ⟨hR, f21, fL21, hq21, hp21_0, gnWH⟩ : P_X7_readOne_d8 σ15 τ15 z20 b N mo _ (nn + 1) nm hc r21 σ21 τ21 := hp21
          have o1 := hp21_0
          have hP : va_P D vwCl (gw cA ad σ21 τ21) H21 := hP
          have hFL := hFL.step fL21 (by decide)
          have gWH := gWH.agL (AgrL.fr fL21 (by decide))
          have hF := hF.step f21 (by decide)
          have gWH := gWH.ag (Agr.fr f21 (by decide))
          have hr22 := rg_6_1 hR (k := 24) (by decide) (by decide)
          have hr23 := rg_6_2 hR (k := 24) (by decide) (by decide)
          refine r_if_eq (tgt := 208) hx hb dX7_readOne_187 (by decide) (fun c24 => ?_) (fun c24 => ?_)
          · refine r_iconst hx hb dX7_readOne_208 (by decide) (fun z25 ez25 => ?_)
            exact r_zret hx hb hr hK hP hS hk (by omega) dX7_readOne_209 (show P_X7_readOne_d7 σ0 τ0 a1 b N mo q nn nm hc z25 σ21 τ21 from ⟨hR, hF, hFL, by omega, by first | exact RO.ofr ((one_l (by omega) (by omega) (by omega) (by omega)).trans (lea_n (by omega) (by omega))) (by omega) ⟨gCT, by omega, by omega⟩ | (exfalso; omega) | exact RO.ofk (one_x (by omega)) (by omega) (by omega) (by omega) | exact RO.ofk (one_4 (by omega) (by omega)) (by omega) (by omega) (by omega) | (obtain ⟨f, e1, x1, x2⟩ := o1.no (by omega); exact RO.ofl ((one_n (by omega) (by omega)).trans e1) (by omega) x1 x2) | exact RO.ofr ((one_n (by omega) (by omega)).trans e1) (by omega) ⟨gCT, by omega, by omega⟩ | (obtain ⟨f, e2, x1, x2⟩ := o2.no (by omega); exact RO.ofl (by rw [one_o (by omega) (by omega), e2, bnd_l]) (by omega) x1 x2) | (obtain ⟨f, e3, x1, x2⟩ := o3.no (by omega); exact RO.ofl (by rw [one_o (by omega) (by omega), e2, bnd_r, e3, bnd_l]) (by omega) x1 x2) | exact RO.ofr (by rw [one_o (by omega) (by omega), e2, bnd_r, e3, bnd_r]) (by omega) ⟨gCT, by omega, by omega⟩ | (rw [one_l (by omega) (by omega) (by omega) (by omega)]; exact o4.map (fun s es h => ⟨h.1, h.2.1, by have h2 := h.2.2; have hl := lea_up es; omega⟩)) | (rw [one_l (by omega) (by omega) (by omega) (by omega)]; exact o5.map (fun s es h => ⟨h.1, h.2.1, by have h2 := h.2.2; have hl := lea_up es; omega⟩)), gWH⟩)
          · obtain ⟨s1, e1, gCT, hs1, hs2⟩ := o1.ye (by omega)
            have hu1 := one_up _ _ _ _ e1
            refine lv_aload_n hx hb dX7_readOne_190 rfl (lv_at hl 1 rfl) ?_
            refine fg_7_2 (k := 27) hx hb hts in_X7_readOne_7 hown hK hP (by decide) (by decide) (hts _ lk_X7_readOne_19) dX7_readOne_191 ?_
            refine r_bipush hx hb dX7_readOne_194 (by decide) (fun z26 ez26 => ?_)
            refine r_iconst hx hb dX7_readOne_196 (by decide) (fun z27 ez27 => ?_)
            refine r_iconst hx hb dX7_readOne_197 (by decide) (fun z28 ez28 => ?_)
            refine r_cVi (k := 24) (As := [.int z26, .int z27, .int z28]) (rest := []) ⟨hx, hb, hml, hown, hts⟩ hK hP hN hS (c_X6_add l D cA ad hI σ21 τ21 hR z26 z27 z28 (by omega)) (cwV 3 hts gX7_readOne_X6_add rfl rfl rfl (by decide +kernel) ⟨by decide, by decide⟩) (rv_Sent hK hP (by decide) (by decide)) rfl hl.1 rfl (Nat.le_of_ble_eq_true rfl) dX7_readOne_198 (Nat.zero_le _) (Nat.zero_le _) (fun r29 u29 H29 locs29 hp29 hP hS => ?_)
            obtain ⟨σ29, τ29⟩ := u29
            obtain ⟨hR, f29, fL29, hq29, hp29_0⟩ : P_X6_add σ21 τ21 z26 z27 z28 r29 σ29 τ29 := hp29
            have hP : va_P D vwCl (gw cA ad σ29 τ29) H29 := hP
            obtain rfl := FrL.nil fL29
            have hF := hF.step f29 (by decide)
            have gCT := gCT.ag (Agr.fr f29 (by decide))
            have gWH := gWH.ag (Agr.fr f29 (by decide))
            have t30 : (σ29 24 1).toInt = (σ21 24 1).toInt := congrArg Int32.toInt (f29.at 24 1 (by decide))
            have hr31 := rg_6_2 hR (k := 24) (by decide) (by decide)
            refine r_if_eq (tgt := 208) hx hb dX7_readOne_201 (by decide) (fun c32 => ?_) (fun c32 => ?_)
            · refine r_iconst hx hb dX7_readOne_208 (by decide) (fun z33 ez33 => ?_)
              exact r_zret hx hb hr hK hP hS hk (by omega) dX7_readOne_209 (show P_X7_readOne_d7 σ0 τ0 a1 b N mo q nn nm hc z33 σ29 τ21 from ⟨hR, hF, hFL, by omega, by first | exact RO.ofr ((one_l (by omega) (by omega) (by omega) (by omega)).trans (lea_n (by omega) (by omega))) (by omega) ⟨gCT, by omega, by omega⟩ | (exfalso; omega) | exact RO.ofk (one_x (by omega)) (by omega) (by omega) (by omega) | exact RO.ofk (one_4 (by omega) (by omega)) (by omega) (by omega) (by omega) | (obtain ⟨f, e1, x1, x2⟩ := o1.no (by omega); exact RO.ofl ((one_n (by omega) (by omega)).trans e1) (by omega) x1 x2) | exact RO.ofr ((one_n (by omega) (by omega)).trans e1) (by omega) ⟨gCT, by omega, by omega⟩ | (obtain ⟨f, e2, x1, x2⟩ := o2.no (by omega); exact RO.ofl (by rw [one_o (by omega) (by omega), e2, bnd_l]) (by omega) x1 x2) | (obtain ⟨f, e3, x1, x2⟩ := o3.no (by omega); exact RO.ofl (by rw [one_o (by omega) (by omega), e2, bnd_r, e3, bnd_l]) (by omega) x1 x2) | exact RO.ofr (by rw [one_o (by omega) (by omega), e2, bnd_r, e3, bnd_r]) (by omega) ⟨gCT, by omega, by omega⟩ | (rw [one_l (by omega) (by omega) (by omega) (by omega)]; exact o4.map (fun s es h => ⟨h.1, h.2.1, by have h2 := h.2.2; have hl := lea_up es; omega⟩)) | (rw [one_l (by omega) (by omega) (by omega) (by omega)]; exact o5.map (fun s es h => ⟨h.1, h.2.1, by have h2 := h.2.2; have hl := lea_up es; omega⟩)), gWH⟩)
            · refine r_iconst hx hb dX7_readOne_204 (by decide) (fun z34 ez34 => ?_)
              refine lv_goto (tgt := 209) hx hb dX7_readOne_205 (by decide) ?_
              exact r_zret hx hb hr hK hP hS hk (by omega) dX7_readOne_209 (show P_X7_readOne_d7 σ0 τ0 a1 b N mo q nn nm hc z34 σ29 τ21 from ⟨hR, hF, hFL, by omega, by first | exact RO.ofr ((one_l (by omega) (by omega) (by omega) (by omega)).trans (lea_n (by omega) (by omega))) (by omega) ⟨gCT, by omega, by omega⟩ | (exfalso; omega) | exact RO.ofk (one_x (by omega)) (by omega) (by omega) (by omega) | exact RO.ofk (one_4 (by omega) (by omega)) (by omega) (by omega) (by omega) | (obtain ⟨f, e1, x1, x2⟩ := o1.no (by omega); exact RO.ofl ((one_n (by omega) (by omega)).trans e1) (by omega) x1 x2) | exact RO.ofr ((one_n (by omega) (by omega)).trans e1) (by omega) ⟨gCT, by omega, by omega⟩ | (obtain ⟨f, e2, x1, x2⟩ := o2.no (by omega); exact RO.ofl (by rw [one_o (by omega) (by omega), e2, bnd_l]) (by omega) x1 x2) | (obtain ⟨f, e3, x1, x2⟩ := o3.no (by omega); exact RO.ofl (by rw [one_o (by omega) (by omega), e2, bnd_r, e3, bnd_l]) (by omega) x1 x2) | exact RO.ofr (by rw [one_o (by omega) (by omega), e2, bnd_r, e3, bnd_r]) (by omega) ⟨gCT, by omega, by omega⟩ | (rw [one_l (by omega) (by omega) (by omega) (by omega)]; exact o4.map (fun s es h => ⟨h.1, h.2.1, by have h2 := h.2.2; have hl := lea_up es; omega⟩)) | (rw [one_l (by omega) (by omega) (by omega) (by omega)]; exact o5.map (fun s es h => ⟨h.1, h.2.1, by have h2 := h.2.2; have hl := lea_up es; omega⟩)), gWH⟩)
        by_cases c35 : (σ0 1 9).toInt = 23
        · refine lv_tableIn (off := 177) (tgt := 249) hx hb dX7_readOne_72 (by omega) (by omega) (by rw [c35]; rfl) (by decide) ?_
          refine lv_aload_n hx hb dX7_readOne_249 rfl (lv_at hl 1 rfl) ?_
          refine fg_7_2 (k := 27) hx hb hts in_X7_readOne_7 hown hK hP (by decide) (by decide) (hts _ lk_X7_readOne_19) dX7_readOne_250 ?_
          refine lv_iload_n hx hb dX7_readOne_253 rfl (lv_at hl 0 rfl) ?_
          refine r_bipush hx hb dX7_readOne_254 (by decide) (fun z36 ez36 => ?_)
          refine r_iconst hx hb dX7_readOne_256 (by decide) (fun z37 ez37 => ?_)
          refine r_cVi (k := 24) (As := [.int (σ0 1 9), .int z36, .int z37]) (rest := []) ⟨hx, hb, hml, hown, hts⟩ hK hP hN hS (c_X6_add l D cA ad hI σ15 τ15 hR (σ0 1 9) z36 z37 (by omega)) (cwV 3 hts gX7_readOne_X6_add rfl rfl rfl (by decide +kernel) ⟨by decide, by decide⟩) (rv_Sent hK hP (by decide) (by decide)) rfl hl.1 rfl (Nat.le_of_ble_eq_true rfl) dX7_readOne_257 (Nat.zero_le _) (Nat.zero_le _) (fun r38 u38 H38 locs38 hp38 hP hS => ?_)
          obtain ⟨σ38, τ38⟩ := u38
          obtain ⟨hR, f38, fL38, hq38, hp38_0⟩ : P_X6_add σ15 τ15 (σ0 1 9) z36 z37 r38 σ38 τ38 := hp38
          have hP : va_P D vwCl (gw cA ad σ38 τ38) H38 := hP
          obtain rfl := FrL.nil fL38
          have hF := hF.step f38 (by decide)
          have gCT := gCT.ag (Agr.fr f38 (by decide))
          have gWH := gWH.ag (Agr.fr f38 (by decide))
          have t39 : (σ38 24 1).toInt = (σ15 24 1).toInt := congrArg Int32.toInt (f38.at 24 1 (by decide))
          have hr40 := rg_6_2 hR (k := 24) (by decide) (by decide)
          exact r_zret hx hb hr hK hP hS hk (by omega) dX7_readOne_260 (show P_X7_readOne_d7 σ0 τ0 a1 b N mo q nn nm hc r38 σ38 τ15 from ⟨hR, hF, hFL, by omega, by first | exact RO.ofr ((one_l (by omega) (by omega) (by omega) (by omega)).trans (lea_n (by omega) (by omega))) (by omega) ⟨gCT, by omega, by omega⟩ | (exfalso; omega) | exact RO.ofk (one_x (by omega)) (by omega) (by omega) (by omega) | exact RO.ofk (one_4 (by omega) (by omega)) (by omega) (by omega) (by omega) | (obtain ⟨f, e1, x1, x2⟩ := o1.no (by omega); exact RO.ofl ((one_n (by omega) (by omega)).trans e1) (by omega) x1 x2) | exact RO.ofr ((one_n (by omega) (by omega)).trans e1) (by omega) ⟨gCT, by omega, by omega⟩ | (obtain ⟨f, e2, x1, x2⟩ := o2.no (by omega); exact RO.ofl (by rw [one_o (by omega) (by omega), e2, bnd_l]) (by omega) x1 x2) | (obtain ⟨f, e3, x1, x2⟩ := o3.no (by omega); exact RO.ofl (by rw [one_o (by omega) (by omega), e2, bnd_r, e3, bnd_l]) (by omega) x1 x2) | exact RO.ofr (by rw [one_o (by omega) (by omega), e2, bnd_r, e3, bnd_r]) (by omega) ⟨gCT, by omega, by omega⟩ | (rw [one_l (by omega) (by omega) (by omega) (by omega)]; exact o4.map (fun s es h => ⟨h.1, h.2.1, by have h2 := h.2.2; have hl := lea_up es; omega⟩)) | (rw [one_l (by omega) (by omega) (by omega) (by omega)]; exact o5.map (fun s es h => ⟨h.1, h.2.1, by have h2 := h.2.2; have hl := lea_up es; omega⟩)), gWH⟩)
        by_cases c41 : (σ0 1 9).toInt = 24
        · refine lv_tableIn (off := 177) (tgt := 249) hx hb dX7_readOne_72 (by omega) (by omega) (by rw [c41]; rfl) (by decide) ?_
          refine lv_aload_n hx hb dX7_readOne_249 rfl (lv_at hl 1 rfl) ?_
          refine fg_7_2 (k := 27) hx hb hts in_X7_readOne_7 hown hK hP (by decide) (by decide) (hts _ lk_X7_readOne_19) dX7_readOne_250 ?_
          refine lv_iload_n hx hb dX7_readOne_253 rfl (lv_at hl 0 rfl) ?_
          refine r_bipush hx hb dX7_readOne_254 (by decide) (fun z42 ez42 => ?_)
          refine r_iconst hx hb dX7_readOne_256 (by decide) (fun z43 ez43 => ?_)
          refine r_cVi (k := 24) (As := [.int (σ0 1 9), .int z42, .int z43]) (rest := []) ⟨hx, hb, hml, hown, hts⟩ hK hP hN hS (c_X6_add l D cA ad hI σ15 τ15 hR (σ0 1 9) z42 z43 (by omega)) (cwV 3 hts gX7_readOne_X6_add rfl rfl rfl (by decide +kernel) ⟨by decide, by decide⟩) (rv_Sent hK hP (by decide) (by decide)) rfl hl.1 rfl (Nat.le_of_ble_eq_true rfl) dX7_readOne_257 (Nat.zero_le _) (Nat.zero_le _) (fun r44 u44 H44 locs44 hp44 hP hS => ?_)
          obtain ⟨σ44, τ44⟩ := u44
          obtain ⟨hR, f44, fL44, hq44, hp44_0⟩ : P_X6_add σ15 τ15 (σ0 1 9) z42 z43 r44 σ44 τ44 := hp44
          have hP : va_P D vwCl (gw cA ad σ44 τ44) H44 := hP
          obtain rfl := FrL.nil fL44
          have hF := hF.step f44 (by decide)
          have gCT := gCT.ag (Agr.fr f44 (by decide))
          have gWH := gWH.ag (Agr.fr f44 (by decide))
          have t45 : (σ44 24 1).toInt = (σ15 24 1).toInt := congrArg Int32.toInt (f44.at 24 1 (by decide))
          have hr46 := rg_6_2 hR (k := 24) (by decide) (by decide)
          exact r_zret hx hb hr hK hP hS hk (by omega) dX7_readOne_260 (show P_X7_readOne_d7 σ0 τ0 a1 b N mo q nn nm hc r44 σ44 τ15 from ⟨hR, hF, hFL, by omega, by first | exact RO.ofr ((one_l (by omega) (by omega) (by omega) (by omega)).trans (lea_n (by omega) (by omega))) (by omega) ⟨gCT, by omega, by omega⟩ | (exfalso; omega) | exact RO.ofk (one_x (by omega)) (by omega) (by omega) (by omega) | exact RO.ofk (one_4 (by omega) (by omega)) (by omega) (by omega) (by omega) | (obtain ⟨f, e1, x1, x2⟩ := o1.no (by omega); exact RO.ofl ((one_n (by omega) (by omega)).trans e1) (by omega) x1 x2) | exact RO.ofr ((one_n (by omega) (by omega)).trans e1) (by omega) ⟨gCT, by omega, by omega⟩ | (obtain ⟨f, e2, x1, x2⟩ := o2.no (by omega); exact RO.ofl (by rw [one_o (by omega) (by omega), e2, bnd_l]) (by omega) x1 x2) | (obtain ⟨f, e3, x1, x2⟩ := o3.no (by omega); exact RO.ofl (by rw [one_o (by omega) (by omega), e2, bnd_r, e3, bnd_l]) (by omega) x1 x2) | exact RO.ofr (by rw [one_o (by omega) (by omega), e2, bnd_r, e3, bnd_r]) (by omega) ⟨gCT, by omega, by omega⟩ | (rw [one_l (by omega) (by omega) (by omega) (by omega)]; exact o4.map (fun s es h => ⟨h.1, h.2.1, by have h2 := h.2.2; have hl := lea_up es; omega⟩)) | (rw [one_l (by omega) (by omega) (by omega) (by omega)]; exact o5.map (fun s es h => ⟨h.1, h.2.1, by have h2 := h.2.2; have hl := lea_up es; omega⟩)), gWH⟩)
        by_cases c47 : (σ0 1 9).toInt = 25
        · refine lv_tableIn (off := 166) (tgt := 238) hx hb dX7_readOne_72 (by omega) (by omega) (by rw [c47]; rfl) (by decide) ?_
          refine lv_aload_n hx hb dX7_readOne_238 rfl (lv_at hl 1 rfl) ?_
          refine r_cVi (k := 27) (As := []) (rest := []) ⟨hx, hb, hml, hown, hts⟩ hK hP hN hS (c_X7_readOn l D cA ad hI σ15 τ15 hR b N mo _ (nn + 1) nm hc (tkq b N mo q) (by omega) (by omega) (by omega) gCT gWH) (cwV 0 hts gX7_readOne_X7_readOn rfl rfl rfl (by decide +kernel) ⟨by decide, by decide⟩) (rv_SText hK hP (by decide) (by decide)) rfl hl.1 rfl (Nat.le_of_ble_eq_true rfl) dX7_readOne_239 (Nat.zero_le _) (Nat.zero_le _) (fun r48 u48 H48 locs48 hp48 hP hS => ?_)
          obtain ⟨σ48, τ48⟩ := u48
          obtain ⟨hR, f48, fL48, hq48, hp48_0, gnWH⟩ : P_X7_readOn σ15 τ15 b N mo _ (nn + 1) nm hc (tkq b N mo q) r48 σ48 τ48 := hp48
          have o4 := hp48_0
          have hP : va_P D vwCl (gw cA ad σ48 τ48) H48 := hP
          have hFL := hFL.step fL48 (by decide)
          have gWH := gWH.agL (AgrL.fr fL48 (by decide))
          have hF := hF.step f48 (by decide)
          have gWH := gWH.ag (Agr.fr f48 (by decide))
          have t49 : (σ48 24 1).toInt = (σ15 24 1).toInt := congrArg Int32.toInt (f48.at 24 1 (by decide))
          have hr50 := rg_6_2 hR (k := 24) (by decide) (by decide)
          exact r_zret hx hb hr hK hP hS hk (by omega) dX7_readOne_242 (show P_X7_readOne_d7 σ0 τ0 a1 b N mo q nn nm hc r48 σ48 τ48 from ⟨hR, hF, hFL, by omega, by first | exact RO.ofr ((one_l (by omega) (by omega) (by omega) (by omega)).trans (lea_n (by omega) (by omega))) (by omega) ⟨gCT, by omega, by omega⟩ | (exfalso; omega) | exact RO.ofk (one_x (by omega)) (by omega) (by omega) (by omega) | exact RO.ofk (one_4 (by omega) (by omega)) (by omega) (by omega) (by omega) | (obtain ⟨f, e1, x1, x2⟩ := o1.no (by omega); exact RO.ofl ((one_n (by omega) (by omega)).trans e1) (by omega) x1 x2) | exact RO.ofr ((one_n (by omega) (by omega)).trans e1) (by omega) ⟨gCT, by omega, by omega⟩ | (obtain ⟨f, e2, x1, x2⟩ := o2.no (by omega); exact RO.ofl (by rw [one_o (by omega) (by omega), e2, bnd_l]) (by omega) x1 x2) | (obtain ⟨f, e3, x1, x2⟩ := o3.no (by omega); exact RO.ofl (by rw [one_o (by omega) (by omega), e2, bnd_r, e3, bnd_l]) (by omega) x1 x2) | exact RO.ofr (by rw [one_o (by omega) (by omega), e2, bnd_r, e3, bnd_r]) (by omega) ⟨gCT, by omega, by omega⟩ | (rw [one_l (by omega) (by omega) (by omega) (by omega)]; exact o4.map (fun s es h => ⟨h.1, h.2.1, by have h2 := h.2.2; have hl := lea_up es; omega⟩)) | (rw [one_l (by omega) (by omega) (by omega) (by omega)]; exact o5.map (fun s es h => ⟨h.1, h.2.1, by have h2 := h.2.2; have hl := lea_up es; omega⟩)), gWH⟩)
        by_cases c51 : (σ0 1 9).toInt = 26
        · refine lv_tableIn (off := 177) (tgt := 249) hx hb dX7_readOne_72 (by omega) (by omega) (by rw [c51]; rfl) (by decide) ?_
          refine lv_aload_n hx hb dX7_readOne_249 rfl (lv_at hl 1 rfl) ?_
          refine fg_7_2 (k := 27) hx hb hts in_X7_readOne_7 hown hK hP (by decide) (by decide) (hts _ lk_X7_readOne_19) dX7_readOne_250 ?_
          refine lv_iload_n hx hb dX7_readOne_253 rfl (lv_at hl 0 rfl) ?_
          refine r_bipush hx hb dX7_readOne_254 (by decide) (fun z52 ez52 => ?_)
          refine r_iconst hx hb dX7_readOne_256 (by decide) (fun z53 ez53 => ?_)
          refine r_cVi (k := 24) (As := [.int (σ0 1 9), .int z52, .int z53]) (rest := []) ⟨hx, hb, hml, hown, hts⟩ hK hP hN hS (c_X6_add l D cA ad hI σ15 τ15 hR (σ0 1 9) z52 z53 (by omega)) (cwV 3 hts gX7_readOne_X6_add rfl rfl rfl (by decide +kernel) ⟨by decide, by decide⟩) (rv_Sent hK hP (by decide) (by decide)) rfl hl.1 rfl (Nat.le_of_ble_eq_true rfl) dX7_readOne_257 (Nat.zero_le _) (Nat.zero_le _) (fun r54 u54 H54 locs54 hp54 hP hS => ?_)
          obtain ⟨σ54, τ54⟩ := u54
          obtain ⟨hR, f54, fL54, hq54, hp54_0⟩ : P_X6_add σ15 τ15 (σ0 1 9) z52 z53 r54 σ54 τ54 := hp54
          have hP : va_P D vwCl (gw cA ad σ54 τ54) H54 := hP
          obtain rfl := FrL.nil fL54
          have hF := hF.step f54 (by decide)
          have gCT := gCT.ag (Agr.fr f54 (by decide))
          have gWH := gWH.ag (Agr.fr f54 (by decide))
          have t55 : (σ54 24 1).toInt = (σ15 24 1).toInt := congrArg Int32.toInt (f54.at 24 1 (by decide))
          have hr56 := rg_6_2 hR (k := 24) (by decide) (by decide)
          exact r_zret hx hb hr hK hP hS hk (by omega) dX7_readOne_260 (show P_X7_readOne_d7 σ0 τ0 a1 b N mo q nn nm hc r54 σ54 τ15 from ⟨hR, hF, hFL, by omega, by first | exact RO.ofr ((one_l (by omega) (by omega) (by omega) (by omega)).trans (lea_n (by omega) (by omega))) (by omega) ⟨gCT, by omega, by omega⟩ | (exfalso; omega) | exact RO.ofk (one_x (by omega)) (by omega) (by omega) (by omega) | exact RO.ofk (one_4 (by omega) (by omega)) (by omega) (by omega) (by omega) | (obtain ⟨f, e1, x1, x2⟩ := o1.no (by omega); exact RO.ofl ((one_n (by omega) (by omega)).trans e1) (by omega) x1 x2) | exact RO.ofr ((one_n (by omega) (by omega)).trans e1) (by omega) ⟨gCT, by omega, by omega⟩ | (obtain ⟨f, e2, x1, x2⟩ := o2.no (by omega); exact RO.ofl (by rw [one_o (by omega) (by omega), e2, bnd_l]) (by omega) x1 x2) | (obtain ⟨f, e3, x1, x2⟩ := o3.no (by omega); exact RO.ofl (by rw [one_o (by omega) (by omega), e2, bnd_r, e3, bnd_l]) (by omega) x1 x2) | exact RO.ofr (by rw [one_o (by omega) (by omega), e2, bnd_r, e3, bnd_r]) (by omega) ⟨gCT, by omega, by omega⟩ | (rw [one_l (by omega) (by omega) (by omega) (by omega)]; exact o4.map (fun s es h => ⟨h.1, h.2.1, by have h2 := h.2.2; have hl := lea_up es; omega⟩)) | (rw [one_l (by omega) (by omega) (by omega) (by omega)]; exact o5.map (fun s es h => ⟨h.1, h.2.1, by have h2 := h.2.2; have hl := lea_up es; omega⟩)), gWH⟩)
        by_cases c57 : (σ0 1 9).toInt = 27
        · refine lv_tableIn (off := 171) (tgt := 243) hx hb dX7_readOne_72 (by omega) (by omega) (by rw [c57]; rfl) (by decide) ?_
          refine lv_aload_n hx hb dX7_readOne_243 rfl (lv_at hl 1 rfl) ?_
          refine lv_iload_n hx hb dX7_readOne_244 rfl (lv_at hl 0 rfl) ?_
          refine r_cVi (k := 27) (As := [.int (σ0 1 9)]) (rest := []) ⟨hx, hb, hml, hown, hts⟩ hK hP hN hS (c_X7_readMeasure l D cA ad hI σ15 τ15 hR (σ0 1 9) b N mo _ (nn + 1) nm hc (tkq b N mo q) (by omega) (by omega) (by omega) (by omega) gCT gWH) (cwV 1 hts gX7_readOne_X7_readMeasure rfl rfl rfl (by decide +kernel) ⟨by decide, by decide⟩) (rv_SText hK hP (by decide) (by decide)) rfl hl.1 rfl (Nat.le_of_ble_eq_true rfl) dX7_readOne_245 (Nat.zero_le _) (Nat.zero_le _) (fun r58 u58 H58 locs58 hp58 hP hS => ?_)
          obtain ⟨σ58, τ58⟩ := u58
          obtain ⟨hR, f58, fL58, hq58, hp58_0, gnWH⟩ : P_X7_readMeasure σ15 τ15 (σ0 1 9) b N mo _ (nn + 1) nm hc (tkq b N mo q) r58 σ58 τ58 := hp58
          have o5 := hp58_0
          have hP : va_P D vwCl (gw cA ad σ58 τ58) H58 := hP
          have hFL := hFL.step fL58 (by decide)
          have gWH := gWH.agL (AgrL.fr fL58 (by decide))
          have hF := hF.step f58 (by decide)
          have gWH := gWH.ag (Agr.fr f58 (by decide))
          have t59 : (σ58 24 1).toInt = (σ15 24 1).toInt := congrArg Int32.toInt (f58.at 24 1 (by decide))
          have hr60 := rg_6_2 hR (k := 24) (by decide) (by decide)
          exact r_zret hx hb hr hK hP hS hk (by omega) dX7_readOne_248 (show P_X7_readOne_d7 σ0 τ0 a1 b N mo q nn nm hc r58 σ58 τ58 from ⟨hR, hF, hFL, by omega, by first | exact RO.ofr ((one_l (by omega) (by omega) (by omega) (by omega)).trans (lea_n (by omega) (by omega))) (by omega) ⟨gCT, by omega, by omega⟩ | (exfalso; omega) | exact RO.ofk (one_x (by omega)) (by omega) (by omega) (by omega) | exact RO.ofk (one_4 (by omega) (by omega)) (by omega) (by omega) (by omega) | (obtain ⟨f, e1, x1, x2⟩ := o1.no (by omega); exact RO.ofl ((one_n (by omega) (by omega)).trans e1) (by omega) x1 x2) | exact RO.ofr ((one_n (by omega) (by omega)).trans e1) (by omega) ⟨gCT, by omega, by omega⟩ | (obtain ⟨f, e2, x1, x2⟩ := o2.no (by omega); exact RO.ofl (by rw [one_o (by omega) (by omega), e2, bnd_l]) (by omega) x1 x2) | (obtain ⟨f, e3, x1, x2⟩ := o3.no (by omega); exact RO.ofl (by rw [one_o (by omega) (by omega), e2, bnd_r, e3, bnd_l]) (by omega) x1 x2) | exact RO.ofr (by rw [one_o (by omega) (by omega), e2, bnd_r, e3, bnd_r]) (by omega) ⟨gCT, by omega, by omega⟩ | (rw [one_l (by omega) (by omega) (by omega) (by omega)]; exact o4.map (fun s es h => ⟨h.1, h.2.1, by have h2 := h.2.2; have hl := lea_up es; omega⟩)) | (rw [one_l (by omega) (by omega) (by omega) (by omega)]; exact o5.map (fun s es h => ⟨h.1, h.2.1, by have h2 := h.2.2; have hl := lea_up es; omega⟩)), gWH⟩)
        by_cases c61 : (σ0 1 9).toInt = 28
        · refine lv_tableIn (off := 171) (tgt := 243) hx hb dX7_readOne_72 (by omega) (by omega) (by rw [c61]; rfl) (by decide) ?_
          refine lv_aload_n hx hb dX7_readOne_243 rfl (lv_at hl 1 rfl) ?_
          refine lv_iload_n hx hb dX7_readOne_244 rfl (lv_at hl 0 rfl) ?_
          refine r_cVi (k := 27) (As := [.int (σ0 1 9)]) (rest := []) ⟨hx, hb, hml, hown, hts⟩ hK hP hN hS (c_X7_readMeasure l D cA ad hI σ15 τ15 hR (σ0 1 9) b N mo _ (nn + 1) nm hc (tkq b N mo q) (by omega) (by omega) (by omega) (by omega) gCT gWH) (cwV 1 hts gX7_readOne_X7_readMeasure rfl rfl rfl (by decide +kernel) ⟨by decide, by decide⟩) (rv_SText hK hP (by decide) (by decide)) rfl hl.1 rfl (Nat.le_of_ble_eq_true rfl) dX7_readOne_245 (Nat.zero_le _) (Nat.zero_le _) (fun r62 u62 H62 locs62 hp62 hP hS => ?_)
          obtain ⟨σ62, τ62⟩ := u62
          obtain ⟨hR, f62, fL62, hq62, hp62_0, gnWH⟩ : P_X7_readMeasure σ15 τ15 (σ0 1 9) b N mo _ (nn + 1) nm hc (tkq b N mo q) r62 σ62 τ62 := hp62
          have o5 := hp62_0
          have hP : va_P D vwCl (gw cA ad σ62 τ62) H62 := hP
          have hFL := hFL.step fL62 (by decide)
          have gWH := gWH.agL (AgrL.fr fL62 (by decide))
          have hF := hF.step f62 (by decide)
          have gWH := gWH.ag (Agr.fr f62 (by decide))
          have t63 : (σ62 24 1).toInt = (σ15 24 1).toInt := congrArg Int32.toInt (f62.at 24 1 (by decide))
          have hr64 := rg_6_2 hR (k := 24) (by decide) (by decide)
          exact r_zret hx hb hr hK hP hS hk (by omega) dX7_readOne_248 (show P_X7_readOne_d7 σ0 τ0 a1 b N mo q nn nm hc r62 σ62 τ62 from ⟨hR, hF, hFL, by omega, by first | exact RO.ofr ((one_l (by omega) (by omega) (by omega) (by omega)).trans (lea_n (by omega) (by omega))) (by omega) ⟨gCT, by omega, by omega⟩ | (exfalso; omega) | exact RO.ofk (one_x (by omega)) (by omega) (by omega) (by omega) | exact RO.ofk (one_4 (by omega) (by omega)) (by omega) (by omega) (by omega) | (obtain ⟨f, e1, x1, x2⟩ := o1.no (by omega); exact RO.ofl ((one_n (by omega) (by omega)).trans e1) (by omega) x1 x2) | exact RO.ofr ((one_n (by omega) (by omega)).trans e1) (by omega) ⟨gCT, by omega, by omega⟩ | (obtain ⟨f, e2, x1, x2⟩ := o2.no (by omega); exact RO.ofl (by rw [one_o (by omega) (by omega), e2, bnd_l]) (by omega) x1 x2) | (obtain ⟨f, e3, x1, x2⟩ := o3.no (by omega); exact RO.ofl (by rw [one_o (by omega) (by omega), e2, bnd_r, e3, bnd_l]) (by omega) x1 x2) | exact RO.ofr (by rw [one_o (by omega) (by omega), e2, bnd_r, e3, bnd_r]) (by omega) ⟨gCT, by omega, by omega⟩ | (rw [one_l (by omega) (by omega) (by omega) (by omega)]; exact o4.map (fun s es h => ⟨h.1, h.2.1, by have h2 := h.2.2; have hl := lea_up es; omega⟩)) | (rw [one_l (by omega) (by omega) (by omega) (by omega)]; exact o5.map (fun s es h => ⟨h.1, h.2.1, by have h2 := h.2.2; have hl := lea_up es; omega⟩)), gWH⟩)
        by_cases c65 : (σ0 1 9).toInt = 29
        · refine lv_tableIn (off := 171) (tgt := 243) hx hb dX7_readOne_72 (by omega) (by omega) (by rw [c65]; rfl) (by decide) ?_
          refine lv_aload_n hx hb dX7_readOne_243 rfl (lv_at hl 1 rfl) ?_
          refine lv_iload_n hx hb dX7_readOne_244 rfl (lv_at hl 0 rfl) ?_
          refine r_cVi (k := 27) (As := [.int (σ0 1 9)]) (rest := []) ⟨hx, hb, hml, hown, hts⟩ hK hP hN hS (c_X7_readMeasure l D cA ad hI σ15 τ15 hR (σ0 1 9) b N mo _ (nn + 1) nm hc (tkq b N mo q) (by omega) (by omega) (by omega) (by omega) gCT gWH) (cwV 1 hts gX7_readOne_X7_readMeasure rfl rfl rfl (by decide +kernel) ⟨by decide, by decide⟩) (rv_SText hK hP (by decide) (by decide)) rfl hl.1 rfl (Nat.le_of_ble_eq_true rfl) dX7_readOne_245 (Nat.zero_le _) (Nat.zero_le _) (fun r66 u66 H66 locs66 hp66 hP hS => ?_)
          obtain ⟨σ66, τ66⟩ := u66
          obtain ⟨hR, f66, fL66, hq66, hp66_0, gnWH⟩ : P_X7_readMeasure σ15 τ15 (σ0 1 9) b N mo _ (nn + 1) nm hc (tkq b N mo q) r66 σ66 τ66 := hp66
          have o5 := hp66_0
          have hP : va_P D vwCl (gw cA ad σ66 τ66) H66 := hP
          have hFL := hFL.step fL66 (by decide)
          have gWH := gWH.agL (AgrL.fr fL66 (by decide))
          have hF := hF.step f66 (by decide)
          have gWH := gWH.ag (Agr.fr f66 (by decide))
          have t67 : (σ66 24 1).toInt = (σ15 24 1).toInt := congrArg Int32.toInt (f66.at 24 1 (by decide))
          have hr68 := rg_6_2 hR (k := 24) (by decide) (by decide)
          exact r_zret hx hb hr hK hP hS hk (by omega) dX7_readOne_248 (show P_X7_readOne_d7 σ0 τ0 a1 b N mo q nn nm hc r66 σ66 τ66 from ⟨hR, hF, hFL, by omega, by first | exact RO.ofr ((one_l (by omega) (by omega) (by omega) (by omega)).trans (lea_n (by omega) (by omega))) (by omega) ⟨gCT, by omega, by omega⟩ | (exfalso; omega) | exact RO.ofk (one_x (by omega)) (by omega) (by omega) (by omega) | exact RO.ofk (one_4 (by omega) (by omega)) (by omega) (by omega) (by omega) | (obtain ⟨f, e1, x1, x2⟩ := o1.no (by omega); exact RO.ofl ((one_n (by omega) (by omega)).trans e1) (by omega) x1 x2) | exact RO.ofr ((one_n (by omega) (by omega)).trans e1) (by omega) ⟨gCT, by omega, by omega⟩ | (obtain ⟨f, e2, x1, x2⟩ := o2.no (by omega); exact RO.ofl (by rw [one_o (by omega) (by omega), e2, bnd_l]) (by omega) x1 x2) | (obtain ⟨f, e3, x1, x2⟩ := o3.no (by omega); exact RO.ofl (by rw [one_o (by omega) (by omega), e2, bnd_r, e3, bnd_l]) (by omega) x1 x2) | exact RO.ofr (by rw [one_o (by omega) (by omega), e2, bnd_r, e3, bnd_r]) (by omega) ⟨gCT, by omega, by omega⟩ | (rw [one_l (by omega) (by omega) (by omega) (by omega)]; exact o4.map (fun s es h => ⟨h.1, h.2.1, by have h2 := h.2.2; have hl := lea_up es; omega⟩)) | (rw [one_l (by omega) (by omega) (by omega) (by omega)]; exact o5.map (fun s es h => ⟨h.1, h.2.1, by have h2 := h.2.2; have hl := lea_up es; omega⟩)), gWH⟩)
        by_cases c69 : (σ0 1 9).toInt = 30
        · refine lv_tableIn (off := 171) (tgt := 243) hx hb dX7_readOne_72 (by omega) (by omega) (by rw [c69]; rfl) (by decide) ?_
          refine lv_aload_n hx hb dX7_readOne_243 rfl (lv_at hl 1 rfl) ?_
          refine lv_iload_n hx hb dX7_readOne_244 rfl (lv_at hl 0 rfl) ?_
          refine r_cVi (k := 27) (As := [.int (σ0 1 9)]) (rest := []) ⟨hx, hb, hml, hown, hts⟩ hK hP hN hS (c_X7_readMeasure l D cA ad hI σ15 τ15 hR (σ0 1 9) b N mo _ (nn + 1) nm hc (tkq b N mo q) (by omega) (by omega) (by omega) (by omega) gCT gWH) (cwV 1 hts gX7_readOne_X7_readMeasure rfl rfl rfl (by decide +kernel) ⟨by decide, by decide⟩) (rv_SText hK hP (by decide) (by decide)) rfl hl.1 rfl (Nat.le_of_ble_eq_true rfl) dX7_readOne_245 (Nat.zero_le _) (Nat.zero_le _) (fun r70 u70 H70 locs70 hp70 hP hS => ?_)
          obtain ⟨σ70, τ70⟩ := u70
          obtain ⟨hR, f70, fL70, hq70, hp70_0, gnWH⟩ : P_X7_readMeasure σ15 τ15 (σ0 1 9) b N mo _ (nn + 1) nm hc (tkq b N mo q) r70 σ70 τ70 := hp70
          have o5 := hp70_0
          have hP : va_P D vwCl (gw cA ad σ70 τ70) H70 := hP
          have hFL := hFL.step fL70 (by decide)
          have gWH := gWH.agL (AgrL.fr fL70 (by decide))
          have hF := hF.step f70 (by decide)
          have gWH := gWH.ag (Agr.fr f70 (by decide))
          have t71 : (σ70 24 1).toInt = (σ15 24 1).toInt := congrArg Int32.toInt (f70.at 24 1 (by decide))
          have hr72 := rg_6_2 hR (k := 24) (by decide) (by decide)
          exact r_zret hx hb hr hK hP hS hk (by omega) dX7_readOne_248 (show P_X7_readOne_d7 σ0 τ0 a1 b N mo q nn nm hc r70 σ70 τ70 from ⟨hR, hF, hFL, by omega, by first | exact RO.ofr ((one_l (by omega) (by omega) (by omega) (by omega)).trans (lea_n (by omega) (by omega))) (by omega) ⟨gCT, by omega, by omega⟩ | (exfalso; omega) | exact RO.ofk (one_x (by omega)) (by omega) (by omega) (by omega) | exact RO.ofk (one_4 (by omega) (by omega)) (by omega) (by omega) (by omega) | (obtain ⟨f, e1, x1, x2⟩ := o1.no (by omega); exact RO.ofl ((one_n (by omega) (by omega)).trans e1) (by omega) x1 x2) | exact RO.ofr ((one_n (by omega) (by omega)).trans e1) (by omega) ⟨gCT, by omega, by omega⟩ | (obtain ⟨f, e2, x1, x2⟩ := o2.no (by omega); exact RO.ofl (by rw [one_o (by omega) (by omega), e2, bnd_l]) (by omega) x1 x2) | (obtain ⟨f, e3, x1, x2⟩ := o3.no (by omega); exact RO.ofl (by rw [one_o (by omega) (by omega), e2, bnd_r, e3, bnd_l]) (by omega) x1 x2) | exact RO.ofr (by rw [one_o (by omega) (by omega), e2, bnd_r, e3, bnd_r]) (by omega) ⟨gCT, by omega, by omega⟩ | (rw [one_l (by omega) (by omega) (by omega) (by omega)]; exact o4.map (fun s es h => ⟨h.1, h.2.1, by have h2 := h.2.2; have hl := lea_up es; omega⟩)) | (rw [one_l (by omega) (by omega) (by omega) (by omega)]; exact o5.map (fun s es h => ⟨h.1, h.2.1, by have h2 := h.2.2; have hl := lea_up es; omega⟩)), gWH⟩)
        by_cases c73 : (σ0 1 9).toInt = 31
        · refine lv_tableIn (off := 177) (tgt := 249) hx hb dX7_readOne_72 (by omega) (by omega) (by rw [c73]; rfl) (by decide) ?_
          refine lv_aload_n hx hb dX7_readOne_249 rfl (lv_at hl 1 rfl) ?_
          refine fg_7_2 (k := 27) hx hb hts in_X7_readOne_7 hown hK hP (by decide) (by decide) (hts _ lk_X7_readOne_19) dX7_readOne_250 ?_
          refine lv_iload_n hx hb dX7_readOne_253 rfl (lv_at hl 0 rfl) ?_
          refine r_bipush hx hb dX7_readOne_254 (by decide) (fun z74 ez74 => ?_)
          refine r_iconst hx hb dX7_readOne_256 (by decide) (fun z75 ez75 => ?_)
          refine r_cVi (k := 24) (As := [.int (σ0 1 9), .int z74, .int z75]) (rest := []) ⟨hx, hb, hml, hown, hts⟩ hK hP hN hS (c_X6_add l D cA ad hI σ15 τ15 hR (σ0 1 9) z74 z75 (by omega)) (cwV 3 hts gX7_readOne_X6_add rfl rfl rfl (by decide +kernel) ⟨by decide, by decide⟩) (rv_Sent hK hP (by decide) (by decide)) rfl hl.1 rfl (Nat.le_of_ble_eq_true rfl) dX7_readOne_257 (Nat.zero_le _) (Nat.zero_le _) (fun r76 u76 H76 locs76 hp76 hP hS => ?_)
          obtain ⟨σ76, τ76⟩ := u76
          obtain ⟨hR, f76, fL76, hq76, hp76_0⟩ : P_X6_add σ15 τ15 (σ0 1 9) z74 z75 r76 σ76 τ76 := hp76
          have hP : va_P D vwCl (gw cA ad σ76 τ76) H76 := hP
          obtain rfl := FrL.nil fL76
          have hF := hF.step f76 (by decide)
          have gCT := gCT.ag (Agr.fr f76 (by decide))
          have gWH := gWH.ag (Agr.fr f76 (by decide))
          have t77 : (σ76 24 1).toInt = (σ15 24 1).toInt := congrArg Int32.toInt (f76.at 24 1 (by decide))
          have hr78 := rg_6_2 hR (k := 24) (by decide) (by decide)
          exact r_zret hx hb hr hK hP hS hk (by omega) dX7_readOne_260 (show P_X7_readOne_d7 σ0 τ0 a1 b N mo q nn nm hc r76 σ76 τ15 from ⟨hR, hF, hFL, by omega, by first | exact RO.ofr ((one_l (by omega) (by omega) (by omega) (by omega)).trans (lea_n (by omega) (by omega))) (by omega) ⟨gCT, by omega, by omega⟩ | (exfalso; omega) | exact RO.ofk (one_x (by omega)) (by omega) (by omega) (by omega) | exact RO.ofk (one_4 (by omega) (by omega)) (by omega) (by omega) (by omega) | (obtain ⟨f, e1, x1, x2⟩ := o1.no (by omega); exact RO.ofl ((one_n (by omega) (by omega)).trans e1) (by omega) x1 x2) | exact RO.ofr ((one_n (by omega) (by omega)).trans e1) (by omega) ⟨gCT, by omega, by omega⟩ | (obtain ⟨f, e2, x1, x2⟩ := o2.no (by omega); exact RO.ofl (by rw [one_o (by omega) (by omega), e2, bnd_l]) (by omega) x1 x2) | (obtain ⟨f, e3, x1, x2⟩ := o3.no (by omega); exact RO.ofl (by rw [one_o (by omega) (by omega), e2, bnd_r, e3, bnd_l]) (by omega) x1 x2) | exact RO.ofr (by rw [one_o (by omega) (by omega), e2, bnd_r, e3, bnd_r]) (by omega) ⟨gCT, by omega, by omega⟩ | (rw [one_l (by omega) (by omega) (by omega) (by omega)]; exact o4.map (fun s es h => ⟨h.1, h.2.1, by have h2 := h.2.2; have hl := lea_up es; omega⟩)) | (rw [one_l (by omega) (by omega) (by omega) (by omega)]; exact o5.map (fun s es h => ⟨h.1, h.2.1, by have h2 := h.2.2; have hl := lea_up es; omega⟩)), gWH⟩)
        by_cases c79 : (σ0 1 9).toInt = 32
        · refine lv_tableIn (off := 177) (tgt := 249) hx hb dX7_readOne_72 (by omega) (by omega) (by rw [c79]; rfl) (by decide) ?_
          refine lv_aload_n hx hb dX7_readOne_249 rfl (lv_at hl 1 rfl) ?_
          refine fg_7_2 (k := 27) hx hb hts in_X7_readOne_7 hown hK hP (by decide) (by decide) (hts _ lk_X7_readOne_19) dX7_readOne_250 ?_
          refine lv_iload_n hx hb dX7_readOne_253 rfl (lv_at hl 0 rfl) ?_
          refine r_bipush hx hb dX7_readOne_254 (by decide) (fun z80 ez80 => ?_)
          refine r_iconst hx hb dX7_readOne_256 (by decide) (fun z81 ez81 => ?_)
          refine r_cVi (k := 24) (As := [.int (σ0 1 9), .int z80, .int z81]) (rest := []) ⟨hx, hb, hml, hown, hts⟩ hK hP hN hS (c_X6_add l D cA ad hI σ15 τ15 hR (σ0 1 9) z80 z81 (by omega)) (cwV 3 hts gX7_readOne_X6_add rfl rfl rfl (by decide +kernel) ⟨by decide, by decide⟩) (rv_Sent hK hP (by decide) (by decide)) rfl hl.1 rfl (Nat.le_of_ble_eq_true rfl) dX7_readOne_257 (Nat.zero_le _) (Nat.zero_le _) (fun r82 u82 H82 locs82 hp82 hP hS => ?_)
          obtain ⟨σ82, τ82⟩ := u82
          obtain ⟨hR, f82, fL82, hq82, hp82_0⟩ : P_X6_add σ15 τ15 (σ0 1 9) z80 z81 r82 σ82 τ82 := hp82
          have hP : va_P D vwCl (gw cA ad σ82 τ82) H82 := hP
          obtain rfl := FrL.nil fL82
          have hF := hF.step f82 (by decide)
          have gCT := gCT.ag (Agr.fr f82 (by decide))
          have gWH := gWH.ag (Agr.fr f82 (by decide))
          have t83 : (σ82 24 1).toInt = (σ15 24 1).toInt := congrArg Int32.toInt (f82.at 24 1 (by decide))
          have hr84 := rg_6_2 hR (k := 24) (by decide) (by decide)
          exact r_zret hx hb hr hK hP hS hk (by omega) dX7_readOne_260 (show P_X7_readOne_d7 σ0 τ0 a1 b N mo q nn nm hc r82 σ82 τ15 from ⟨hR, hF, hFL, by omega, by first | exact RO.ofr ((one_l (by omega) (by omega) (by omega) (by omega)).trans (lea_n (by omega) (by omega))) (by omega) ⟨gCT, by omega, by omega⟩ | (exfalso; omega) | exact RO.ofk (one_x (by omega)) (by omega) (by omega) (by omega) | exact RO.ofk (one_4 (by omega) (by omega)) (by omega) (by omega) (by omega) | (obtain ⟨f, e1, x1, x2⟩ := o1.no (by omega); exact RO.ofl ((one_n (by omega) (by omega)).trans e1) (by omega) x1 x2) | exact RO.ofr ((one_n (by omega) (by omega)).trans e1) (by omega) ⟨gCT, by omega, by omega⟩ | (obtain ⟨f, e2, x1, x2⟩ := o2.no (by omega); exact RO.ofl (by rw [one_o (by omega) (by omega), e2, bnd_l]) (by omega) x1 x2) | (obtain ⟨f, e3, x1, x2⟩ := o3.no (by omega); exact RO.ofl (by rw [one_o (by omega) (by omega), e2, bnd_r, e3, bnd_l]) (by omega) x1 x2) | exact RO.ofr (by rw [one_o (by omega) (by omega), e2, bnd_r, e3, bnd_r]) (by omega) ⟨gCT, by omega, by omega⟩ | (rw [one_l (by omega) (by omega) (by omega) (by omega)]; exact o4.map (fun s es h => ⟨h.1, h.2.1, by have h2 := h.2.2; have hl := lea_up es; omega⟩)) | (rw [one_l (by omega) (by omega) (by omega) (by omega)]; exact o5.map (fun s es h => ⟨h.1, h.2.1, by have h2 := h.2.2; have hl := lea_up es; omega⟩)), gWH⟩)
        by_cases c85 : (σ0 1 9).toInt = 33
        · refine lv_tableIn (off := 177) (tgt := 249) hx hb dX7_readOne_72 (by omega) (by omega) (by rw [c85]; rfl) (by decide) ?_
          refine lv_aload_n hx hb dX7_readOne_249 rfl (lv_at hl 1 rfl) ?_
          refine fg_7_2 (k := 27) hx hb hts in_X7_readOne_7 hown hK hP (by decide) (by decide) (hts _ lk_X7_readOne_19) dX7_readOne_250 ?_
          refine lv_iload_n hx hb dX7_readOne_253 rfl (lv_at hl 0 rfl) ?_
          refine r_bipush hx hb dX7_readOne_254 (by decide) (fun z86 ez86 => ?_)
          refine r_iconst hx hb dX7_readOne_256 (by decide) (fun z87 ez87 => ?_)
          refine r_cVi (k := 24) (As := [.int (σ0 1 9), .int z86, .int z87]) (rest := []) ⟨hx, hb, hml, hown, hts⟩ hK hP hN hS (c_X6_add l D cA ad hI σ15 τ15 hR (σ0 1 9) z86 z87 (by omega)) (cwV 3 hts gX7_readOne_X6_add rfl rfl rfl (by decide +kernel) ⟨by decide, by decide⟩) (rv_Sent hK hP (by decide) (by decide)) rfl hl.1 rfl (Nat.le_of_ble_eq_true rfl) dX7_readOne_257 (Nat.zero_le _) (Nat.zero_le _) (fun r88 u88 H88 locs88 hp88 hP hS => ?_)
          obtain ⟨σ88, τ88⟩ := u88
          obtain ⟨hR, f88, fL88, hq88, hp88_0⟩ : P_X6_add σ15 τ15 (σ0 1 9) z86 z87 r88 σ88 τ88 := hp88
          have hP : va_P D vwCl (gw cA ad σ88 τ88) H88 := hP
          obtain rfl := FrL.nil fL88
          have hF := hF.step f88 (by decide)
          have gCT := gCT.ag (Agr.fr f88 (by decide))
          have gWH := gWH.ag (Agr.fr f88 (by decide))
          have t89 : (σ88 24 1).toInt = (σ15 24 1).toInt := congrArg Int32.toInt (f88.at 24 1 (by decide))
          have hr90 := rg_6_2 hR (k := 24) (by decide) (by decide)
          exact r_zret hx hb hr hK hP hS hk (by omega) dX7_readOne_260 (show P_X7_readOne_d7 σ0 τ0 a1 b N mo q nn nm hc r88 σ88 τ15 from ⟨hR, hF, hFL, by omega, by first | exact RO.ofr ((one_l (by omega) (by omega) (by omega) (by omega)).trans (lea_n (by omega) (by omega))) (by omega) ⟨gCT, by omega, by omega⟩ | (exfalso; omega) | exact RO.ofk (one_x (by omega)) (by omega) (by omega) (by omega) | exact RO.ofk (one_4 (by omega) (by omega)) (by omega) (by omega) (by omega) | (obtain ⟨f, e1, x1, x2⟩ := o1.no (by omega); exact RO.ofl ((one_n (by omega) (by omega)).trans e1) (by omega) x1 x2) | exact RO.ofr ((one_n (by omega) (by omega)).trans e1) (by omega) ⟨gCT, by omega, by omega⟩ | (obtain ⟨f, e2, x1, x2⟩ := o2.no (by omega); exact RO.ofl (by rw [one_o (by omega) (by omega), e2, bnd_l]) (by omega) x1 x2) | (obtain ⟨f, e3, x1, x2⟩ := o3.no (by omega); exact RO.ofl (by rw [one_o (by omega) (by omega), e2, bnd_r, e3, bnd_l]) (by omega) x1 x2) | exact RO.ofr (by rw [one_o (by omega) (by omega), e2, bnd_r, e3, bnd_r]) (by omega) ⟨gCT, by omega, by omega⟩ | (rw [one_l (by omega) (by omega) (by omega) (by omega)]; exact o4.map (fun s es h => ⟨h.1, h.2.1, by have h2 := h.2.2; have hl := lea_up es; omega⟩)) | (rw [one_l (by omega) (by omega) (by omega) (by omega)]; exact o5.map (fun s es h => ⟨h.1, h.2.1, by have h2 := h.2.2; have hl := lea_up es; omega⟩)), gWH⟩)
        by_cases c91 : (σ0 1 9).toInt = 34
        · refine lv_tableIn (off := 177) (tgt := 249) hx hb dX7_readOne_72 (by omega) (by omega) (by rw [c91]; rfl) (by decide) ?_
          refine lv_aload_n hx hb dX7_readOne_249 rfl (lv_at hl 1 rfl) ?_
          refine fg_7_2 (k := 27) hx hb hts in_X7_readOne_7 hown hK hP (by decide) (by decide) (hts _ lk_X7_readOne_19) dX7_readOne_250 ?_
          refine lv_iload_n hx hb dX7_readOne_253 rfl (lv_at hl 0 rfl) ?_
          refine r_bipush hx hb dX7_readOne_254 (by decide) (fun z92 ez92 => ?_)
          refine r_iconst hx hb dX7_readOne_256 (by decide) (fun z93 ez93 => ?_)
          refine r_cVi (k := 24) (As := [.int (σ0 1 9), .int z92, .int z93]) (rest := []) ⟨hx, hb, hml, hown, hts⟩ hK hP hN hS (c_X6_add l D cA ad hI σ15 τ15 hR (σ0 1 9) z92 z93 (by omega)) (cwV 3 hts gX7_readOne_X6_add rfl rfl rfl (by decide +kernel) ⟨by decide, by decide⟩) (rv_Sent hK hP (by decide) (by decide)) rfl hl.1 rfl (Nat.le_of_ble_eq_true rfl) dX7_readOne_257 (Nat.zero_le _) (Nat.zero_le _) (fun r94 u94 H94 locs94 hp94 hP hS => ?_)
          obtain ⟨σ94, τ94⟩ := u94
          obtain ⟨hR, f94, fL94, hq94, hp94_0⟩ : P_X6_add σ15 τ15 (σ0 1 9) z92 z93 r94 σ94 τ94 := hp94
          have hP : va_P D vwCl (gw cA ad σ94 τ94) H94 := hP
          obtain rfl := FrL.nil fL94
          have hF := hF.step f94 (by decide)
          have gCT := gCT.ag (Agr.fr f94 (by decide))
          have gWH := gWH.ag (Agr.fr f94 (by decide))
          have t95 : (σ94 24 1).toInt = (σ15 24 1).toInt := congrArg Int32.toInt (f94.at 24 1 (by decide))
          have hr96 := rg_6_2 hR (k := 24) (by decide) (by decide)
          exact r_zret hx hb hr hK hP hS hk (by omega) dX7_readOne_260 (show P_X7_readOne_d7 σ0 τ0 a1 b N mo q nn nm hc r94 σ94 τ15 from ⟨hR, hF, hFL, by omega, by first | exact RO.ofr ((one_l (by omega) (by omega) (by omega) (by omega)).trans (lea_n (by omega) (by omega))) (by omega) ⟨gCT, by omega, by omega⟩ | (exfalso; omega) | exact RO.ofk (one_x (by omega)) (by omega) (by omega) (by omega) | exact RO.ofk (one_4 (by omega) (by omega)) (by omega) (by omega) (by omega) | (obtain ⟨f, e1, x1, x2⟩ := o1.no (by omega); exact RO.ofl ((one_n (by omega) (by omega)).trans e1) (by omega) x1 x2) | exact RO.ofr ((one_n (by omega) (by omega)).trans e1) (by omega) ⟨gCT, by omega, by omega⟩ | (obtain ⟨f, e2, x1, x2⟩ := o2.no (by omega); exact RO.ofl (by rw [one_o (by omega) (by omega), e2, bnd_l]) (by omega) x1 x2) | (obtain ⟨f, e3, x1, x2⟩ := o3.no (by omega); exact RO.ofl (by rw [one_o (by omega) (by omega), e2, bnd_r, e3, bnd_l]) (by omega) x1 x2) | exact RO.ofr (by rw [one_o (by omega) (by omega), e2, bnd_r, e3, bnd_r]) (by omega) ⟨gCT, by omega, by omega⟩ | (rw [one_l (by omega) (by omega) (by omega) (by omega)]; exact o4.map (fun s es h => ⟨h.1, h.2.1, by have h2 := h.2.2; have hl := lea_up es; omega⟩)) | (rw [one_l (by omega) (by omega) (by omega) (by omega)]; exact o5.map (fun s es h => ⟨h.1, h.2.1, by have h2 := h.2.2; have hl := lea_up es; omega⟩)), gWH⟩)
        by_cases c97 : (σ0 1 9).toInt = 35
        · refine lv_tableIn (off := 177) (tgt := 249) hx hb dX7_readOne_72 (by omega) (by omega) (by rw [c97]; rfl) (by decide) ?_
          refine lv_aload_n hx hb dX7_readOne_249 rfl (lv_at hl 1 rfl) ?_
          refine fg_7_2 (k := 27) hx hb hts in_X7_readOne_7 hown hK hP (by decide) (by decide) (hts _ lk_X7_readOne_19) dX7_readOne_250 ?_
          refine lv_iload_n hx hb dX7_readOne_253 rfl (lv_at hl 0 rfl) ?_
          refine r_bipush hx hb dX7_readOne_254 (by decide) (fun z98 ez98 => ?_)
          refine r_iconst hx hb dX7_readOne_256 (by decide) (fun z99 ez99 => ?_)
          refine r_cVi (k := 24) (As := [.int (σ0 1 9), .int z98, .int z99]) (rest := []) ⟨hx, hb, hml, hown, hts⟩ hK hP hN hS (c_X6_add l D cA ad hI σ15 τ15 hR (σ0 1 9) z98 z99 (by omega)) (cwV 3 hts gX7_readOne_X6_add rfl rfl rfl (by decide +kernel) ⟨by decide, by decide⟩) (rv_Sent hK hP (by decide) (by decide)) rfl hl.1 rfl (Nat.le_of_ble_eq_true rfl) dX7_readOne_257 (Nat.zero_le _) (Nat.zero_le _) (fun r100 u100 H100 locs100 hp100 hP hS => ?_)
          obtain ⟨σ100, τ100⟩ := u100
          obtain ⟨hR, f100, fL100, hq100, hp100_0⟩ : P_X6_add σ15 τ15 (σ0 1 9) z98 z99 r100 σ100 τ100 := hp100
          have hP : va_P D vwCl (gw cA ad σ100 τ100) H100 := hP
          obtain rfl := FrL.nil fL100
          have hF := hF.step f100 (by decide)
          have gCT := gCT.ag (Agr.fr f100 (by decide))
          have gWH := gWH.ag (Agr.fr f100 (by decide))
          have t101 : (σ100 24 1).toInt = (σ15 24 1).toInt := congrArg Int32.toInt (f100.at 24 1 (by decide))
          have hr102 := rg_6_2 hR (k := 24) (by decide) (by decide)
          exact r_zret hx hb hr hK hP hS hk (by omega) dX7_readOne_260 (show P_X7_readOne_d7 σ0 τ0 a1 b N mo q nn nm hc r100 σ100 τ15 from ⟨hR, hF, hFL, by omega, by first | exact RO.ofr ((one_l (by omega) (by omega) (by omega) (by omega)).trans (lea_n (by omega) (by omega))) (by omega) ⟨gCT, by omega, by omega⟩ | (exfalso; omega) | exact RO.ofk (one_x (by omega)) (by omega) (by omega) (by omega) | exact RO.ofk (one_4 (by omega) (by omega)) (by omega) (by omega) (by omega) | (obtain ⟨f, e1, x1, x2⟩ := o1.no (by omega); exact RO.ofl ((one_n (by omega) (by omega)).trans e1) (by omega) x1 x2) | exact RO.ofr ((one_n (by omega) (by omega)).trans e1) (by omega) ⟨gCT, by omega, by omega⟩ | (obtain ⟨f, e2, x1, x2⟩ := o2.no (by omega); exact RO.ofl (by rw [one_o (by omega) (by omega), e2, bnd_l]) (by omega) x1 x2) | (obtain ⟨f, e3, x1, x2⟩ := o3.no (by omega); exact RO.ofl (by rw [one_o (by omega) (by omega), e2, bnd_r, e3, bnd_l]) (by omega) x1 x2) | exact RO.ofr (by rw [one_o (by omega) (by omega), e2, bnd_r, e3, bnd_r]) (by omega) ⟨gCT, by omega, by omega⟩ | (rw [one_l (by omega) (by omega) (by omega) (by omega)]; exact o4.map (fun s es h => ⟨h.1, h.2.1, by have h2 := h.2.2; have hl := lea_up es; omega⟩)) | (rw [one_l (by omega) (by omega) (by omega) (by omega)]; exact o5.map (fun s es h => ⟨h.1, h.2.1, by have h2 := h.2.2; have hl := lea_up es; omega⟩)), gWH⟩)
        by_cases c103 : (σ0 1 9).toInt = 36
        · refine lv_tableIn (off := 177) (tgt := 249) hx hb dX7_readOne_72 (by omega) (by omega) (by rw [c103]; rfl) (by decide) ?_
          refine lv_aload_n hx hb dX7_readOne_249 rfl (lv_at hl 1 rfl) ?_
          refine fg_7_2 (k := 27) hx hb hts in_X7_readOne_7 hown hK hP (by decide) (by decide) (hts _ lk_X7_readOne_19) dX7_readOne_250 ?_
          refine lv_iload_n hx hb dX7_readOne_253 rfl (lv_at hl 0 rfl) ?_
          refine r_bipush hx hb dX7_readOne_254 (by decide) (fun z104 ez104 => ?_)
          refine r_iconst hx hb dX7_readOne_256 (by decide) (fun z105 ez105 => ?_)
          refine r_cVi (k := 24) (As := [.int (σ0 1 9), .int z104, .int z105]) (rest := []) ⟨hx, hb, hml, hown, hts⟩ hK hP hN hS (c_X6_add l D cA ad hI σ15 τ15 hR (σ0 1 9) z104 z105 (by omega)) (cwV 3 hts gX7_readOne_X6_add rfl rfl rfl (by decide +kernel) ⟨by decide, by decide⟩) (rv_Sent hK hP (by decide) (by decide)) rfl hl.1 rfl (Nat.le_of_ble_eq_true rfl) dX7_readOne_257 (Nat.zero_le _) (Nat.zero_le _) (fun r106 u106 H106 locs106 hp106 hP hS => ?_)
          obtain ⟨σ106, τ106⟩ := u106
          obtain ⟨hR, f106, fL106, hq106, hp106_0⟩ : P_X6_add σ15 τ15 (σ0 1 9) z104 z105 r106 σ106 τ106 := hp106
          have hP : va_P D vwCl (gw cA ad σ106 τ106) H106 := hP
          obtain rfl := FrL.nil fL106
          have hF := hF.step f106 (by decide)
          have gCT := gCT.ag (Agr.fr f106 (by decide))
          have gWH := gWH.ag (Agr.fr f106 (by decide))
          have t107 : (σ106 24 1).toInt = (σ15 24 1).toInt := congrArg Int32.toInt (f106.at 24 1 (by decide))
          have hr108 := rg_6_2 hR (k := 24) (by decide) (by decide)
          exact r_zret hx hb hr hK hP hS hk (by omega) dX7_readOne_260 (show P_X7_readOne_d7 σ0 τ0 a1 b N mo q nn nm hc r106 σ106 τ15 from ⟨hR, hF, hFL, by omega, by first | exact RO.ofr ((one_l (by omega) (by omega) (by omega) (by omega)).trans (lea_n (by omega) (by omega))) (by omega) ⟨gCT, by omega, by omega⟩ | (exfalso; omega) | exact RO.ofk (one_x (by omega)) (by omega) (by omega) (by omega) | exact RO.ofk (one_4 (by omega) (by omega)) (by omega) (by omega) (by omega) | (obtain ⟨f, e1, x1, x2⟩ := o1.no (by omega); exact RO.ofl ((one_n (by omega) (by omega)).trans e1) (by omega) x1 x2) | exact RO.ofr ((one_n (by omega) (by omega)).trans e1) (by omega) ⟨gCT, by omega, by omega⟩ | (obtain ⟨f, e2, x1, x2⟩ := o2.no (by omega); exact RO.ofl (by rw [one_o (by omega) (by omega), e2, bnd_l]) (by omega) x1 x2) | (obtain ⟨f, e3, x1, x2⟩ := o3.no (by omega); exact RO.ofl (by rw [one_o (by omega) (by omega), e2, bnd_r, e3, bnd_l]) (by omega) x1 x2) | exact RO.ofr (by rw [one_o (by omega) (by omega), e2, bnd_r, e3, bnd_r]) (by omega) ⟨gCT, by omega, by omega⟩ | (rw [one_l (by omega) (by omega) (by omega) (by omega)]; exact o4.map (fun s es h => ⟨h.1, h.2.1, by have h2 := h.2.2; have hl := lea_up es; omega⟩)) | (rw [one_l (by omega) (by omega) (by omega) (by omega)]; exact o5.map (fun s es h => ⟨h.1, h.2.1, by have h2 := h.2.2; have hl := lea_up es; omega⟩)), gWH⟩)
        by_cases c109 : (σ0 1 9).toInt = 37
        · refine lv_tableIn (off := 177) (tgt := 249) hx hb dX7_readOne_72 (by omega) (by omega) (by rw [c109]; rfl) (by decide) ?_
          refine lv_aload_n hx hb dX7_readOne_249 rfl (lv_at hl 1 rfl) ?_
          refine fg_7_2 (k := 27) hx hb hts in_X7_readOne_7 hown hK hP (by decide) (by decide) (hts _ lk_X7_readOne_19) dX7_readOne_250 ?_
          refine lv_iload_n hx hb dX7_readOne_253 rfl (lv_at hl 0 rfl) ?_
          refine r_bipush hx hb dX7_readOne_254 (by decide) (fun z110 ez110 => ?_)
          refine r_iconst hx hb dX7_readOne_256 (by decide) (fun z111 ez111 => ?_)
          refine r_cVi (k := 24) (As := [.int (σ0 1 9), .int z110, .int z111]) (rest := []) ⟨hx, hb, hml, hown, hts⟩ hK hP hN hS (c_X6_add l D cA ad hI σ15 τ15 hR (σ0 1 9) z110 z111 (by omega)) (cwV 3 hts gX7_readOne_X6_add rfl rfl rfl (by decide +kernel) ⟨by decide, by decide⟩) (rv_Sent hK hP (by decide) (by decide)) rfl hl.1 rfl (Nat.le_of_ble_eq_true rfl) dX7_readOne_257 (Nat.zero_le _) (Nat.zero_le _) (fun r112 u112 H112 locs112 hp112 hP hS => ?_)
          obtain ⟨σ112, τ112⟩ := u112
          obtain ⟨hR, f112, fL112, hq112, hp112_0⟩ : P_X6_add σ15 τ15 (σ0 1 9) z110 z111 r112 σ112 τ112 := hp112
          have hP : va_P D vwCl (gw cA ad σ112 τ112) H112 := hP
          obtain rfl := FrL.nil fL112
          have hF := hF.step f112 (by decide)
          have gCT := gCT.ag (Agr.fr f112 (by decide))
          have gWH := gWH.ag (Agr.fr f112 (by decide))
          have t113 : (σ112 24 1).toInt = (σ15 24 1).toInt := congrArg Int32.toInt (f112.at 24 1 (by decide))
          have hr114 := rg_6_2 hR (k := 24) (by decide) (by decide)
          exact r_zret hx hb hr hK hP hS hk (by omega) dX7_readOne_260 (show P_X7_readOne_d7 σ0 τ0 a1 b N mo q nn nm hc r112 σ112 τ15 from ⟨hR, hF, hFL, by omega, by first | exact RO.ofr ((one_l (by omega) (by omega) (by omega) (by omega)).trans (lea_n (by omega) (by omega))) (by omega) ⟨gCT, by omega, by omega⟩ | (exfalso; omega) | exact RO.ofk (one_x (by omega)) (by omega) (by omega) (by omega) | exact RO.ofk (one_4 (by omega) (by omega)) (by omega) (by omega) (by omega) | (obtain ⟨f, e1, x1, x2⟩ := o1.no (by omega); exact RO.ofl ((one_n (by omega) (by omega)).trans e1) (by omega) x1 x2) | exact RO.ofr ((one_n (by omega) (by omega)).trans e1) (by omega) ⟨gCT, by omega, by omega⟩ | (obtain ⟨f, e2, x1, x2⟩ := o2.no (by omega); exact RO.ofl (by rw [one_o (by omega) (by omega), e2, bnd_l]) (by omega) x1 x2) | (obtain ⟨f, e3, x1, x2⟩ := o3.no (by omega); exact RO.ofl (by rw [one_o (by omega) (by omega), e2, bnd_r, e3, bnd_l]) (by omega) x1 x2) | exact RO.ofr (by rw [one_o (by omega) (by omega), e2, bnd_r, e3, bnd_r]) (by omega) ⟨gCT, by omega, by omega⟩ | (rw [one_l (by omega) (by omega) (by omega) (by omega)]; exact o4.map (fun s es h => ⟨h.1, h.2.1, by have h2 := h.2.2; have hl := lea_up es; omega⟩)) | (rw [one_l (by omega) (by omega) (by omega) (by omega)]; exact o5.map (fun s es h => ⟨h.1, h.2.1, by have h2 := h.2.2; have hl := lea_up es; omega⟩)), gWH⟩)
        by_cases c115 : (σ0 1 9).toInt = 38
        · refine lv_tableIn (off := 177) (tgt := 249) hx hb dX7_readOne_72 (by omega) (by omega) (by rw [c115]; rfl) (by decide) ?_
          refine lv_aload_n hx hb dX7_readOne_249 rfl (lv_at hl 1 rfl) ?_
          refine fg_7_2 (k := 27) hx hb hts in_X7_readOne_7 hown hK hP (by decide) (by decide) (hts _ lk_X7_readOne_19) dX7_readOne_250 ?_
          refine lv_iload_n hx hb dX7_readOne_253 rfl (lv_at hl 0 rfl) ?_
          refine r_bipush hx hb dX7_readOne_254 (by decide) (fun z116 ez116 => ?_)
          refine r_iconst hx hb dX7_readOne_256 (by decide) (fun z117 ez117 => ?_)
          refine r_cVi (k := 24) (As := [.int (σ0 1 9), .int z116, .int z117]) (rest := []) ⟨hx, hb, hml, hown, hts⟩ hK hP hN hS (c_X6_add l D cA ad hI σ15 τ15 hR (σ0 1 9) z116 z117 (by omega)) (cwV 3 hts gX7_readOne_X6_add rfl rfl rfl (by decide +kernel) ⟨by decide, by decide⟩) (rv_Sent hK hP (by decide) (by decide)) rfl hl.1 rfl (Nat.le_of_ble_eq_true rfl) dX7_readOne_257 (Nat.zero_le _) (Nat.zero_le _) (fun r118 u118 H118 locs118 hp118 hP hS => ?_)
          obtain ⟨σ118, τ118⟩ := u118
          obtain ⟨hR, f118, fL118, hq118, hp118_0⟩ : P_X6_add σ15 τ15 (σ0 1 9) z116 z117 r118 σ118 τ118 := hp118
          have hP : va_P D vwCl (gw cA ad σ118 τ118) H118 := hP
          obtain rfl := FrL.nil fL118
          have hF := hF.step f118 (by decide)
          have gCT := gCT.ag (Agr.fr f118 (by decide))
          have gWH := gWH.ag (Agr.fr f118 (by decide))
          have t119 : (σ118 24 1).toInt = (σ15 24 1).toInt := congrArg Int32.toInt (f118.at 24 1 (by decide))
          have hr120 := rg_6_2 hR (k := 24) (by decide) (by decide)
          exact r_zret hx hb hr hK hP hS hk (by omega) dX7_readOne_260 (show P_X7_readOne_d7 σ0 τ0 a1 b N mo q nn nm hc r118 σ118 τ15 from ⟨hR, hF, hFL, by omega, by first | exact RO.ofr ((one_l (by omega) (by omega) (by omega) (by omega)).trans (lea_n (by omega) (by omega))) (by omega) ⟨gCT, by omega, by omega⟩ | (exfalso; omega) | exact RO.ofk (one_x (by omega)) (by omega) (by omega) (by omega) | exact RO.ofk (one_4 (by omega) (by omega)) (by omega) (by omega) (by omega) | (obtain ⟨f, e1, x1, x2⟩ := o1.no (by omega); exact RO.ofl ((one_n (by omega) (by omega)).trans e1) (by omega) x1 x2) | exact RO.ofr ((one_n (by omega) (by omega)).trans e1) (by omega) ⟨gCT, by omega, by omega⟩ | (obtain ⟨f, e2, x1, x2⟩ := o2.no (by omega); exact RO.ofl (by rw [one_o (by omega) (by omega), e2, bnd_l]) (by omega) x1 x2) | (obtain ⟨f, e3, x1, x2⟩ := o3.no (by omega); exact RO.ofl (by rw [one_o (by omega) (by omega), e2, bnd_r, e3, bnd_l]) (by omega) x1 x2) | exact RO.ofr (by rw [one_o (by omega) (by omega), e2, bnd_r, e3, bnd_r]) (by omega) ⟨gCT, by omega, by omega⟩ | (rw [one_l (by omega) (by omega) (by omega) (by omega)]; exact o4.map (fun s es h => ⟨h.1, h.2.1, by have h2 := h.2.2; have hl := lea_up es; omega⟩)) | (rw [one_l (by omega) (by omega) (by omega) (by omega)]; exact o5.map (fun s es h => ⟨h.1, h.2.1, by have h2 := h.2.2; have hl := lea_up es; omega⟩)), gWH⟩)
        by_cases c121 : (σ0 1 9).toInt = 39
        · refine lv_tableIn (off := 177) (tgt := 249) hx hb dX7_readOne_72 (by omega) (by omega) (by rw [c121]; rfl) (by decide) ?_
          refine lv_aload_n hx hb dX7_readOne_249 rfl (lv_at hl 1 rfl) ?_
          refine fg_7_2 (k := 27) hx hb hts in_X7_readOne_7 hown hK hP (by decide) (by decide) (hts _ lk_X7_readOne_19) dX7_readOne_250 ?_
          refine lv_iload_n hx hb dX7_readOne_253 rfl (lv_at hl 0 rfl) ?_
          refine r_bipush hx hb dX7_readOne_254 (by decide) (fun z122 ez122 => ?_)
          refine r_iconst hx hb dX7_readOne_256 (by decide) (fun z123 ez123 => ?_)
          refine r_cVi (k := 24) (As := [.int (σ0 1 9), .int z122, .int z123]) (rest := []) ⟨hx, hb, hml, hown, hts⟩ hK hP hN hS (c_X6_add l D cA ad hI σ15 τ15 hR (σ0 1 9) z122 z123 (by omega)) (cwV 3 hts gX7_readOne_X6_add rfl rfl rfl (by decide +kernel) ⟨by decide, by decide⟩) (rv_Sent hK hP (by decide) (by decide)) rfl hl.1 rfl (Nat.le_of_ble_eq_true rfl) dX7_readOne_257 (Nat.zero_le _) (Nat.zero_le _) (fun r124 u124 H124 locs124 hp124 hP hS => ?_)
          obtain ⟨σ124, τ124⟩ := u124
          obtain ⟨hR, f124, fL124, hq124, hp124_0⟩ : P_X6_add σ15 τ15 (σ0 1 9) z122 z123 r124 σ124 τ124 := hp124
          have hP : va_P D vwCl (gw cA ad σ124 τ124) H124 := hP
          obtain rfl := FrL.nil fL124
          have hF := hF.step f124 (by decide)
          have gCT := gCT.ag (Agr.fr f124 (by decide))
          have gWH := gWH.ag (Agr.fr f124 (by decide))
          have t125 : (σ124 24 1).toInt = (σ15 24 1).toInt := congrArg Int32.toInt (f124.at 24 1 (by decide))
          have hr126 := rg_6_2 hR (k := 24) (by decide) (by decide)
          exact r_zret hx hb hr hK hP hS hk (by omega) dX7_readOne_260 (show P_X7_readOne_d7 σ0 τ0 a1 b N mo q nn nm hc r124 σ124 τ15 from ⟨hR, hF, hFL, by omega, by first | exact RO.ofr ((one_l (by omega) (by omega) (by omega) (by omega)).trans (lea_n (by omega) (by omega))) (by omega) ⟨gCT, by omega, by omega⟩ | (exfalso; omega) | exact RO.ofk (one_x (by omega)) (by omega) (by omega) (by omega) | exact RO.ofk (one_4 (by omega) (by omega)) (by omega) (by omega) (by omega) | (obtain ⟨f, e1, x1, x2⟩ := o1.no (by omega); exact RO.ofl ((one_n (by omega) (by omega)).trans e1) (by omega) x1 x2) | exact RO.ofr ((one_n (by omega) (by omega)).trans e1) (by omega) ⟨gCT, by omega, by omega⟩ | (obtain ⟨f, e2, x1, x2⟩ := o2.no (by omega); exact RO.ofl (by rw [one_o (by omega) (by omega), e2, bnd_l]) (by omega) x1 x2) | (obtain ⟨f, e3, x1, x2⟩ := o3.no (by omega); exact RO.ofl (by rw [one_o (by omega) (by omega), e2, bnd_r, e3, bnd_l]) (by omega) x1 x2) | exact RO.ofr (by rw [one_o (by omega) (by omega), e2, bnd_r, e3, bnd_r]) (by omega) ⟨gCT, by omega, by omega⟩ | (rw [one_l (by omega) (by omega) (by omega) (by omega)]; exact o4.map (fun s es h => ⟨h.1, h.2.1, by have h2 := h.2.2; have hl := lea_up es; omega⟩)) | (rw [one_l (by omega) (by omega) (by omega) (by omega)]; exact o5.map (fun s es h => ⟨h.1, h.2.1, by have h2 := h.2.2; have hl := lea_up es; omega⟩)), gWH⟩)
        by_cases c127 : (σ0 1 9).toInt = 40
        · refine lv_tableIn (off := 177) (tgt := 249) hx hb dX7_readOne_72 (by omega) (by omega) (by rw [c127]; rfl) (by decide) ?_
          refine lv_aload_n hx hb dX7_readOne_249 rfl (lv_at hl 1 rfl) ?_
          refine fg_7_2 (k := 27) hx hb hts in_X7_readOne_7 hown hK hP (by decide) (by decide) (hts _ lk_X7_readOne_19) dX7_readOne_250 ?_
          refine lv_iload_n hx hb dX7_readOne_253 rfl (lv_at hl 0 rfl) ?_
          refine r_bipush hx hb dX7_readOne_254 (by decide) (fun z128 ez128 => ?_)
          refine r_iconst hx hb dX7_readOne_256 (by decide) (fun z129 ez129 => ?_)
          refine r_cVi (k := 24) (As := [.int (σ0 1 9), .int z128, .int z129]) (rest := []) ⟨hx, hb, hml, hown, hts⟩ hK hP hN hS (c_X6_add l D cA ad hI σ15 τ15 hR (σ0 1 9) z128 z129 (by omega)) (cwV 3 hts gX7_readOne_X6_add rfl rfl rfl (by decide +kernel) ⟨by decide, by decide⟩) (rv_Sent hK hP (by decide) (by decide)) rfl hl.1 rfl (Nat.le_of_ble_eq_true rfl) dX7_readOne_257 (Nat.zero_le _) (Nat.zero_le _) (fun r130 u130 H130 locs130 hp130 hP hS => ?_)
          obtain ⟨σ130, τ130⟩ := u130
          obtain ⟨hR, f130, fL130, hq130, hp130_0⟩ : P_X6_add σ15 τ15 (σ0 1 9) z128 z129 r130 σ130 τ130 := hp130
          have hP : va_P D vwCl (gw cA ad σ130 τ130) H130 := hP
          obtain rfl := FrL.nil fL130
          have hF := hF.step f130 (by decide)
          have gCT := gCT.ag (Agr.fr f130 (by decide))
          have gWH := gWH.ag (Agr.fr f130 (by decide))
          have t131 : (σ130 24 1).toInt = (σ15 24 1).toInt := congrArg Int32.toInt (f130.at 24 1 (by decide))
          have hr132 := rg_6_2 hR (k := 24) (by decide) (by decide)
          exact r_zret hx hb hr hK hP hS hk (by omega) dX7_readOne_260 (show P_X7_readOne_d7 σ0 τ0 a1 b N mo q nn nm hc r130 σ130 τ15 from ⟨hR, hF, hFL, by omega, by first | exact RO.ofr ((one_l (by omega) (by omega) (by omega) (by omega)).trans (lea_n (by omega) (by omega))) (by omega) ⟨gCT, by omega, by omega⟩ | (exfalso; omega) | exact RO.ofk (one_x (by omega)) (by omega) (by omega) (by omega) | exact RO.ofk (one_4 (by omega) (by omega)) (by omega) (by omega) (by omega) | (obtain ⟨f, e1, x1, x2⟩ := o1.no (by omega); exact RO.ofl ((one_n (by omega) (by omega)).trans e1) (by omega) x1 x2) | exact RO.ofr ((one_n (by omega) (by omega)).trans e1) (by omega) ⟨gCT, by omega, by omega⟩ | (obtain ⟨f, e2, x1, x2⟩ := o2.no (by omega); exact RO.ofl (by rw [one_o (by omega) (by omega), e2, bnd_l]) (by omega) x1 x2) | (obtain ⟨f, e3, x1, x2⟩ := o3.no (by omega); exact RO.ofl (by rw [one_o (by omega) (by omega), e2, bnd_r, e3, bnd_l]) (by omega) x1 x2) | exact RO.ofr (by rw [one_o (by omega) (by omega), e2, bnd_r, e3, bnd_r]) (by omega) ⟨gCT, by omega, by omega⟩ | (rw [one_l (by omega) (by omega) (by omega) (by omega)]; exact o4.map (fun s es h => ⟨h.1, h.2.1, by have h2 := h.2.2; have hl := lea_up es; omega⟩)) | (rw [one_l (by omega) (by omega) (by omega) (by omega)]; exact o5.map (fun s es h => ⟨h.1, h.2.1, by have h2 := h.2.2; have hl := lea_up es; omega⟩)), gWH⟩)
        by_cases c133 : (σ0 1 9).toInt = 41
        · refine lv_tableIn (off := 177) (tgt := 249) hx hb dX7_readOne_72 (by omega) (by omega) (by rw [c133]; rfl) (by decide) ?_
          refine lv_aload_n hx hb dX7_readOne_249 rfl (lv_at hl 1 rfl) ?_
          refine fg_7_2 (k := 27) hx hb hts in_X7_readOne_7 hown hK hP (by decide) (by decide) (hts _ lk_X7_readOne_19) dX7_readOne_250 ?_
          refine lv_iload_n hx hb dX7_readOne_253 rfl (lv_at hl 0 rfl) ?_
          refine r_bipush hx hb dX7_readOne_254 (by decide) (fun z134 ez134 => ?_)
          refine r_iconst hx hb dX7_readOne_256 (by decide) (fun z135 ez135 => ?_)
          refine r_cVi (k := 24) (As := [.int (σ0 1 9), .int z134, .int z135]) (rest := []) ⟨hx, hb, hml, hown, hts⟩ hK hP hN hS (c_X6_add l D cA ad hI σ15 τ15 hR (σ0 1 9) z134 z135 (by omega)) (cwV 3 hts gX7_readOne_X6_add rfl rfl rfl (by decide +kernel) ⟨by decide, by decide⟩) (rv_Sent hK hP (by decide) (by decide)) rfl hl.1 rfl (Nat.le_of_ble_eq_true rfl) dX7_readOne_257 (Nat.zero_le _) (Nat.zero_le _) (fun r136 u136 H136 locs136 hp136 hP hS => ?_)
          obtain ⟨σ136, τ136⟩ := u136
          obtain ⟨hR, f136, fL136, hq136, hp136_0⟩ : P_X6_add σ15 τ15 (σ0 1 9) z134 z135 r136 σ136 τ136 := hp136
          have hP : va_P D vwCl (gw cA ad σ136 τ136) H136 := hP
          obtain rfl := FrL.nil fL136
          have hF := hF.step f136 (by decide)
          have gCT := gCT.ag (Agr.fr f136 (by decide))
          have gWH := gWH.ag (Agr.fr f136 (by decide))
          have t137 : (σ136 24 1).toInt = (σ15 24 1).toInt := congrArg Int32.toInt (f136.at 24 1 (by decide))
          have hr138 := rg_6_2 hR (k := 24) (by decide) (by decide)
          exact r_zret hx hb hr hK hP hS hk (by omega) dX7_readOne_260 (show P_X7_readOne_d7 σ0 τ0 a1 b N mo q nn nm hc r136 σ136 τ15 from ⟨hR, hF, hFL, by omega, by first | exact RO.ofr ((one_l (by omega) (by omega) (by omega) (by omega)).trans (lea_n (by omega) (by omega))) (by omega) ⟨gCT, by omega, by omega⟩ | (exfalso; omega) | exact RO.ofk (one_x (by omega)) (by omega) (by omega) (by omega) | exact RO.ofk (one_4 (by omega) (by omega)) (by omega) (by omega) (by omega) | (obtain ⟨f, e1, x1, x2⟩ := o1.no (by omega); exact RO.ofl ((one_n (by omega) (by omega)).trans e1) (by omega) x1 x2) | exact RO.ofr ((one_n (by omega) (by omega)).trans e1) (by omega) ⟨gCT, by omega, by omega⟩ | (obtain ⟨f, e2, x1, x2⟩ := o2.no (by omega); exact RO.ofl (by rw [one_o (by omega) (by omega), e2, bnd_l]) (by omega) x1 x2) | (obtain ⟨f, e3, x1, x2⟩ := o3.no (by omega); exact RO.ofl (by rw [one_o (by omega) (by omega), e2, bnd_r, e3, bnd_l]) (by omega) x1 x2) | exact RO.ofr (by rw [one_o (by omega) (by omega), e2, bnd_r, e3, bnd_r]) (by omega) ⟨gCT, by omega, by omega⟩ | (rw [one_l (by omega) (by omega) (by omega) (by omega)]; exact o4.map (fun s es h => ⟨h.1, h.2.1, by have h2 := h.2.2; have hl := lea_up es; omega⟩)) | (rw [one_l (by omega) (by omega) (by omega) (by omega)]; exact o5.map (fun s es h => ⟨h.1, h.2.1, by have h2 := h.2.2; have hl := lea_up es; omega⟩)), gWH⟩)
        by_cases c139 : (σ0 1 9).toInt = 42
        · refine lv_tableIn (off := 177) (tgt := 249) hx hb dX7_readOne_72 (by omega) (by omega) (by rw [c139]; rfl) (by decide) ?_
          refine lv_aload_n hx hb dX7_readOne_249 rfl (lv_at hl 1 rfl) ?_
          refine fg_7_2 (k := 27) hx hb hts in_X7_readOne_7 hown hK hP (by decide) (by decide) (hts _ lk_X7_readOne_19) dX7_readOne_250 ?_
          refine lv_iload_n hx hb dX7_readOne_253 rfl (lv_at hl 0 rfl) ?_
          refine r_bipush hx hb dX7_readOne_254 (by decide) (fun z140 ez140 => ?_)
          refine r_iconst hx hb dX7_readOne_256 (by decide) (fun z141 ez141 => ?_)
          refine r_cVi (k := 24) (As := [.int (σ0 1 9), .int z140, .int z141]) (rest := []) ⟨hx, hb, hml, hown, hts⟩ hK hP hN hS (c_X6_add l D cA ad hI σ15 τ15 hR (σ0 1 9) z140 z141 (by omega)) (cwV 3 hts gX7_readOne_X6_add rfl rfl rfl (by decide +kernel) ⟨by decide, by decide⟩) (rv_Sent hK hP (by decide) (by decide)) rfl hl.1 rfl (Nat.le_of_ble_eq_true rfl) dX7_readOne_257 (Nat.zero_le _) (Nat.zero_le _) (fun r142 u142 H142 locs142 hp142 hP hS => ?_)
          obtain ⟨σ142, τ142⟩ := u142
          obtain ⟨hR, f142, fL142, hq142, hp142_0⟩ : P_X6_add σ15 τ15 (σ0 1 9) z140 z141 r142 σ142 τ142 := hp142
          have hP : va_P D vwCl (gw cA ad σ142 τ142) H142 := hP
          obtain rfl := FrL.nil fL142
          have hF := hF.step f142 (by decide)
          have gCT := gCT.ag (Agr.fr f142 (by decide))
          have gWH := gWH.ag (Agr.fr f142 (by decide))
          have t143 : (σ142 24 1).toInt = (σ15 24 1).toInt := congrArg Int32.toInt (f142.at 24 1 (by decide))
          have hr144 := rg_6_2 hR (k := 24) (by decide) (by decide)
          exact r_zret hx hb hr hK hP hS hk (by omega) dX7_readOne_260 (show P_X7_readOne_d7 σ0 τ0 a1 b N mo q nn nm hc r142 σ142 τ15 from ⟨hR, hF, hFL, by omega, by first | exact RO.ofr ((one_l (by omega) (by omega) (by omega) (by omega)).trans (lea_n (by omega) (by omega))) (by omega) ⟨gCT, by omega, by omega⟩ | (exfalso; omega) | exact RO.ofk (one_x (by omega)) (by omega) (by omega) (by omega) | exact RO.ofk (one_4 (by omega) (by omega)) (by omega) (by omega) (by omega) | (obtain ⟨f, e1, x1, x2⟩ := o1.no (by omega); exact RO.ofl ((one_n (by omega) (by omega)).trans e1) (by omega) x1 x2) | exact RO.ofr ((one_n (by omega) (by omega)).trans e1) (by omega) ⟨gCT, by omega, by omega⟩ | (obtain ⟨f, e2, x1, x2⟩ := o2.no (by omega); exact RO.ofl (by rw [one_o (by omega) (by omega), e2, bnd_l]) (by omega) x1 x2) | (obtain ⟨f, e3, x1, x2⟩ := o3.no (by omega); exact RO.ofl (by rw [one_o (by omega) (by omega), e2, bnd_r, e3, bnd_l]) (by omega) x1 x2) | exact RO.ofr (by rw [one_o (by omega) (by omega), e2, bnd_r, e3, bnd_r]) (by omega) ⟨gCT, by omega, by omega⟩ | (rw [one_l (by omega) (by omega) (by omega) (by omega)]; exact o4.map (fun s es h => ⟨h.1, h.2.1, by have h2 := h.2.2; have hl := lea_up es; omega⟩)) | (rw [one_l (by omega) (by omega) (by omega) (by omega)]; exact o5.map (fun s es h => ⟨h.1, h.2.1, by have h2 := h.2.2; have hl := lea_up es; omega⟩)), gWH⟩)
        by_cases c145 : (σ0 1 9).toInt = 43
        · refine lv_tableIn (off := 177) (tgt := 249) hx hb dX7_readOne_72 (by omega) (by omega) (by rw [c145]; rfl) (by decide) ?_
          refine lv_aload_n hx hb dX7_readOne_249 rfl (lv_at hl 1 rfl) ?_
          refine fg_7_2 (k := 27) hx hb hts in_X7_readOne_7 hown hK hP (by decide) (by decide) (hts _ lk_X7_readOne_19) dX7_readOne_250 ?_
          refine lv_iload_n hx hb dX7_readOne_253 rfl (lv_at hl 0 rfl) ?_
          refine r_bipush hx hb dX7_readOne_254 (by decide) (fun z146 ez146 => ?_)
          refine r_iconst hx hb dX7_readOne_256 (by decide) (fun z147 ez147 => ?_)
          refine r_cVi (k := 24) (As := [.int (σ0 1 9), .int z146, .int z147]) (rest := []) ⟨hx, hb, hml, hown, hts⟩ hK hP hN hS (c_X6_add l D cA ad hI σ15 τ15 hR (σ0 1 9) z146 z147 (by omega)) (cwV 3 hts gX7_readOne_X6_add rfl rfl rfl (by decide +kernel) ⟨by decide, by decide⟩) (rv_Sent hK hP (by decide) (by decide)) rfl hl.1 rfl (Nat.le_of_ble_eq_true rfl) dX7_readOne_257 (Nat.zero_le _) (Nat.zero_le _) (fun r148 u148 H148 locs148 hp148 hP hS => ?_)
          obtain ⟨σ148, τ148⟩ := u148
          obtain ⟨hR, f148, fL148, hq148, hp148_0⟩ : P_X6_add σ15 τ15 (σ0 1 9) z146 z147 r148 σ148 τ148 := hp148
          have hP : va_P D vwCl (gw cA ad σ148 τ148) H148 := hP
          obtain rfl := FrL.nil fL148
          have hF := hF.step f148 (by decide)
          have gCT := gCT.ag (Agr.fr f148 (by decide))
          have gWH := gWH.ag (Agr.fr f148 (by decide))
          have t149 : (σ148 24 1).toInt = (σ15 24 1).toInt := congrArg Int32.toInt (f148.at 24 1 (by decide))
          have hr150 := rg_6_2 hR (k := 24) (by decide) (by decide)
          exact r_zret hx hb hr hK hP hS hk (by omega) dX7_readOne_260 (show P_X7_readOne_d7 σ0 τ0 a1 b N mo q nn nm hc r148 σ148 τ15 from ⟨hR, hF, hFL, by omega, by first | exact RO.ofr ((one_l (by omega) (by omega) (by omega) (by omega)).trans (lea_n (by omega) (by omega))) (by omega) ⟨gCT, by omega, by omega⟩ | (exfalso; omega) | exact RO.ofk (one_x (by omega)) (by omega) (by omega) (by omega) | exact RO.ofk (one_4 (by omega) (by omega)) (by omega) (by omega) (by omega) | (obtain ⟨f, e1, x1, x2⟩ := o1.no (by omega); exact RO.ofl ((one_n (by omega) (by omega)).trans e1) (by omega) x1 x2) | exact RO.ofr ((one_n (by omega) (by omega)).trans e1) (by omega) ⟨gCT, by omega, by omega⟩ | (obtain ⟨f, e2, x1, x2⟩ := o2.no (by omega); exact RO.ofl (by rw [one_o (by omega) (by omega), e2, bnd_l]) (by omega) x1 x2) | (obtain ⟨f, e3, x1, x2⟩ := o3.no (by omega); exact RO.ofl (by rw [one_o (by omega) (by omega), e2, bnd_r, e3, bnd_l]) (by omega) x1 x2) | exact RO.ofr (by rw [one_o (by omega) (by omega), e2, bnd_r, e3, bnd_r]) (by omega) ⟨gCT, by omega, by omega⟩ | (rw [one_l (by omega) (by omega) (by omega) (by omega)]; exact o4.map (fun s es h => ⟨h.1, h.2.1, by have h2 := h.2.2; have hl := lea_up es; omega⟩)) | (rw [one_l (by omega) (by omega) (by omega) (by omega)]; exact o5.map (fun s es h => ⟨h.1, h.2.1, by have h2 := h.2.2; have hl := lea_up es; omega⟩)), gWH⟩)
        by_cases c151 : (σ0 1 9).toInt = 44
        · refine lv_tableIn (off := 138) (tgt := 210) hx hb dX7_readOne_72 (by omega) (by omega) (by rw [c151]; rfl) (by decide) ?_
          refine lv_aload_n hx hb dX7_readOne_210 rfl (lv_at hl 1 rfl) ?_
          refine lv_iload_n hx hb dX7_readOne_211 rfl (lv_at hl 2 rfl) ?_
          refine r_iconst hx hb dX7_readOne_212 (by decide) (fun z152 ez152 => ?_)
          refine r_iadd hx hb dX7_readOne_213 (by omega) (fun z153 ez153 => ?_)
          refine r_cVi (k := 27) (As := [.int z153]) (rest := []) ⟨hx, hb, hml, hown, hts⟩ hK hP hN hS (c_X7_readCond_d8 l D cA ad hI σ15 τ15 hR z153 b N mo _ (nn + 1) nm hc (by omega) (by omega) (by omega) (by omega) gCT gWH) (cwV 1 hts gX7_readOne_X7_readCond rfl rfl rfl (by decide +kernel) ⟨by decide, by decide⟩) (rv_SText hK hP (by decide) (by decide)) rfl hl.1 rfl (Nat.le_of_ble_eq_true rfl) dX7_readOne_214 (Nat.zero_le _) (Nat.zero_le _) (fun r154 u154 H154 locs154 hp154 hP hS => ?_)
          obtain ⟨σ154, τ154⟩ := u154
          obtain ⟨hR, f154, fL154, hq154, hp154_0, gnWH⟩ : P_X7_readCond_d8 σ15 τ15 z153 b N mo _ (nn + 1) nm hc r154 σ154 τ154 := hp154
          have o2 := hp154_0
          have hP : va_P D vwCl (gw cA ad σ154 τ154) H154 := hP
          have hFL := hFL.step fL154 (by decide)
          have gWH := gWH.agL (AgrL.fr fL154 (by decide))
          have hF := hF.step f154 (by decide)
          have gWH := gWH.ag (Agr.fr f154 (by decide))
          have hr155 := rg_6_1 hR (k := 24) (by decide) (by decide)
          have hr156 := rg_6_2 hR (k := 24) (by decide) (by decide)
          refine r_if_eq (tgt := 236) hx hb dX7_readOne_217 (by decide) (fun c157 => ?_) (fun c157 => ?_)
          · refine r_iconst hx hb dX7_readOne_236 (by decide) (fun z158 ez158 => ?_)
            exact r_zret hx hb hr hK hP hS hk (by omega) dX7_readOne_237 (show P_X7_readOne_d7 σ0 τ0 a1 b N mo q nn nm hc z158 σ154 τ154 from ⟨hR, hF, hFL, by omega, by first | exact RO.ofr ((one_l (by omega) (by omega) (by omega) (by omega)).trans (lea_n (by omega) (by omega))) (by omega) ⟨gCT, by omega, by omega⟩ | (exfalso; omega) | exact RO.ofk (one_x (by omega)) (by omega) (by omega) (by omega) | exact RO.ofk (one_4 (by omega) (by omega)) (by omega) (by omega) (by omega) | (obtain ⟨f, e1, x1, x2⟩ := o1.no (by omega); exact RO.ofl ((one_n (by omega) (by omega)).trans e1) (by omega) x1 x2) | exact RO.ofr ((one_n (by omega) (by omega)).trans e1) (by omega) ⟨gCT, by omega, by omega⟩ | (obtain ⟨f, e2, x1, x2⟩ := o2.no (by omega); exact RO.ofl (by rw [one_o (by omega) (by omega), e2, bnd_l]) (by omega) x1 x2) | (obtain ⟨f, e3, x1, x2⟩ := o3.no (by omega); exact RO.ofl (by rw [one_o (by omega) (by omega), e2, bnd_r, e3, bnd_l]) (by omega) x1 x2) | exact RO.ofr (by rw [one_o (by omega) (by omega), e2, bnd_r, e3, bnd_r]) (by omega) ⟨gCT, by omega, by omega⟩ | (rw [one_l (by omega) (by omega) (by omega) (by omega)]; exact o4.map (fun s es h => ⟨h.1, h.2.1, by have h2 := h.2.2; have hl := lea_up es; omega⟩)) | (rw [one_l (by omega) (by omega) (by omega) (by omega)]; exact o5.map (fun s es h => ⟨h.1, h.2.1, by have h2 := h.2.2; have hl := lea_up es; omega⟩)), gWH⟩)
          · obtain ⟨s2, e2, gCT, hs1, hs2⟩ := o2.ye (by omega)
            have hu2 := con_up (one_up _) _ _ _ e2
            refine lv_aload_n hx hb dX7_readOne_220 rfl (lv_at hl 1 rfl) ?_
            refine fg_7_0 (k := 27) hx hb hts in_X7_readOne_7 hown hK hP (by decide) (by decide) (hts _ lk_X7_readOne_9) dX7_readOne_221 ?_
            refine r_bipush hx hb dX7_readOne_224 (by decide) (fun z159 ez159 => ?_)
            refine r_cVi (k := 1) (As := [.int z159]) (rest := []) ⟨hx, hb, hml, hown, hts⟩ hK hP hN hS (c_X8_take_v l D cA ad hI σ154 τ154 hR z159 b N mo _ 45 (by omega) (by omega) gCT) (cwV 1 hts gX7_readOne_X8_take rfl rfl rfl (by decide +kernel) ⟨by decide, by decide⟩) (rv_Tape hK hP (by decide) (by decide)) rfl hl.1 rfl (Nat.le_of_ble_eq_true rfl) dX7_readOne_226 (Nat.zero_le _) (Nat.zero_le _) (fun r160 u160 H160 locs160 hp160 hP hS => ?_)
            obtain ⟨σ160, τ160⟩ := u160
            obtain ⟨hR, f160, fL160, hq160, hp160_0⟩ : P_X8_take_v σ154 τ154 z159 b N mo _ 45 r160 σ160 τ160 := hp160
            have o3 := hp160_0
            have hP : va_P D vwCl (gw cA ad σ160 τ160) H160 := hP
            have hFL := hFL.step fL160 (by decide)
            have gWH := gWH.agL (AgrL.fr fL160 (by decide))
            have hF := hF.step f160 (by decide)
            have gWH := gWH.ag (Agr.fr f160 (by decide))
            have t161 : (σ160 24 1).toInt = (σ154 24 1).toInt := congrArg Int32.toInt (f160.at 24 1 (by decide))
            have t162 : (σ160 24 2).toInt = (σ154 24 2).toInt := congrArg Int32.toInt (f160.at 24 2 (by decide))
            refine r_if_eq (tgt := 236) hx hb dX7_readOne_229 (by decide) (fun c163 => ?_) (fun c163 => ?_)
            · refine r_iconst hx hb dX7_readOne_236 (by decide) (fun z164 ez164 => ?_)
              exact r_zret hx hb hr hK hP hS hk (by omega) dX7_readOne_237 (show P_X7_readOne_d7 σ0 τ0 a1 b N mo q nn nm hc z164 σ160 τ160 from ⟨hR, hF, hFL, by omega, by first | exact RO.ofr ((one_l (by omega) (by omega) (by omega) (by omega)).trans (lea_n (by omega) (by omega))) (by omega) ⟨gCT, by omega, by omega⟩ | (exfalso; omega) | exact RO.ofk (one_x (by omega)) (by omega) (by omega) (by omega) | exact RO.ofk (one_4 (by omega) (by omega)) (by omega) (by omega) (by omega) | (obtain ⟨f, e1, x1, x2⟩ := o1.no (by omega); exact RO.ofl ((one_n (by omega) (by omega)).trans e1) (by omega) x1 x2) | exact RO.ofr ((one_n (by omega) (by omega)).trans e1) (by omega) ⟨gCT, by omega, by omega⟩ | (obtain ⟨f, e2, x1, x2⟩ := o2.no (by omega); exact RO.ofl (by rw [one_o (by omega) (by omega), e2, bnd_l]) (by omega) x1 x2) | (obtain ⟨f, e3, x1, x2⟩ := o3.no (by omega); exact RO.ofl (by rw [one_o (by omega) (by omega), e2, bnd_r, e3, bnd_l]) (by omega) x1 x2) | exact RO.ofr (by rw [one_o (by omega) (by omega), e2, bnd_r, e3, bnd_r]) (by omega) ⟨gCT, by omega, by omega⟩ | (rw [one_l (by omega) (by omega) (by omega) (by omega)]; exact o4.map (fun s es h => ⟨h.1, h.2.1, by have h2 := h.2.2; have hl := lea_up es; omega⟩)) | (rw [one_l (by omega) (by omega) (by omega) (by omega)]; exact o5.map (fun s es h => ⟨h.1, h.2.1, by have h2 := h.2.2; have hl := lea_up es; omega⟩)), gWH⟩)
            · obtain ⟨q3, e3, gCT⟩ := o3.ye (by omega)
              refine r_iconst hx hb dX7_readOne_232 (by decide) (fun z165 ez165 => ?_)
              refine lv_goto (tgt := 237) hx hb dX7_readOne_233 (by decide) ?_
              exact r_zret hx hb hr hK hP hS hk (by omega) dX7_readOne_237 (show P_X7_readOne_d7 σ0 τ0 a1 b N mo q nn nm hc z165 σ160 τ160 from ⟨hR, hF, hFL, by omega, by first | exact RO.ofr ((one_l (by omega) (by omega) (by omega) (by omega)).trans (lea_n (by omega) (by omega))) (by omega) ⟨gCT, by omega, by omega⟩ | (exfalso; omega) | exact RO.ofk (one_x (by omega)) (by omega) (by omega) (by omega) | exact RO.ofk (one_4 (by omega) (by omega)) (by omega) (by omega) (by omega) | (obtain ⟨f, e1, x1, x2⟩ := o1.no (by omega); exact RO.ofl ((one_n (by omega) (by omega)).trans e1) (by omega) x1 x2) | exact RO.ofr ((one_n (by omega) (by omega)).trans e1) (by omega) ⟨gCT, by omega, by omega⟩ | (obtain ⟨f, e2, x1, x2⟩ := o2.no (by omega); exact RO.ofl (by rw [one_o (by omega) (by omega), e2, bnd_l]) (by omega) x1 x2) | (obtain ⟨f, e3, x1, x2⟩ := o3.no (by omega); exact RO.ofl (by rw [one_o (by omega) (by omega), e2, bnd_r, e3, bnd_l]) (by omega) x1 x2) | exact RO.ofr (by rw [one_o (by omega) (by omega), e2, bnd_r, e3, bnd_r]) (by omega) ⟨gCT, by omega, by omega⟩ | (rw [one_l (by omega) (by omega) (by omega) (by omega)]; exact o4.map (fun s es h => ⟨h.1, h.2.1, by have h2 := h.2.2; have hl := lea_up es; omega⟩)) | (rw [one_l (by omega) (by omega) (by omega) (by omega)]; exact o5.map (fun s es h => ⟨h.1, h.2.1, by have h2 := h.2.2; have hl := lea_up es; omega⟩)), gWH⟩)
        refine lv_tableOut (tgt := 249) hx hb dX7_readOne_72 (by omega) (by decide) ?_
        refine lv_aload_n hx hb dX7_readOne_249 rfl (lv_at hl 1 rfl) ?_
        refine fg_7_2 (k := 27) hx hb hts in_X7_readOne_7 hown hK hP (by decide) (by decide) (hts _ lk_X7_readOne_19) dX7_readOne_250 ?_
        refine lv_iload_n hx hb dX7_readOne_253 rfl (lv_at hl 0 rfl) ?_
        refine r_bipush hx hb dX7_readOne_254 (by decide) (fun z166 ez166 => ?_)
        refine r_iconst hx hb dX7_readOne_256 (by decide) (fun z167 ez167 => ?_)
        refine r_cVi (k := 24) (As := [.int (σ0 1 9), .int z166, .int z167]) (rest := []) ⟨hx, hb, hml, hown, hts⟩ hK hP hN hS (c_X6_add l D cA ad hI σ15 τ15 hR (σ0 1 9) z166 z167 (by omega)) (cwV 3 hts gX7_readOne_X6_add rfl rfl rfl (by decide +kernel) ⟨by decide, by decide⟩) (rv_Sent hK hP (by decide) (by decide)) rfl hl.1 rfl (Nat.le_of_ble_eq_true rfl) dX7_readOne_257 (Nat.zero_le _) (Nat.zero_le _) (fun r168 u168 H168 locs168 hp168 hP hS => ?_)
        obtain ⟨σ168, τ168⟩ := u168
        obtain ⟨hR, f168, fL168, hq168, hp168_0⟩ : P_X6_add σ15 τ15 (σ0 1 9) z166 z167 r168 σ168 τ168 := hp168
        have hP : va_P D vwCl (gw cA ad σ168 τ168) H168 := hP
        obtain rfl := FrL.nil fL168
        have hF := hF.step f168 (by decide)
        have gCT := gCT.ag (Agr.fr f168 (by decide))
        have gWH := gWH.ag (Agr.fr f168 (by decide))
        have t169 : (σ168 24 1).toInt = (σ15 24 1).toInt := congrArg Int32.toInt (f168.at 24 1 (by decide))
        have hr170 := rg_6_2 hR (k := 24) (by decide) (by decide)
        exact r_zret hx hb hr hK hP hS hk (by omega) dX7_readOne_260 (show P_X7_readOne_d7 σ0 τ0 a1 b N mo q nn nm hc r168 σ168 τ15 from ⟨hR, hF, hFL, by omega, by first | exact RO.ofr ((one_l (by omega) (by omega) (by omega) (by omega)).trans (lea_n (by omega) (by omega))) (by omega) ⟨gCT, by omega, by omega⟩ | (exfalso; omega) | exact RO.ofk (one_x (by omega)) (by omega) (by omega) (by omega) | exact RO.ofk (one_4 (by omega) (by omega)) (by omega) (by omega) (by omega) | (obtain ⟨f, e1, x1, x2⟩ := o1.no (by omega); exact RO.ofl ((one_n (by omega) (by omega)).trans e1) (by omega) x1 x2) | exact RO.ofr ((one_n (by omega) (by omega)).trans e1) (by omega) ⟨gCT, by omega, by omega⟩ | (obtain ⟨f, e2, x1, x2⟩ := o2.no (by omega); exact RO.ofl (by rw [one_o (by omega) (by omega), e2, bnd_l]) (by omega) x1 x2) | (obtain ⟨f, e3, x1, x2⟩ := o3.no (by omega); exact RO.ofl (by rw [one_o (by omega) (by omega), e2, bnd_r, e3, bnd_l]) (by omega) x1 x2) | exact RO.ofr (by rw [one_o (by omega) (by omega), e2, bnd_r, e3, bnd_r]) (by omega) ⟨gCT, by omega, by omega⟩ | (rw [one_l (by omega) (by omega) (by omega) (by omega)]; exact o4.map (fun s es h => ⟨h.1, h.2.1, by have h2 := h.2.2; have hl := lea_up es; omega⟩)) | (rw [one_l (by omega) (by omega) (by omega) (by omega)]; exact o5.map (fun s es h => ⟨h.1, h.2.1, by have h2 := h.2.2; have hl := lea_up es; omega⟩)), gWH⟩)
      · exfalso; omega
  · refine lv_aload_n hx hb dX7_readOne_15 rfl (lv_at hl 1 rfl) ?_
    refine fg_7_0 (k := 27) hx hb hts in_X7_readOne_7 hown hK hP (by decide) (by decide) (hts _ lk_X7_readOne_9) dX7_readOne_16 ?_
    refine r_iconst hx hb dX7_readOne_19 (by decide) (fun z171 ez171 => ?_)
    refine r_cVi (k := 1) (As := [.int z171]) (rest := []) ⟨hx, hb, hml, hown, hts⟩ hK hP hN hS (c_X8_blame_v l D cA ad hI σ0 τ0 hR z171 _ _ _ _ (by omega) gCT) (cwV 1 hts gX7_readOne_X8_blame rfl rfl rfl (by decide +kernel) ⟨by decide, by decide⟩) (rv_Tape hK hP (by decide) (by decide)) rfl hl.1 rfl (Nat.le_of_ble_eq_true rfl) dX7_readOne_20 (Nat.zero_le _) (Nat.zero_le _) (fun r172 u172 H172 locs172 hp172 hP hS => ?_)
    obtain ⟨σ172, τ172⟩ := u172
    obtain ⟨hR, f172, fL172, hq172, hp172_0, hp172_1, hp172_2, gnCT⟩ : P_X8_blame_v σ0 τ0 z171 _ _ _ _ r172 σ172 τ172 := hp172
    have hP : va_P D vwCl (gw cA ad σ172 τ172) H172 := hP
    obtain rfl := FrL.nil fL172
    have hF := hF.step f172 (by decide)
    have gCT := gCT.ag (Agr.fr f172 (by decide))
    have gWH := gWH.ag (Agr.fr f172 (by decide))
    have t173 : (σ172 24 1).toInt = (σ0 24 1).toInt := congrArg Int32.toInt (f172.at 24 1 (by decide))
    have t174 : (σ172 24 2).toInt = (σ0 24 2).toInt := congrArg Int32.toInt (f172.at 24 2 (by decide))
    exact r_zret hx hb hr hK hP hS hk (by omega) dX7_readOne_23 (show P_X7_readOne_d7 σ0 τ0 a1 b N mo q nn nm hc r172 σ172 τ0 from ⟨hR, hF, hFL, by omega, by first | exact RO.ofr ((one_l (by omega) (by omega) (by omega) (by omega)).trans (lea_n (by omega) (by omega))) (by omega) ⟨gCT, by omega, by omega⟩ | (exfalso; omega) | exact RO.ofk (one_x (by omega)) (by omega) (by omega) (by omega) | exact RO.ofk (one_4 (by omega) (by omega)) (by omega) (by omega) (by omega) | (obtain ⟨f, e1, x1, x2⟩ := o1.no (by omega); exact RO.ofl ((one_n (by omega) (by omega)).trans e1) (by omega) x1 x2) | exact RO.ofr ((one_n (by omega) (by omega)).trans e1) (by omega) ⟨gCT, by omega, by omega⟩ | (obtain ⟨f, e2, x1, x2⟩ := o2.no (by omega); exact RO.ofl (by rw [one_o (by omega) (by omega), e2, bnd_l]) (by omega) x1 x2) | (obtain ⟨f, e3, x1, x2⟩ := o3.no (by omega); exact RO.ofl (by rw [one_o (by omega) (by omega), e2, bnd_r, e3, bnd_l]) (by omega) x1 x2) | exact RO.ofr (by rw [one_o (by omega) (by omega), e2, bnd_r, e3, bnd_r]) (by omega) ⟨gCT, by omega, by omega⟩ | (rw [one_l (by omega) (by omega) (by omega) (by omega)]; exact o4.map (fun s es h => ⟨h.1, h.2.1, by have h2 := h.2.2; have hl := lea_up es; omega⟩)) | (rw [one_l (by omega) (by omega) (by omega) (by omega)]; exact o5.map (fun s es h => ⟨h.1, h.2.1, by have h2 := h.2.2; have hl := lea_up es; omega⟩)), gWH⟩)
abbrev L_X7_readAll_d7 : List Rc := [(1, 1, 7, 10), (372, 372, 0, 39), (376, 376, 0, 39), (380, 380, 0, 39), (24, 24, 1, 2), (1, 1, 12, 14)]
abbrev LL_X7_readAll_d7 : List Rc := [(1, 1, 11, 11)]
def P_X7_readAll_d7 (σ0 : Nat → Nat → Int32) (τ0 : Nat → Nat → Int64) (a1 : Int32) (b : Nat → Int) (N : Nat) (mo : Nat) (q : Nat) (nn : Nat) (nm : Nat → Int) (hc : Nat) (r : Int32) (σ : Nat → Nat → Int32) (τ : Nat → Nat → Int64) : Prop := Rg σ ∧ Fr L_X7_readAll_d7 σ0 σ ∧ FrL LL_X7_readAll_d7 τ0 τ ∧ (0 ≤ r.toInt ∧ r.toInt ≤ 1) ∧ (RO r σ (allP b N mo (fun q nn => oneP b N mo nm hc 2 q nn) q nn) (fun s => CT σ τ b N mo s.1 ∧ (σ 24 1).toInt = (s.2 : Int) ∧ (σ 24 2).toInt + 2 * (nn : Int) + 1 ≤ (σ0 24 2).toInt + 2 * (s.2 : Int))) ∧ WH σ τ nm hc
def J_X7_readAll_d7_12 (p : Program) (l : Launch) (e : Env) (s : State) (m : MethodId) (args : Array Value) (below : List Frame) (meth : Method) (c : Code) (D : va_G) (cA : Nat → ClassId) (ad : Nat → Nat) (σ0 : Nat → Nat → Int32) (τ0 : Nat → Nat → Int64) (a1 : Int32) (b : Nat → Int) (N : Nat) (mo : Nat) (q : Nat) (nn : Nat) (nm : Nat → Int) (hc : Nat) (n : Nat) : Prop := ∀ (σ : Nat → Nat → Int32) (τ : Nat → Nat → Int64) (H : Heap) (locs : List Loc) (x2 : Int32) (fu : Nat) (q1 : Nat) (n1 : Nat) (ls : Array Slot), Rg σ → Fr L_X7_readAll_d7 σ0 σ → FrL LL_X7_readAll_d7 τ0 τ → va_P D vwCl (gw cA ad σ τ) H → va_S (AA ad) s.heap H locs → (0 ≤ x2.toInt ∧ x2.toInt ≤ 200) → (0 ≤ (σ 24 1).toInt ∧ (σ 24 1).toInt ≤ 20) → (0 ≤ (σ 24 2).toInt ∧ (σ 24 2).toInt ≤ 40) → (allP b N mo (fun q nn => oneP b N mo nm hc 2 q nn) q nn = lopP b N mo 21 (fun q nn => oneP b N mo nm hc 2 q nn) fu q1 n1) → ((σ 24 1).toInt = (n1 : Int)) → (0 ≤ (σ 24 2).toInt ∧ (σ 24 2).toInt + 2 * (nn : Int) + 1 ≤ (σ0 24 2).toInt + 2 * (n1 : Int)) → ((fu : Int) + x2.toInt = 200) → (n1 ≤ 20) → (CT σ τ b N mo q1) → (WH σ τ nm hc) → (CT σ τ b N mo q1) → lv_has ls 3 [(0, .ref (ad 27)), (1, .int a1), (2, .int x2)] → 2 * (200 - x2.toInt) + 1 < (n : Int) → W p l e ({ frames := 8, cells := 0, slots := 0, locals := 175 } : Room) s m args below meth c H locs 0 0 (MQ below (va_Qi (fun (r : Int32) (u : SS) => P_X7_readAll_d7 σ0 τ0 a1 b N mo q nn nm hc r u.1 u.2) (WB D cA ad) (AA ad)) args s 0 0 (AA ad)) (F0 m 12 ls [])
set_option maxHeartbeats 4000000 in
theorem B_X7_readAll_d7_12 (p : Program) (l : Launch) (e : Env) (s : State) (m : MethodId) (args : Array Value) (below : List Frame) (meth : Method) (c : Code) (D : va_G) (cA : Nat → ClassId) (ad : Nat → Nat) (σ0 : Nat → Nat → Int32) (τ0 : Nat → Nat → Int64) (a1 : Int32) (b : Nat → Int) (N : Nat) (mo : Nat) (q : Nat) (nn : Nat) (nm : Nat → Int) (hc : Nat) (n : Nat) (C : Cy p s m args meth c cX7_readAll 3 wsX7_readAll RX7 D cA ad (some .boolean)) (ha1 : 7 ≤ a1.toInt ∧ a1.toInt ≤ 7) (hpre0 : (σ0 24 1).toInt = (nn : Int)) (hpre1 : 0 ≤ (σ0 24 2).toInt ∧ (σ0 24 2).toInt ≤ 2 * (nn : Int)) (hpre2 : nn ≤ 20) (gCT0 : CT σ0 τ0 b N mo q) (gWH0 : WH σ0 τ0 nm hc) (K12 : J_X7_readAll_d7_12 p l e s m args below meth c D cA ad σ0 τ0 a1 b N mo q nn nm hc n) : J_X7_readAll_d7_12 p l e s m args below meth c D cA ad σ0 τ0 a1 b N mo q nn nm hc (n + 1) := by
  obtain ⟨hx, hb, hml, hown, hts, hK, hk, hr, hI, hN⟩ := C
  intro σ τ H locs x2 fu q1 n1 ls hR hF hFL hP hS hc0 hc1 hc2 iv ib2 ib3 ifu in20 gCT gWH gCT hl hm
  refine lv_iload_n hx hb dX7_readAll_12 rfl (lv_at hl 2 rfl) ?_
  refine r_sipush hx hb dX7_readAll_13 (by decide) (fun z1 ez1 => ?_)
  refine r_icmp_ge (tgt := 68) hx hb dX7_readAll_16 (by decide) (fun c2 => ?_) (fun c2 => ?_)
  · refine r_iconst hx hb dX7_readAll_68 (by decide) (fun z3 ez3 => ?_)
    exact r_zret hx hb hr hK hP hS hk (by omega) dX7_readAll_69 (show P_X7_readAll_d7 σ0 τ0 a1 b N mo q nn nm hc z3 σ τ from ⟨hR, hF, hFL, by omega, by first | (exfalso; omega) | (obtain ⟨f, e1, x1, x2⟩ := o1.no (by omega); exact RO.ofl (all_f e1) (by omega) x1 x2) | exact RO.ofr (by rw [iv, lop_e (by omega)]) (by omega) ⟨gCT, by omega, by omega⟩ | (obtain ⟨f, e2, x1, x2⟩ := o2.no (by omega); exact RO.ofl (by rw [iv, lop_f (f := (fun q nn => oneP b N mo nm hc 2 q nn)) (by omega) (by omega) e2]) (by omega) x1 x2) | (exfalso; omega), gWH⟩)
  · have htk := gCT.tk
    refine lv_aload_n hx hb dX7_readAll_19 rfl (lv_at hl 0 rfl) ?_
    refine fg_7_0 (k := 27) hx hb hts in_X7_readAll_7 hown hK hP (by decide) (by decide) (hts _ lk_X7_readAll_9) dX7_readAll_20 ?_
    refine fgN_8_9 (k := 1) hx hb hts in_X7_readAll_8 hown hK hP (by decide) (by decide) (hN.use nw_7_32) dX7_readAll_23 ?_
    refine r_bipush hx hb dX7_readAll_26 (by decide) (fun z4 ez4 => ?_)
    refine r_icmp_ne (tgt := 68) hx hb dX7_readAll_28 (by decide) (fun c5 => ?_) (fun c5 => ?_)
    · refine r_iconst hx hb dX7_readAll_68 (by decide) (fun z6 ez6 => ?_)
      exact r_zret hx hb hr hK hP hS hk (by omega) dX7_readAll_69 (show P_X7_readAll_d7 σ0 τ0 a1 b N mo q nn nm hc z6 σ τ from ⟨hR, hF, hFL, by omega, by first | (exfalso; omega) | (obtain ⟨f, e1, x1, x2⟩ := o1.no (by omega); exact RO.ofl (all_f e1) (by omega) x1 x2) | exact RO.ofr (by rw [iv, lop_e (by omega)]) (by omega) ⟨gCT, by omega, by omega⟩ | (obtain ⟨f, e2, x1, x2⟩ := o2.no (by omega); exact RO.ofl (by rw [iv, lop_f (f := (fun q nn => oneP b N mo nm hc 2 q nn)) (by omega) (by omega) e2]) (by omega) x1 x2) | (exfalso; omega), gWH⟩)
    · refine lv_aload_n hx hb dX7_readAll_31 rfl (lv_at hl 0 rfl) ?_
      refine fg_7_0 (k := 27) hx hb hts in_X7_readAll_7 hown hK hP (by decide) (by decide) (hts _ lk_X7_readAll_9) dX7_readAll_32 ?_
      refine r_cVv (k := 1) (As := []) (rest := []) ⟨hx, hb, hml, hown, hts⟩ hK hP hN hS (c_X8_next_v l D cA ad hI σ τ hR _ _ _ _ gCT) (cwV 0 hts gX7_readAll_X8_next rfl rfl rfl (by decide +kernel) ⟨by decide, by decide⟩) (rv_Tape hK hP (by decide) (by decide)) rfl hl.1 rfl (Nat.le_of_ble_eq_true rfl) dX7_readAll_35 (Nat.zero_le _) (Nat.zero_le _) (fun u7 H7 locs7 hp7 hP hS => ?_)
      obtain ⟨σ7, τ7⟩ := u7
      obtain ⟨hR, f7, fL7, hp7_0⟩ : P_X8_next_v σ τ _ _ _ _ σ7 τ7 := hp7
      have hP : va_P D vwCl (gw cA ad σ7 τ7) H7 := hP
      have hFL := hFL.step fL7 (by decide)
      have gWH := gWH.agL (AgrL.fr fL7 (by decide))
      have hF := hF.step f7 (by decide)
      have gWH := gWH.ag (Agr.fr f7 (by decide))
      have t8 : (σ7 24 1).toInt = (σ 24 1).toInt := congrArg Int32.toInt (f7.at 24 1 (by decide))
      have t9 : (σ7 24 2).toInt = (σ 24 2).toInt := congrArg Int32.toInt (f7.at 24 2 (by decide))
      have gCT := hp7_0
      refine lv_aload_n hx hb dX7_readAll_38 rfl (lv_at hl 0 rfl) ?_
      refine lv_iload_n hx hb dX7_readAll_39 rfl (lv_at hl 1 rfl) ?_
      refine r_cVi (k := 27) (As := [.int a1]) (rest := []) ⟨hx, hb, hml, hown, hts⟩ hK hP hN hS (c_X7_readOne_d7 l D cA ad hI σ7 τ7 hR a1 b N mo _ n1 nm hc (by omega) (by omega) (by omega) (by omega) gCT gWH) (cwV 1 hts gX7_readAll_X7_readOne rfl rfl rfl (by decide +kernel) ⟨by decide, by decide⟩) (rv_SText hK hP (by decide) (by decide)) rfl hl.1 rfl (Nat.le_of_ble_eq_true rfl) dX7_readAll_40 (Nat.zero_le _) (Nat.zero_le _) (fun r10 u10 H10 locs10 hp10 hP hS => ?_)
      obtain ⟨σ10, τ10⟩ := u10
      obtain ⟨hR, f10, fL10, hq10, hp10_0, gnWH⟩ : P_X7_readOne_d7 σ7 τ7 a1 b N mo _ n1 nm hc r10 σ10 τ10 := hp10
      have o2 := hp10_0
      have hP : va_P D vwCl (gw cA ad σ10 τ10) H10 := hP
      have hFL := hFL.step fL10 (by decide)
      have gWH := gWH.agL (AgrL.fr fL10 (by decide))
      have hF := hF.step f10 (by decide)
      have gWH := gWH.ag (Agr.fr f10 (by decide))
      have hr11 := rg_6_1 hR (k := 24) (by decide) (by decide)
      have hr12 := rg_6_2 hR (k := 24) (by decide) (by decide)
      refine r_if_eq (tgt := 60) hx hb dX7_readAll_43 (by decide) (fun c13 => ?_) (fun c13 => ?_)
      · refine r_iconst hx hb dX7_readAll_60 (by decide) (fun z14 ez14 => ?_)
        exact r_zret hx hb hr hK hP hS hk (by omega) dX7_readAll_61 (show P_X7_readAll_d7 σ0 τ0 a1 b N mo q nn nm hc z14 σ10 τ10 from ⟨hR, hF, hFL, by omega, by first | (exfalso; omega) | (obtain ⟨f, e1, x1, x2⟩ := o1.no (by omega); exact RO.ofl (all_f e1) (by omega) x1 x2) | exact RO.ofr (by rw [iv, lop_e (by omega)]) (by omega) ⟨gCT, by omega, by omega⟩ | (obtain ⟨f, e2, x1, x2⟩ := o2.no (by omega); exact RO.ofl (by rw [iv, lop_f (f := (fun q nn => oneP b N mo nm hc 2 q nn)) (by omega) (by omega) e2]) (by omega) x1 x2) | (exfalso; omega), gWH⟩)
      · obtain ⟨s2, e2, gCT, hs3, hs4⟩ := o2.ye (by omega)
        have hu2 := one_up _ _ _ _ e2
        refine lv_aload_n hx hb dX7_readAll_46 rfl (lv_at hl 0 rfl) ?_
        refine fg_7_2 (k := 27) hx hb hts in_X7_readAll_7 hown hK hP (by decide) (by decide) (hts _ lk_X7_readAll_19) dX7_readAll_47 ?_
        refine r_bipush hx hb dX7_readAll_50 (by decide) (fun z15 ez15 => ?_)
        refine r_iconst hx hb dX7_readAll_52 (by decide) (fun z16 ez16 => ?_)
        refine r_iconst hx hb dX7_readAll_53 (by decide) (fun z17 ez17 => ?_)
        refine r_cVi (k := 24) (As := [.int z15, .int z16, .int z17]) (rest := []) ⟨hx, hb, hml, hown, hts⟩ hK hP hN hS (c_X6_add l D cA ad hI σ10 τ10 hR z15 z16 z17 (by omega)) (cwV 3 hts gX7_readAll_X6_add rfl rfl rfl (by decide +kernel) ⟨by decide, by decide⟩) (rv_Sent hK hP (by decide) (by decide)) rfl hl.1 rfl (Nat.le_of_ble_eq_true rfl) dX7_readAll_54 (Nat.zero_le _) (Nat.zero_le _) (fun r18 u18 H18 locs18 hp18 hP hS => ?_)
        obtain ⟨σ18, τ18⟩ := u18
        obtain ⟨hR, f18, fL18, hq18, hp18_0⟩ : P_X6_add σ10 τ10 z15 z16 z17 r18 σ18 τ18 := hp18
        have hP : va_P D vwCl (gw cA ad σ18 τ18) H18 := hP
        obtain rfl := FrL.nil fL18
        have hF := hF.step f18 (by decide)
        have gCT := gCT.ag (Agr.fr f18 (by decide))
        have gWH := gWH.ag (Agr.fr f18 (by decide))
        have t19 : (σ18 24 1).toInt = (σ10 24 1).toInt := congrArg Int32.toInt (f18.at 24 1 (by decide))
        have hr20 := rg_6_2 hR (k := 24) (by decide) (by decide)
        refine r_if_ne (tgt := 62) hx hb dX7_readAll_57 (by decide) (fun c21 => ?_) (fun c21 => ?_)
        · refine r_iinc (k := 2) (lv1 := fun z22 => [(2, .int z22), (0, .ref (ad 27)), (1, .int a1)]) hx hb dX7_readAll_62 hl rfl (by decide) (fun _ => rfl) (by decide) (by omega) (fun z22 ls ez22 hl => ?_)
          refine lv_goto (tgt := 12) hx hb dX7_readAll_65 (by decide) ?_
          exact K12 σ18 τ10 H18 locs18 z22 (fu - 1) _ _ ls hR hF hFL hP hS (by omega) (by omega) (by omega) (by first | exact all_s e1 | rw [iv, lop_s (f := (fun q nn => oneP b N mo nm hc 2 q nn)) (by omega) (by omega) e2]) (by omega) (by omega) (by omega) (by omega) gCT gWH gCT (lv_sub hl [1, 2, 0] rfl) (by omega)
        · refine r_iconst hx hb dX7_readAll_60 (by decide) (fun z23 ez23 => ?_)
          exact r_zret hx hb hr hK hP hS hk (by omega) dX7_readAll_61 (show P_X7_readAll_d7 σ0 τ0 a1 b N mo q nn nm hc z23 σ18 τ10 from ⟨hR, hF, hFL, by omega, by first | (exfalso; omega) | (obtain ⟨f, e1, x1, x2⟩ := o1.no (by omega); exact RO.ofl (all_f e1) (by omega) x1 x2) | exact RO.ofr (by rw [iv, lop_e (by omega)]) (by omega) ⟨gCT, by omega, by omega⟩ | (obtain ⟨f, e2, x1, x2⟩ := o2.no (by omega); exact RO.ofl (by rw [iv, lop_f (f := (fun q nn => oneP b N mo nm hc 2 q nn)) (by omega) (by omega) e2]) (by omega) x1 x2) | (exfalso; omega), gWH⟩)
theorem A_X7_readAll_d7 (p : Program) (l : Launch) (e : Env) (s : State) (m : MethodId) (args : Array Value) (below : List Frame) (meth : Method) (c : Code) (D : va_G) (cA : Nat → ClassId) (ad : Nat → Nat) (σ0 : Nat → Nat → Int32) (τ0 : Nat → Nat → Int64) (a1 : Int32) (b : Nat → Int) (N : Nat) (mo : Nat) (q : Nat) (nn : Nat) (nm : Nat → Int) (hc : Nat) (C : Cy p s m args meth c cX7_readAll 3 wsX7_readAll RX7 D cA ad (some .boolean)) (ha1 : 7 ≤ a1.toInt ∧ a1.toInt ≤ 7) (hpre0 : (σ0 24 1).toInt = (nn : Int)) (hpre1 : 0 ≤ (σ0 24 2).toInt ∧ (σ0 24 2).toInt ≤ 2 * (nn : Int)) (hpre2 : nn ≤ 20) (gCT0 : CT σ0 τ0 b N mo q) (gWH0 : WH σ0 τ0 nm hc) : ∀ n : Nat, J_X7_readAll_d7_12 p l e s m args below meth c D cA ad σ0 τ0 a1 b N mo q nn nm hc n := by
  intro n
  induction n with
  | zero =>
    exact (by intro σ τ H locs x2 fu q1 n1 ls hR hF hFL hP hS hc0 hc1 hc2 iv ib2 ib3 ifu in20 gCT gWH gCT hl hm; exfalso; omega)
  | succ n ih =>
    exact B_X7_readAll_d7_12 p l e s m args below meth c D cA ad σ0 τ0 a1 b N mo q nn nm hc n C ha1 hpre0 hpre1 hpre2 gCT0 gWH0 ih
set_option maxHeartbeats 4000000 in
theorem c_X7_readAll_d7 (l : Launch) (D : va_G) (cA : Nat → ClassId) (ad : Nat → Nat) (hI : Inj ad) (σ0 : Nat → Nat → Int32) (τ0 : Nat → Nat → Int64) (hR : Rg σ0) (a1 : Int32) (b : Nat → Int) (N : Nat) (mo : Nat) (q : Nat) (nn : Nat) (nm : Nat → Int) (hc : Nat) (ha1 : 7 ≤ a1.toInt ∧ a1.toInt ≤ 7) (hpre0 : (σ0 24 1).toInt = (nn : Int)) (hpre1 : 0 ≤ (σ0 24 2).toInt ∧ (σ0 24 2).toInt ≤ 2 * (nn : Int)) (hpre2 : nn ≤ 20) (gCT0 : CT σ0 τ0 b N mo q) (gWH0 : WH σ0 τ0 nm hc) : Met l yX7_readAll wsX7_readAll ({ frames := 8, cells := 0, slots := 0, locals := 175 } : Room) (WQc D cA ad [.ref (ad 27), .int a1] σ0 τ0) (va_Qi (fun (r : Int32) (u : SS) => P_X7_readAll_d7 σ0 τ0 a1 b N mo q nn nm hc r u.1 u.2) (WB D cA ad) (AA ad)) 0 0 (AA ad) := by
  refine Met.ofW (cc := cX7_readAll) (maxL := 3) (ret := (some .boolean)) (by decide) rfl ?_
  intro p e s m args below meth c s₁ B hml hv
  obtain ⟨rfl, hP, hK, hN⟩ := hv
  have C : Cy p s m _ meth c cX7_readAll 3 wsX7_readAll RX7 D cA ad (some .boolean) := ⟨B.exec, B.bytes, hml, findClass_of_methodNamed B.named, atoms_spec (ws := wsX7_readAll) B.pre, hK, B.notSynchronized, B.returns, hI, hN⟩
  have hl := lv_entry ([.ref (ad 27), .int a1]) (n := 3) (Nat.le_of_ble_eq_true rfl)
  rw [lg_entry_eq]
  generalize (lg_sl ([.ref (ad 27), .int a1]) ++ List.replicate (3 - (lg_sl ([.ref (ad 27), .int a1])).length) Slot.unset).toArray = ls at hl ⊢
  have hl : lv_has ls 3 [(0, .ref (ad 27)), (1, .int a1)] := hl
  have hS : va_S (AA ad) s.heap s.heap [] := va_S.rf
  have hF : Fr L_X7_readAll_d7 σ0 σ0 := Fr.rf
  have hFL : FrL LL_X7_readAll_d7 τ0 τ0 := FrL.rf
  have gCT := gCT0
  have gWH := gWH0
  have hA := A_X7_readAll_d7 p l e s m _ below meth c D cA ad σ0 τ0 a1 b N mo q nn nm hc C ha1 hpre0 hpre1 hpre2 gCT0 gWH0 810
  have K12 := hA
  clear hA
  obtain ⟨hx, hb, _, hown, hts, _, hk, hr, _, _⟩ := C
  refine lv_aload_n hx hb dX7_readAll_0 rfl (lv_at hl 0 rfl) ?_
  refine lv_iload_n hx hb dX7_readAll_1 rfl (lv_at hl 1 rfl) ?_
  refine r_cVi (k := 27) (As := [.int a1]) (rest := []) ⟨hx, hb, hml, hown, hts⟩ hK hP hN hS (c_X7_readOne_d7 l D cA ad hI σ0 τ0 hR a1 b N mo q nn nm hc (by omega) (by omega) (by omega) (by omega) gCT gWH) (cwV 1 hts gX7_readAll_X7_readOne rfl rfl rfl (by decide +kernel) ⟨by decide, by decide⟩) (rv_SText hK hP (by decide) (by decide)) rfl hl.1 rfl (Nat.le_of_ble_eq_true rfl) dX7_readAll_2 (Nat.zero_le _) (Nat.zero_le _) (fun r1 u1 H1 locs1 hp1 hP hS => ?_)
  obtain ⟨σ1, τ1⟩ := u1
  obtain ⟨hR, f1, fL1, hq1, hp1_0, gnWH⟩ : P_X7_readOne_d7 σ0 τ0 a1 b N mo q nn nm hc r1 σ1 τ1 := hp1
  have o1 := hp1_0
  have hP : va_P D vwCl (gw cA ad σ1 τ1) H1 := hP
  have hFL := hFL.step fL1 (by decide)
  have gWH := gWH.agL (AgrL.fr fL1 (by decide))
  have hF := hF.step f1 (by decide)
  have gWH := gWH.ag (Agr.fr f1 (by decide))
  have hr2 := rg_6_1 hR (k := 24) (by decide) (by decide)
  have hr3 := rg_6_2 hR (k := 24) (by decide) (by decide)
  refine r_if_ne (tgt := 10) hx hb dX7_readAll_5 (by decide) (fun c4 => ?_) (fun c4 => ?_)
  · obtain ⟨s1, e1, gCT, hs1, hs2⟩ := o1.ye (by omega)
    have hu1 := one_up _ _ _ _ e1
    refine r_iconst hx hb dX7_readAll_10 (by decide) (fun z5 ez5 => ?_)
    refine lv_istore_n (lv' := [(2, .int z5), (0, .ref (ad 27)), (1, .int a1)]) hx hb dX7_readAll_11 rfl hl (by decide) rfl (fun ls hl => ?_)
    exact K12 σ1 τ1 H1 locs1 z5 200 _ _ ls hR hF hFL hP hS (by omega) (by omega) (by omega) (by first | exact all_s e1 | rw [iv, lop_s (f := (fun q nn => oneP b N mo nm hc 2 q nn)) (by omega) (by omega) e2]) (by omega) (by omega) (by omega) (by omega) gCT gWH gCT (lv_sub hl [1, 2, 0] rfl) (by omega)
  · refine r_iconst hx hb dX7_readAll_8 (by decide) (fun z6 ez6 => ?_)
    exact r_zret hx hb hr hK hP hS hk (by omega) dX7_readAll_9 (show P_X7_readAll_d7 σ0 τ0 a1 b N mo q nn nm hc z6 σ1 τ1 from ⟨hR, hF, hFL, by omega, by first | (exfalso; omega) | (obtain ⟨f, e1, x1, x2⟩ := o1.no (by omega); exact RO.ofl (all_f e1) (by omega) x1 x2) | exact RO.ofr (by rw [iv, lop_e (by omega)]) (by omega) ⟨gCT, by omega, by omega⟩ | (obtain ⟨f, e2, x1, x2⟩ := o2.no (by omega); exact RO.ofl (by rw [iv, lop_f (f := (fun q nn => oneP b N mo nm hc 2 q nn)) (by omega) (by omega) e2]) (by omega) x1 x2) | (exfalso; omega), gWH⟩)
abbrev L_X7_readCond_d7 : List Rc := [(1, 1, 7, 10), (372, 372, 0, 39), (376, 376, 0, 39), (380, 380, 0, 39), (24, 24, 1, 2), (1, 1, 12, 14)]
abbrev LL_X7_readCond_d7 : List Rc := [(1, 1, 11, 11)]
def P_X7_readCond_d7 (σ0 : Nat → Nat → Int32) (τ0 : Nat → Nat → Int64) (a1 : Int32) (b : Nat → Int) (N : Nat) (mo : Nat) (q : Nat) (nn : Nat) (nm : Nat → Int) (hc : Nat) (r : Int32) (σ : Nat → Nat → Int32) (τ : Nat → Nat → Int64) : Prop := Rg σ ∧ Fr L_X7_readCond_d7 σ0 σ ∧ FrL LL_X7_readCond_d7 τ0 τ ∧ (0 ≤ r.toInt ∧ r.toInt ≤ 1) ∧ (RO r σ (conP b N mo (fun q nn => oneP b N mo nm hc 2 q nn) q nn) (fun s => CT σ τ b N mo s.1 ∧ (σ 24 1).toInt = (s.2 : Int) ∧ (σ 24 2).toInt + 2 * (nn : Int) + 1 ≤ (σ0 24 2).toInt + 2 * (s.2 : Int))) ∧ WH σ τ nm hc
def J_X7_readCond_d7_12 (p : Program) (l : Launch) (e : Env) (s : State) (m : MethodId) (args : Array Value) (below : List Frame) (meth : Method) (c : Code) (D : va_G) (cA : Nat → ClassId) (ad : Nat → Nat) (σ0 : Nat → Nat → Int32) (τ0 : Nat → Nat → Int64) (a1 : Int32) (b : Nat → Int) (N : Nat) (mo : Nat) (q : Nat) (nn : Nat) (nm : Nat → Int) (hc : Nat) (n : Nat) : Prop := ∀ (σ : Nat → Nat → Int32) (τ : Nat → Nat → Int64) (H : Heap) (locs : List Loc) (x2 : Int32) (fu : Nat) (q1 : Nat) (n1 : Nat) (ls : Array Slot), Rg σ → Fr L_X7_readCond_d7 σ0 σ → FrL LL_X7_readCond_d7 τ0 τ → va_P D vwCl (gw cA ad σ τ) H → va_S (AA ad) s.heap H locs → (0 ≤ x2.toInt ∧ x2.toInt ≤ 200) → (0 ≤ (σ 24 1).toInt ∧ (σ 24 1).toInt ≤ 20) → (0 ≤ (σ 24 2).toInt ∧ (σ 24 2).toInt ≤ 40) → (conP b N mo (fun q nn => oneP b N mo nm hc 2 q nn) q nn = lopP b N mo 20 (allP b N mo (fun q nn => oneP b N mo nm hc 2 q nn)) fu q1 n1) → ((σ 24 1).toInt = (n1 : Int)) → (0 ≤ (σ 24 2).toInt ∧ (σ 24 2).toInt + 2 * (nn : Int) + 1 ≤ (σ0 24 2).toInt + 2 * (n1 : Int)) → ((fu : Int) + x2.toInt = 200) → (n1 ≤ 20) → (CT σ τ b N mo q1) → (WH σ τ nm hc) → (CT σ τ b N mo q1) → lv_has ls 3 [(0, .ref (ad 27)), (1, .int a1), (2, .int x2)] → 2 * (200 - x2.toInt) + 1 < (n : Int) → W p l e ({ frames := 9, cells := 0, slots := 0, locals := 197 } : Room) s m args below meth c H locs 0 0 (MQ below (va_Qi (fun (r : Int32) (u : SS) => P_X7_readCond_d7 σ0 τ0 a1 b N mo q nn nm hc r u.1 u.2) (WB D cA ad) (AA ad)) args s 0 0 (AA ad)) (F0 m 12 ls [])
set_option maxHeartbeats 4000000 in
theorem B_X7_readCond_d7_12 (p : Program) (l : Launch) (e : Env) (s : State) (m : MethodId) (args : Array Value) (below : List Frame) (meth : Method) (c : Code) (D : va_G) (cA : Nat → ClassId) (ad : Nat → Nat) (σ0 : Nat → Nat → Int32) (τ0 : Nat → Nat → Int64) (a1 : Int32) (b : Nat → Int) (N : Nat) (mo : Nat) (q : Nat) (nn : Nat) (nm : Nat → Int) (hc : Nat) (n : Nat) (C : Cy p s m args meth c cX7_readCond 3 wsX7_readCond RX7 D cA ad (some .boolean)) (ha1 : 7 ≤ a1.toInt ∧ a1.toInt ≤ 7) (hpre0 : (σ0 24 1).toInt = (nn : Int)) (hpre1 : 0 ≤ (σ0 24 2).toInt ∧ (σ0 24 2).toInt ≤ 2 * (nn : Int)) (hpre2 : nn ≤ 20) (gCT0 : CT σ0 τ0 b N mo q) (gWH0 : WH σ0 τ0 nm hc) (K12 : J_X7_readCond_d7_12 p l e s m args below meth c D cA ad σ0 τ0 a1 b N mo q nn nm hc n) : J_X7_readCond_d7_12 p l e s m args below meth c D cA ad σ0 τ0 a1 b N mo q nn nm hc (n + 1) := by
  obtain ⟨hx, hb, hml, hown, hts, hK, hk, hr, hI, hN⟩ := C
  intro σ τ H locs x2 fu q1 n1 ls hR hF hFL hP hS hc0 hc1 hc2 iv ib2 ib3 ifu in20 gCT gWH gCT hl hm
  refine lv_iload_n hx hb dX7_readCond_12 rfl (lv_at hl 2 rfl) ?_
  refine r_sipush hx hb dX7_readCond_13 (by decide) (fun z1 ez1 => ?_)
  refine r_icmp_ge (tgt := 68) hx hb dX7_readCond_16 (by decide) (fun c2 => ?_) (fun c2 => ?_)
  · refine r_iconst hx hb dX7_readCond_68 (by decide) (fun z3 ez3 => ?_)
    exact r_zret hx hb hr hK hP hS hk (by omega) dX7_readCond_69 (show P_X7_readCond_d7 σ0 τ0 a1 b N mo q nn nm hc z3 σ τ from ⟨hR, hF, hFL, by omega, by first | (exfalso; omega) | (obtain ⟨f, e1, x1, x2⟩ := o1.no (by omega); exact RO.ofl (con_f e1) (by omega) x1 x2) | exact RO.ofr (by rw [iv, lop_e (by omega)]) (by omega) ⟨gCT, by omega, by omega⟩ | (obtain ⟨f, e2, x1, x2⟩ := o2.no (by omega); exact RO.ofl (by rw [iv, lop_f (f := (allP b N mo (fun q nn => oneP b N mo nm hc 2 q nn))) (by omega) (by omega) e2]) (by omega) x1 x2) | (exfalso; omega), gWH⟩)
  · have htk := gCT.tk
    refine lv_aload_n hx hb dX7_readCond_19 rfl (lv_at hl 0 rfl) ?_
    refine fg_7_0 (k := 27) hx hb hts in_X7_readCond_7 hown hK hP (by decide) (by decide) (hts _ lk_X7_readCond_9) dX7_readCond_20 ?_
    refine fgN_8_9 (k := 1) hx hb hts in_X7_readCond_8 hown hK hP (by decide) (by decide) (hN.use nw_7_32) dX7_readCond_23 ?_
    refine r_bipush hx hb dX7_readCond_26 (by decide) (fun z4 ez4 => ?_)
    refine r_icmp_ne (tgt := 68) hx hb dX7_readCond_28 (by decide) (fun c5 => ?_) (fun c5 => ?_)
    · refine r_iconst hx hb dX7_readCond_68 (by decide) (fun z6 ez6 => ?_)
      exact r_zret hx hb hr hK hP hS hk (by omega) dX7_readCond_69 (show P_X7_readCond_d7 σ0 τ0 a1 b N mo q nn nm hc z6 σ τ from ⟨hR, hF, hFL, by omega, by first | (exfalso; omega) | (obtain ⟨f, e1, x1, x2⟩ := o1.no (by omega); exact RO.ofl (con_f e1) (by omega) x1 x2) | exact RO.ofr (by rw [iv, lop_e (by omega)]) (by omega) ⟨gCT, by omega, by omega⟩ | (obtain ⟨f, e2, x1, x2⟩ := o2.no (by omega); exact RO.ofl (by rw [iv, lop_f (f := (allP b N mo (fun q nn => oneP b N mo nm hc 2 q nn))) (by omega) (by omega) e2]) (by omega) x1 x2) | (exfalso; omega), gWH⟩)
    · refine lv_aload_n hx hb dX7_readCond_31 rfl (lv_at hl 0 rfl) ?_
      refine fg_7_0 (k := 27) hx hb hts in_X7_readCond_7 hown hK hP (by decide) (by decide) (hts _ lk_X7_readCond_9) dX7_readCond_32 ?_
      refine r_cVv (k := 1) (As := []) (rest := []) ⟨hx, hb, hml, hown, hts⟩ hK hP hN hS (c_X8_next_v l D cA ad hI σ τ hR _ _ _ _ gCT) (cwV 0 hts gX7_readCond_X8_next rfl rfl rfl (by decide +kernel) ⟨by decide, by decide⟩) (rv_Tape hK hP (by decide) (by decide)) rfl hl.1 rfl (Nat.le_of_ble_eq_true rfl) dX7_readCond_35 (Nat.zero_le _) (Nat.zero_le _) (fun u7 H7 locs7 hp7 hP hS => ?_)
      obtain ⟨σ7, τ7⟩ := u7
      obtain ⟨hR, f7, fL7, hp7_0⟩ : P_X8_next_v σ τ _ _ _ _ σ7 τ7 := hp7
      have hP : va_P D vwCl (gw cA ad σ7 τ7) H7 := hP
      have hFL := hFL.step fL7 (by decide)
      have gWH := gWH.agL (AgrL.fr fL7 (by decide))
      have hF := hF.step f7 (by decide)
      have gWH := gWH.ag (Agr.fr f7 (by decide))
      have t8 : (σ7 24 1).toInt = (σ 24 1).toInt := congrArg Int32.toInt (f7.at 24 1 (by decide))
      have t9 : (σ7 24 2).toInt = (σ 24 2).toInt := congrArg Int32.toInt (f7.at 24 2 (by decide))
      have gCT := hp7_0
      refine lv_aload_n hx hb dX7_readCond_38 rfl (lv_at hl 0 rfl) ?_
      refine lv_iload_n hx hb dX7_readCond_39 rfl (lv_at hl 1 rfl) ?_
      refine r_cVi (k := 27) (As := [.int a1]) (rest := []) ⟨hx, hb, hml, hown, hts⟩ hK hP hN hS (c_X7_readAll_d7 l D cA ad hI σ7 τ7 hR a1 b N mo _ n1 nm hc (by omega) (by omega) (by omega) (by omega) gCT gWH) (cwV 1 hts gX7_readCond_X7_readAll rfl rfl rfl (by decide +kernel) ⟨by decide, by decide⟩) (rv_SText hK hP (by decide) (by decide)) rfl hl.1 rfl (Nat.le_of_ble_eq_true rfl) dX7_readCond_40 (Nat.zero_le _) (Nat.zero_le _) (fun r10 u10 H10 locs10 hp10 hP hS => ?_)
      obtain ⟨σ10, τ10⟩ := u10
      obtain ⟨hR, f10, fL10, hq10, hp10_0, gnWH⟩ : P_X7_readAll_d7 σ7 τ7 a1 b N mo _ n1 nm hc r10 σ10 τ10 := hp10
      have o2 := hp10_0
      have hP : va_P D vwCl (gw cA ad σ10 τ10) H10 := hP
      have hFL := hFL.step fL10 (by decide)
      have gWH := gWH.agL (AgrL.fr fL10 (by decide))
      have hF := hF.step f10 (by decide)
      have gWH := gWH.ag (Agr.fr f10 (by decide))
      have hr11 := rg_6_1 hR (k := 24) (by decide) (by decide)
      have hr12 := rg_6_2 hR (k := 24) (by decide) (by decide)
      refine r_if_eq (tgt := 60) hx hb dX7_readCond_43 (by decide) (fun c13 => ?_) (fun c13 => ?_)
      · refine r_iconst hx hb dX7_readCond_60 (by decide) (fun z14 ez14 => ?_)
        exact r_zret hx hb hr hK hP hS hk (by omega) dX7_readCond_61 (show P_X7_readCond_d7 σ0 τ0 a1 b N mo q nn nm hc z14 σ10 τ10 from ⟨hR, hF, hFL, by omega, by first | (exfalso; omega) | (obtain ⟨f, e1, x1, x2⟩ := o1.no (by omega); exact RO.ofl (con_f e1) (by omega) x1 x2) | exact RO.ofr (by rw [iv, lop_e (by omega)]) (by omega) ⟨gCT, by omega, by omega⟩ | (obtain ⟨f, e2, x1, x2⟩ := o2.no (by omega); exact RO.ofl (by rw [iv, lop_f (f := (allP b N mo (fun q nn => oneP b N mo nm hc 2 q nn))) (by omega) (by omega) e2]) (by omega) x1 x2) | (exfalso; omega), gWH⟩)
      · obtain ⟨s2, e2, gCT, hs3, hs4⟩ := o2.ye (by omega)
        have hu2 := all_up (one_up _) _ _ _ e2
        refine lv_aload_n hx hb dX7_readCond_46 rfl (lv_at hl 0 rfl) ?_
        refine fg_7_2 (k := 27) hx hb hts in_X7_readCond_7 hown hK hP (by decide) (by decide) (hts _ lk_X7_readCond_19) dX7_readCond_47 ?_
        refine r_bipush hx hb dX7_readCond_50 (by decide) (fun z15 ez15 => ?_)
        refine r_iconst hx hb dX7_readCond_52 (by decide) (fun z16 ez16 => ?_)
        refine r_iconst hx hb dX7_readCond_53 (by decide) (fun z17 ez17 => ?_)
        refine r_cVi (k := 24) (As := [.int z15, .int z16, .int z17]) (rest := []) ⟨hx, hb, hml, hown, hts⟩ hK hP hN hS (c_X6_add l D cA ad hI σ10 τ10 hR z15 z16 z17 (by omega)) (cwV 3 hts gX7_readCond_X6_add rfl rfl rfl (by decide +kernel) ⟨by decide, by decide⟩) (rv_Sent hK hP (by decide) (by decide)) rfl hl.1 rfl (Nat.le_of_ble_eq_true rfl) dX7_readCond_54 (Nat.zero_le _) (Nat.zero_le _) (fun r18 u18 H18 locs18 hp18 hP hS => ?_)
        obtain ⟨σ18, τ18⟩ := u18
        obtain ⟨hR, f18, fL18, hq18, hp18_0⟩ : P_X6_add σ10 τ10 z15 z16 z17 r18 σ18 τ18 := hp18
        have hP : va_P D vwCl (gw cA ad σ18 τ18) H18 := hP
        obtain rfl := FrL.nil fL18
        have hF := hF.step f18 (by decide)
        have gCT := gCT.ag (Agr.fr f18 (by decide))
        have gWH := gWH.ag (Agr.fr f18 (by decide))
        have t19 : (σ18 24 1).toInt = (σ10 24 1).toInt := congrArg Int32.toInt (f18.at 24 1 (by decide))
        have hr20 := rg_6_2 hR (k := 24) (by decide) (by decide)
        refine r_if_ne (tgt := 62) hx hb dX7_readCond_57 (by decide) (fun c21 => ?_) (fun c21 => ?_)
        · refine r_iinc (k := 2) (lv1 := fun z22 => [(2, .int z22), (0, .ref (ad 27)), (1, .int a1)]) hx hb dX7_readCond_62 hl rfl (by decide) (fun _ => rfl) (by decide) (by omega) (fun z22 ls ez22 hl => ?_)
          refine lv_goto (tgt := 12) hx hb dX7_readCond_65 (by decide) ?_
          exact K12 σ18 τ10 H18 locs18 z22 (fu - 1) _ _ ls hR hF hFL hP hS (by omega) (by omega) (by omega) (by first | exact con_s e1 | rw [iv, lop_s (f := (allP b N mo (fun q nn => oneP b N mo nm hc 2 q nn))) (by omega) (by omega) e2]) (by omega) (by omega) (by omega) (by omega) gCT gWH gCT (lv_sub hl [1, 2, 0] rfl) (by omega)
        · refine r_iconst hx hb dX7_readCond_60 (by decide) (fun z23 ez23 => ?_)
          exact r_zret hx hb hr hK hP hS hk (by omega) dX7_readCond_61 (show P_X7_readCond_d7 σ0 τ0 a1 b N mo q nn nm hc z23 σ18 τ10 from ⟨hR, hF, hFL, by omega, by first | (exfalso; omega) | (obtain ⟨f, e1, x1, x2⟩ := o1.no (by omega); exact RO.ofl (con_f e1) (by omega) x1 x2) | exact RO.ofr (by rw [iv, lop_e (by omega)]) (by omega) ⟨gCT, by omega, by omega⟩ | (obtain ⟨f, e2, x1, x2⟩ := o2.no (by omega); exact RO.ofl (by rw [iv, lop_f (f := (allP b N mo (fun q nn => oneP b N mo nm hc 2 q nn))) (by omega) (by omega) e2]) (by omega) x1 x2) | (exfalso; omega), gWH⟩)
theorem A_X7_readCond_d7 (p : Program) (l : Launch) (e : Env) (s : State) (m : MethodId) (args : Array Value) (below : List Frame) (meth : Method) (c : Code) (D : va_G) (cA : Nat → ClassId) (ad : Nat → Nat) (σ0 : Nat → Nat → Int32) (τ0 : Nat → Nat → Int64) (a1 : Int32) (b : Nat → Int) (N : Nat) (mo : Nat) (q : Nat) (nn : Nat) (nm : Nat → Int) (hc : Nat) (C : Cy p s m args meth c cX7_readCond 3 wsX7_readCond RX7 D cA ad (some .boolean)) (ha1 : 7 ≤ a1.toInt ∧ a1.toInt ≤ 7) (hpre0 : (σ0 24 1).toInt = (nn : Int)) (hpre1 : 0 ≤ (σ0 24 2).toInt ∧ (σ0 24 2).toInt ≤ 2 * (nn : Int)) (hpre2 : nn ≤ 20) (gCT0 : CT σ0 τ0 b N mo q) (gWH0 : WH σ0 τ0 nm hc) : ∀ n : Nat, J_X7_readCond_d7_12 p l e s m args below meth c D cA ad σ0 τ0 a1 b N mo q nn nm hc n := by
  intro n
  induction n with
  | zero =>
    exact (by intro σ τ H locs x2 fu q1 n1 ls hR hF hFL hP hS hc0 hc1 hc2 iv ib2 ib3 ifu in20 gCT gWH gCT hl hm; exfalso; omega)
  | succ n ih =>
    exact B_X7_readCond_d7_12 p l e s m args below meth c D cA ad σ0 τ0 a1 b N mo q nn nm hc n C ha1 hpre0 hpre1 hpre2 gCT0 gWH0 ih
set_option maxHeartbeats 4000000 in
theorem c_X7_readCond_d7 (l : Launch) (D : va_G) (cA : Nat → ClassId) (ad : Nat → Nat) (hI : Inj ad) (σ0 : Nat → Nat → Int32) (τ0 : Nat → Nat → Int64) (hR : Rg σ0) (a1 : Int32) (b : Nat → Int) (N : Nat) (mo : Nat) (q : Nat) (nn : Nat) (nm : Nat → Int) (hc : Nat) (ha1 : 7 ≤ a1.toInt ∧ a1.toInt ≤ 7) (hpre0 : (σ0 24 1).toInt = (nn : Int)) (hpre1 : 0 ≤ (σ0 24 2).toInt ∧ (σ0 24 2).toInt ≤ 2 * (nn : Int)) (hpre2 : nn ≤ 20) (gCT0 : CT σ0 τ0 b N mo q) (gWH0 : WH σ0 τ0 nm hc) : Met l yX7_readCond wsX7_readCond ({ frames := 9, cells := 0, slots := 0, locals := 197 } : Room) (WQc D cA ad [.ref (ad 27), .int a1] σ0 τ0) (va_Qi (fun (r : Int32) (u : SS) => P_X7_readCond_d7 σ0 τ0 a1 b N mo q nn nm hc r u.1 u.2) (WB D cA ad) (AA ad)) 0 0 (AA ad) := by
  refine Met.ofW (cc := cX7_readCond) (maxL := 3) (ret := (some .boolean)) (by decide) rfl ?_
  intro p e s m args below meth c s₁ B hml hv
  obtain ⟨rfl, hP, hK, hN⟩ := hv
  have C : Cy p s m _ meth c cX7_readCond 3 wsX7_readCond RX7 D cA ad (some .boolean) := ⟨B.exec, B.bytes, hml, findClass_of_methodNamed B.named, atoms_spec (ws := wsX7_readCond) B.pre, hK, B.notSynchronized, B.returns, hI, hN⟩
  have hl := lv_entry ([.ref (ad 27), .int a1]) (n := 3) (Nat.le_of_ble_eq_true rfl)
  rw [lg_entry_eq]
  generalize (lg_sl ([.ref (ad 27), .int a1]) ++ List.replicate (3 - (lg_sl ([.ref (ad 27), .int a1])).length) Slot.unset).toArray = ls at hl ⊢
  have hl : lv_has ls 3 [(0, .ref (ad 27)), (1, .int a1)] := hl
  have hS : va_S (AA ad) s.heap s.heap [] := va_S.rf
  have hF : Fr L_X7_readCond_d7 σ0 σ0 := Fr.rf
  have hFL : FrL LL_X7_readCond_d7 τ0 τ0 := FrL.rf
  have gCT := gCT0
  have gWH := gWH0
  have hA := A_X7_readCond_d7 p l e s m _ below meth c D cA ad σ0 τ0 a1 b N mo q nn nm hc C ha1 hpre0 hpre1 hpre2 gCT0 gWH0 810
  have K12 := hA
  clear hA
  obtain ⟨hx, hb, _, hown, hts, _, hk, hr, _, _⟩ := C
  refine lv_aload_n hx hb dX7_readCond_0 rfl (lv_at hl 0 rfl) ?_
  refine lv_iload_n hx hb dX7_readCond_1 rfl (lv_at hl 1 rfl) ?_
  refine r_cVi (k := 27) (As := [.int a1]) (rest := []) ⟨hx, hb, hml, hown, hts⟩ hK hP hN hS (c_X7_readAll_d7 l D cA ad hI σ0 τ0 hR a1 b N mo q nn nm hc (by omega) (by omega) (by omega) (by omega) gCT gWH) (cwV 1 hts gX7_readCond_X7_readAll rfl rfl rfl (by decide +kernel) ⟨by decide, by decide⟩) (rv_SText hK hP (by decide) (by decide)) rfl hl.1 rfl (Nat.le_of_ble_eq_true rfl) dX7_readCond_2 (Nat.zero_le _) (Nat.zero_le _) (fun r1 u1 H1 locs1 hp1 hP hS => ?_)
  obtain ⟨σ1, τ1⟩ := u1
  obtain ⟨hR, f1, fL1, hq1, hp1_0, gnWH⟩ : P_X7_readAll_d7 σ0 τ0 a1 b N mo q nn nm hc r1 σ1 τ1 := hp1
  have o1 := hp1_0
  have hP : va_P D vwCl (gw cA ad σ1 τ1) H1 := hP
  have hFL := hFL.step fL1 (by decide)
  have gWH := gWH.agL (AgrL.fr fL1 (by decide))
  have hF := hF.step f1 (by decide)
  have gWH := gWH.ag (Agr.fr f1 (by decide))
  have hr2 := rg_6_1 hR (k := 24) (by decide) (by decide)
  have hr3 := rg_6_2 hR (k := 24) (by decide) (by decide)
  refine r_if_ne (tgt := 10) hx hb dX7_readCond_5 (by decide) (fun c4 => ?_) (fun c4 => ?_)
  · obtain ⟨s1, e1, gCT, hs1, hs2⟩ := o1.ye (by omega)
    have hu1 := all_up (one_up _) _ _ _ e1
    refine r_iconst hx hb dX7_readCond_10 (by decide) (fun z5 ez5 => ?_)
    refine lv_istore_n (lv' := [(2, .int z5), (0, .ref (ad 27)), (1, .int a1)]) hx hb dX7_readCond_11 rfl hl (by decide) rfl (fun ls hl => ?_)
    exact K12 σ1 τ1 H1 locs1 z5 200 _ _ ls hR hF hFL hP hS (by omega) (by omega) (by omega) (by first | exact con_s e1 | rw [iv, lop_s (f := (allP b N mo (fun q nn => oneP b N mo nm hc 2 q nn))) (by omega) (by omega) e2]) (by omega) (by omega) (by omega) (by omega) gCT gWH gCT (lv_sub hl [1, 2, 0] rfl) (by omega)
  · refine r_iconst hx hb dX7_readCond_8 (by decide) (fun z6 ez6 => ?_)
    exact r_zret hx hb hr hK hP hS hk (by omega) dX7_readCond_9 (show P_X7_readCond_d7 σ0 τ0 a1 b N mo q nn nm hc z6 σ1 τ1 from ⟨hR, hF, hFL, by omega, by first | (exfalso; omega) | (obtain ⟨f, e1, x1, x2⟩ := o1.no (by omega); exact RO.ofl (con_f e1) (by omega) x1 x2) | exact RO.ofr (by rw [iv, lop_e (by omega)]) (by omega) ⟨gCT, by omega, by omega⟩ | (obtain ⟨f, e2, x1, x2⟩ := o2.no (by omega); exact RO.ofl (by rw [iv, lop_f (f := (allP b N mo (fun q nn => oneP b N mo nm hc 2 q nn))) (by omega) (by omega) e2]) (by omega) x1 x2) | (exfalso; omega), gWH⟩)
abbrev L_X7_readOne_d6 : List Rc := [(1, 1, 7, 10), (372, 372, 0, 39), (376, 376, 0, 39), (380, 380, 0, 39), (24, 24, 1, 2), (1, 1, 12, 14)]
abbrev LL_X7_readOne_d6 : List Rc := [(1, 1, 11, 11)]
def P_X7_readOne_d6 (σ0 : Nat → Nat → Int32) (τ0 : Nat → Nat → Int64) (a1 : Int32) (b : Nat → Int) (N : Nat) (mo : Nat) (q : Nat) (nn : Nat) (nm : Nat → Int) (hc : Nat) (r : Int32) (σ : Nat → Nat → Int32) (τ : Nat → Nat → Int64) : Prop := Rg σ ∧ Fr L_X7_readOne_d6 σ0 σ ∧ FrL LL_X7_readOne_d6 τ0 τ ∧ (0 ≤ r.toInt ∧ r.toInt ≤ 1) ∧ (RO r σ (oneP b N mo nm hc 3 q nn) (fun s => CT σ τ b N mo s.1 ∧ (σ 24 1).toInt = (s.2 : Int) ∧ (σ 24 2).toInt + 2 * (nn : Int) + 1 ≤ (σ0 24 2).toInt + 2 * (s.2 : Int))) ∧ WH σ τ nm hc
set_option maxHeartbeats 4000000 in
theorem c_X7_readOne_d6 (l : Launch) (D : va_G) (cA : Nat → ClassId) (ad : Nat → Nat) (hI : Inj ad) (σ0 : Nat → Nat → Int32) (τ0 : Nat → Nat → Int64) (hR : Rg σ0) (a1 : Int32) (b : Nat → Int) (N : Nat) (mo : Nat) (q : Nat) (nn : Nat) (nm : Nat → Int) (hc : Nat) (ha1 : 6 ≤ a1.toInt ∧ a1.toInt ≤ 6) (hpre0 : (σ0 24 1).toInt = (nn : Int)) (hpre1 : 0 ≤ (σ0 24 2).toInt ∧ (σ0 24 2).toInt ≤ 2 * (nn : Int)) (hpre2 : nn ≤ 20) (gCT0 : CT σ0 τ0 b N mo q) (gWH0 : WH σ0 τ0 nm hc) : Met l yX7_readOne wsX7_readOne ({ frames := 10, cells := 0, slots := 0, locals := 219 } : Room) (WQc D cA ad [.ref (ad 27), .int a1] σ0 τ0) (va_Qi (fun (r : Int32) (u : SS) => P_X7_readOne_d6 σ0 τ0 a1 b N mo q nn nm hc r u.1 u.2) (WB D cA ad) (AA ad)) 0 0 (AA ad) := by
  refine Met.ofW (cc := cX7_readOne) (maxL := 3) (ret := (some .boolean)) (by decide) rfl ?_
  intro p e s m args below meth c s₁ B hml hv
  obtain ⟨rfl, hP, hK, hN⟩ := hv
  have C : Cy p s m _ meth c cX7_readOne 3 wsX7_readOne RX7 D cA ad (some .boolean) := ⟨B.exec, B.bytes, hml, findClass_of_methodNamed B.named, atoms_spec (ws := wsX7_readOne) B.pre, hK, B.notSynchronized, B.returns, hI, hN⟩
  have hl := lv_entry ([.ref (ad 27), .int a1]) (n := 3) (Nat.le_of_ble_eq_true rfl)
  rw [lg_entry_eq]
  generalize (lg_sl ([.ref (ad 27), .int a1]) ++ List.replicate (3 - (lg_sl ([.ref (ad 27), .int a1])).length) Slot.unset).toArray = ls at hl ⊢
  have hl : lv_has ls 3 [(0, .ref (ad 27)), (1, .int a1)] := hl
  have hS : va_S (AA ad) s.heap s.heap [] := va_S.rf
  have hF : Fr L_X7_readOne_d6 σ0 σ0 := Fr.rf
  have hFL : FrL LL_X7_readOne_d6 τ0 τ0 := FrL.rf
  have gCT := gCT0
  have gWH := gWH0
  obtain ⟨hx, hb, _, hown, hts, _, hk, hr, _, _⟩ := C
  have htk := gCT.tk
  refine lv_aload_n hx hb dX7_readOne_0 rfl (lv_at hl 0 rfl) ?_
  refine fg_7_0 (k := 27) hx hb hts in_X7_readOne_7 hown hK hP (by decide) (by decide) (hts _ lk_X7_readOne_9) dX7_readOne_1 ?_
  refine fgN_8_9 (k := 1) hx hb hts in_X7_readOne_8 hown hK hP (by decide) (by decide) (hN.use nw_7_32) dX7_readOne_4 ?_
  refine lv_istore_n (lv' := [(2, .int (σ0 1 9)), (0, .ref (ad 27)), (1, .int a1)]) hx hb dX7_readOne_7 rfl hl (by decide) rfl (fun ls hl => ?_)
  refine lv_iload_n hx hb dX7_readOne_8 rfl (lv_at hl 0 rfl) ?_
  refine r_cSi (As := [.int (σ0 1 9)]) (rest := []) ⟨hx, hb, hml, hown, hts⟩ hK hP hN hS (c_X7_beginsOne l D cA ad hI σ0 τ0 hR (σ0 1 9)) (va_cwS 1 hts gX7_readOne_X7_beginsOne rfl rfl rfl (by decide +kernel) ⟨by decide, by decide⟩) rfl hl.1 rfl (Nat.le_of_ble_eq_true rfl) dX7_readOne_9 (Nat.zero_le _) (Nat.zero_le _) (fun r1 u1 H1 locs1 hp1 hP hS => ?_)
  obtain ⟨σ1, τ1⟩ := u1
  obtain ⟨hR, f1, fL1, hq1, hp1_0⟩ : P_X7_beginsOne σ0 τ0 (σ0 1 9) r1 σ1 τ1 := hp1
  have hP : va_P D vwCl (gw cA ad σ1 τ1) H1 := hP
  obtain rfl := FrL.nil fL1
  obtain rfl := Fr.nil f1
  refine r_if_ne (tgt := 24) hx hb dX7_readOne_12 (by decide) (fun c2 => ?_) (fun c2 => ?_)
  · refine lv_aload_n hx hb dX7_readOne_24 rfl (lv_at hl 1 rfl) ?_
    refine fg_7_2 (k := 27) hx hb hts in_X7_readOne_7 hown hK hP (by decide) (by decide) (hts _ lk_X7_readOne_19) dX7_readOne_25 ?_
    refine fgN_6_1 (k := 24) hx hb hts in_X7_readOne_6 hown hK hP (by decide) (by decide) (hN.use nw_7_61) dX7_readOne_28 ?_
    refine r_bipush hx hb dX7_readOne_31 (by decide) (fun z3 ez3 => ?_)
    refine r_icmp_ge (tgt := 42) hx hb dX7_readOne_33 (by decide) (fun c4 => ?_) (fun c4 => ?_)
    · refine lv_aload_n hx hb dX7_readOne_42 rfl (lv_at hl 1 rfl) ?_
      refine fg_7_0 (k := 27) hx hb hts in_X7_readOne_7 hown hK hP (by decide) (by decide) (hts _ lk_X7_readOne_9) dX7_readOne_43 ?_
      refine r_iconst hx hb dX7_readOne_46 (by decide) (fun z5 ez5 => ?_)
      refine r_cVi (k := 1) (As := [.int z5]) (rest := []) ⟨hx, hb, hml, hown, hts⟩ hK hP hN hS (c_X8_blame_v l D cA ad hI σ0 τ0 hR z5 _ _ _ _ (by omega) gCT) (cwV 1 hts gX7_readOne_X8_blame rfl rfl rfl (by decide +kernel) ⟨by decide, by decide⟩) (rv_Tape hK hP (by decide) (by decide)) rfl hl.1 rfl (Nat.le_of_ble_eq_true rfl) dX7_readOne_47 (Nat.zero_le _) (Nat.zero_le _) (fun r6 u6 H6 locs6 hp6 hP hS => ?_)
      obtain ⟨σ6, τ6⟩ := u6
      obtain ⟨hR, f6, fL6, hq6, hp6_0, hp6_1, hp6_2, gnCT⟩ : P_X8_blame_v σ0 τ0 z5 _ _ _ _ r6 σ6 τ6 := hp6
      have hP : va_P D vwCl (gw cA ad σ6 τ6) H6 := hP
      obtain rfl := FrL.nil fL6
      have hF := hF.step f6 (by decide)
      have gCT := gCT.ag (Agr.fr f6 (by decide))
      have gWH := gWH.ag (Agr.fr f6 (by decide))
      have t7 : (σ6 24 1).toInt = (σ0 24 1).toInt := congrArg Int32.toInt (f6.at 24 1 (by decide))
      have t8 : (σ6 24 2).toInt = (σ0 24 2).toInt := congrArg Int32.toInt (f6.at 24 2 (by decide))
      exact r_zret hx hb hr hK hP hS hk (by omega) dX7_readOne_50 (show P_X7_readOne_d6 σ0 τ0 a1 b N mo q nn nm hc r6 σ6 τ0 from ⟨hR, hF, hFL, by omega, by first | exact RO.ofr ((one_l (by omega) (by omega) (by omega) (by omega)).trans (lea_n (by omega) (by omega))) (by omega) ⟨gCT, by omega, by omega⟩ | (exfalso; omega) | exact RO.ofk (one_x (by omega)) (by omega) (by omega) (by omega) | exact RO.ofk (one_4 (by omega) (by omega)) (by omega) (by omega) (by omega) | (obtain ⟨f, e1, x1, x2⟩ := o1.no (by omega); exact RO.ofl ((one_n (by omega) (by omega)).trans e1) (by omega) x1 x2) | exact RO.ofr ((one_n (by omega) (by omega)).trans e1) (by omega) ⟨gCT, by omega, by omega⟩ | (obtain ⟨f, e2, x1, x2⟩ := o2.no (by omega); exact RO.ofl (by rw [one_o (by omega) (by omega), e2, bnd_l]) (by omega) x1 x2) | (obtain ⟨f, e3, x1, x2⟩ := o3.no (by omega); exact RO.ofl (by rw [one_o (by omega) (by omega), e2, bnd_r, e3, bnd_l]) (by omega) x1 x2) | exact RO.ofr (by rw [one_o (by omega) (by omega), e2, bnd_r, e3, bnd_r]) (by omega) ⟨gCT, by omega, by omega⟩ | (rw [one_l (by omega) (by omega) (by omega) (by omega)]; exact o4.map (fun s es h => ⟨h.1, h.2.1, by have h2 := h.2.2; have hl := lea_up es; omega⟩)) | (rw [one_l (by omega) (by omega) (by omega) (by omega)]; exact o5.map (fun s es h => ⟨h.1, h.2.1, by have h2 := h.2.2; have hl := lea_up es; omega⟩)), gWH⟩)
    · refine lv_iload_n hx hb dX7_readOne_36 rfl (lv_at hl 2 rfl) ?_
      refine r_bipush hx hb dX7_readOne_37 (by decide) (fun z9 ez9 => ?_)
      refine r_icmp_le (tgt := 51) hx hb dX7_readOne_39 (by decide) (fun c10 => ?_) (fun c10 => ?_)
      · refine lv_aload_n hx hb dX7_readOne_51 rfl (lv_at hl 1 rfl) ?_
        refine fg_7_2 (k := 27) hx hb hts in_X7_readOne_7 hown hK hP (by decide) (by decide) (hts _ lk_X7_readOne_19) dX7_readOne_52 ?_
        refine lv_dup hx hb dX7_readOne_55 rfl ?_
        refine fgN_6_1 (k := 24) hx hb hts in_X7_readOne_6 hown hK hP (by decide) (by decide) (hN.use nw_7_61) dX7_readOne_56 ?_
        refine r_iconst hx hb dX7_readOne_59 (by decide) (fun z11 ez11 => ?_)
        refine r_iadd hx hb dX7_readOne_60 (by omega) (fun z12 ez12 => ?_)
        refine fpN_6_1 (k := 24) hx hb hts in_X7_readOne_6 hown hK hP (by decide) (by decide) (hN.use nw_7_61) hI hR hS (by omega) dX7_readOne_61 (fun σ13 H13 locs13 u13 v13 hR hP hS => ?_)
        have hF := hF.puts u13 4 rfl (by decide) (by decide) (by decide) (by decide)
        have gCT := gCT.ag (Agr.put u13 (by decide))
        have gWH := gWH.ag (Agr.put u13 (by decide))
        have t14 : (σ13 24 2).toInt = (σ0 24 2).toInt := congrArg Int32.toInt (u13 24 2 (by omega))
        refine lv_aload_n hx hb dX7_readOne_64 rfl (lv_at hl 1 rfl) ?_
        refine fg_7_0 (k := 27) hx hb hts in_X7_readOne_7 hown hK hP (by decide) (by decide) (hts _ lk_X7_readOne_9) dX7_readOne_65 ?_
        refine r_cVv (k := 1) (As := []) (rest := []) ⟨hx, hb, hml, hown, hts⟩ hK hP hN hS (c_X8_next_v l D cA ad hI σ13 τ0 hR _ _ _ _ gCT) (cwV 0 hts gX7_readOne_X8_next rfl rfl rfl (by decide +kernel) ⟨by decide, by decide⟩) (rv_Tape hK hP (by decide) (by decide)) rfl hl.1 rfl (Nat.le_of_ble_eq_true rfl) dX7_readOne_68 (Nat.zero_le _) (Nat.zero_le _) (fun u15 H15 locs15 hp15 hP hS => ?_)
        obtain ⟨σ15, τ15⟩ := u15
        obtain ⟨hR, f15, fL15, hp15_0⟩ : P_X8_next_v σ13 τ0 _ _ _ _ σ15 τ15 := hp15
        have hP : va_P D vwCl (gw cA ad σ15 τ15) H15 := hP
        have hFL := hFL.step fL15 (by decide)
        have gWH := gWH.agL (AgrL.fr fL15 (by decide))
        have hF := hF.step f15 (by decide)
        have gWH := gWH.ag (Agr.fr f15 (by decide))
        have t16 : (σ15 24 2).toInt = (σ13 24 2).toInt := congrArg Int32.toInt (f15.at 24 2 (by decide))
        have t17 : (σ15 24 1).toInt = (σ13 24 1).toInt := congrArg Int32.toInt (f15.at 24 1 (by decide))
        have gCT := hp15_0
        refine lv_iload_n hx hb dX7_readOne_71 rfl (lv_at hl 0 rfl) ?_
        by_cases c18 : (σ0 1 9).toInt = 22
        · refine lv_tableIn (off := 108) (tgt := 180) hx hb dX7_readOne_72 (by omega) (by omega) (by rw [c18]; rfl) (by decide) ?_
          refine lv_aload_n hx hb dX7_readOne_180 rfl (lv_at hl 1 rfl) ?_
          refine lv_iload_n hx hb dX7_readOne_181 rfl (lv_at hl 2 rfl) ?_
          refine r_iconst hx hb dX7_readOne_182 (by decide) (fun z19 ez19 => ?_)
          refine r_iadd hx hb dX7_readOne_183 (by omega) (fun z20 ez20 => ?_)
          refine r_cVi (k := 27) (As := [.int z20]) (rest := []) ⟨hx, hb, hml, hown, hts⟩ hK hP hN hS (c_X7_readOne_d7 l D cA ad hI σ15 τ15 hR z20 b N mo _ (nn + 1) nm hc (by omega) (by omega) (by omega) (by omega) gCT gWH) (cwV 1 hts gX7_readOne_X7_readOne rfl rfl rfl (by decide +kernel) ⟨by decide, by decide⟩) (rv_SText hK hP (by decide) (by decide)) rfl hl.1 rfl (Nat.le_of_ble_eq_true rfl) dX7_readOne_184 (Nat.zero_le _) (Nat.zero_le _) (fun r21 u21 H21 locs21 hp21 hP hS => ?_)
          obtain ⟨σ21, τ21⟩ := u21
          obtain ⟨hR, f21, fL21, hq21, hp21_0, gnWH⟩ : P_X7_readOne_d7 σ15 τ15 z20 b N mo _ (nn + 1) nm hc r21 σ21 τ21 := hp21
          have o1 := hp21_0
          have hP : va_P D vwCl (gw cA ad σ21 τ21) H21 := hP
          have hFL := hFL.step fL21 (by decide)
          have gWH := gWH.agL (AgrL.fr fL21 (by decide))
          have hF := hF.step f21 (by decide)
          have gWH := gWH.ag (Agr.fr f21 (by decide))
          have hr22 := rg_6_1 hR (k := 24) (by decide) (by decide)
          have hr23 := rg_6_2 hR (k := 24) (by decide) (by decide)
          refine r_if_eq (tgt := 208) hx hb dX7_readOne_187 (by decide) (fun c24 => ?_) (fun c24 => ?_)
          · refine r_iconst hx hb dX7_readOne_208 (by decide) (fun z25 ez25 => ?_)
            exact r_zret hx hb hr hK hP hS hk (by omega) dX7_readOne_209 (show P_X7_readOne_d6 σ0 τ0 a1 b N mo q nn nm hc z25 σ21 τ21 from ⟨hR, hF, hFL, by omega, by first | exact RO.ofr ((one_l (by omega) (by omega) (by omega) (by omega)).trans (lea_n (by omega) (by omega))) (by omega) ⟨gCT, by omega, by omega⟩ | (exfalso; omega) | exact RO.ofk (one_x (by omega)) (by omega) (by omega) (by omega) | exact RO.ofk (one_4 (by omega) (by omega)) (by omega) (by omega) (by omega) | (obtain ⟨f, e1, x1, x2⟩ := o1.no (by omega); exact RO.ofl ((one_n (by omega) (by omega)).trans e1) (by omega) x1 x2) | exact RO.ofr ((one_n (by omega) (by omega)).trans e1) (by omega) ⟨gCT, by omega, by omega⟩ | (obtain ⟨f, e2, x1, x2⟩ := o2.no (by omega); exact RO.ofl (by rw [one_o (by omega) (by omega), e2, bnd_l]) (by omega) x1 x2) | (obtain ⟨f, e3, x1, x2⟩ := o3.no (by omega); exact RO.ofl (by rw [one_o (by omega) (by omega), e2, bnd_r, e3, bnd_l]) (by omega) x1 x2) | exact RO.ofr (by rw [one_o (by omega) (by omega), e2, bnd_r, e3, bnd_r]) (by omega) ⟨gCT, by omega, by omega⟩ | (rw [one_l (by omega) (by omega) (by omega) (by omega)]; exact o4.map (fun s es h => ⟨h.1, h.2.1, by have h2 := h.2.2; have hl := lea_up es; omega⟩)) | (rw [one_l (by omega) (by omega) (by omega) (by omega)]; exact o5.map (fun s es h => ⟨h.1, h.2.1, by have h2 := h.2.2; have hl := lea_up es; omega⟩)), gWH⟩)
          · obtain ⟨s1, e1, gCT, hs1, hs2⟩ := o1.ye (by omega)
            have hu1 := one_up _ _ _ _ e1
            refine lv_aload_n hx hb dX7_readOne_190 rfl (lv_at hl 1 rfl) ?_
            refine fg_7_2 (k := 27) hx hb hts in_X7_readOne_7 hown hK hP (by decide) (by decide) (hts _ lk_X7_readOne_19) dX7_readOne_191 ?_
            refine r_bipush hx hb dX7_readOne_194 (by decide) (fun z26 ez26 => ?_)
            refine r_iconst hx hb dX7_readOne_196 (by decide) (fun z27 ez27 => ?_)
            refine r_iconst hx hb dX7_readOne_197 (by decide) (fun z28 ez28 => ?_)
            refine r_cVi (k := 24) (As := [.int z26, .int z27, .int z28]) (rest := []) ⟨hx, hb, hml, hown, hts⟩ hK hP hN hS (c_X6_add l D cA ad hI σ21 τ21 hR z26 z27 z28 (by omega)) (cwV 3 hts gX7_readOne_X6_add rfl rfl rfl (by decide +kernel) ⟨by decide, by decide⟩) (rv_Sent hK hP (by decide) (by decide)) rfl hl.1 rfl (Nat.le_of_ble_eq_true rfl) dX7_readOne_198 (Nat.zero_le _) (Nat.zero_le _) (fun r29 u29 H29 locs29 hp29 hP hS => ?_)
            obtain ⟨σ29, τ29⟩ := u29
            obtain ⟨hR, f29, fL29, hq29, hp29_0⟩ : P_X6_add σ21 τ21 z26 z27 z28 r29 σ29 τ29 := hp29
            have hP : va_P D vwCl (gw cA ad σ29 τ29) H29 := hP
            obtain rfl := FrL.nil fL29
            have hF := hF.step f29 (by decide)
            have gCT := gCT.ag (Agr.fr f29 (by decide))
            have gWH := gWH.ag (Agr.fr f29 (by decide))
            have t30 : (σ29 24 1).toInt = (σ21 24 1).toInt := congrArg Int32.toInt (f29.at 24 1 (by decide))
            have hr31 := rg_6_2 hR (k := 24) (by decide) (by decide)
            refine r_if_eq (tgt := 208) hx hb dX7_readOne_201 (by decide) (fun c32 => ?_) (fun c32 => ?_)
            · refine r_iconst hx hb dX7_readOne_208 (by decide) (fun z33 ez33 => ?_)
              exact r_zret hx hb hr hK hP hS hk (by omega) dX7_readOne_209 (show P_X7_readOne_d6 σ0 τ0 a1 b N mo q nn nm hc z33 σ29 τ21 from ⟨hR, hF, hFL, by omega, by first | exact RO.ofr ((one_l (by omega) (by omega) (by omega) (by omega)).trans (lea_n (by omega) (by omega))) (by omega) ⟨gCT, by omega, by omega⟩ | (exfalso; omega) | exact RO.ofk (one_x (by omega)) (by omega) (by omega) (by omega) | exact RO.ofk (one_4 (by omega) (by omega)) (by omega) (by omega) (by omega) | (obtain ⟨f, e1, x1, x2⟩ := o1.no (by omega); exact RO.ofl ((one_n (by omega) (by omega)).trans e1) (by omega) x1 x2) | exact RO.ofr ((one_n (by omega) (by omega)).trans e1) (by omega) ⟨gCT, by omega, by omega⟩ | (obtain ⟨f, e2, x1, x2⟩ := o2.no (by omega); exact RO.ofl (by rw [one_o (by omega) (by omega), e2, bnd_l]) (by omega) x1 x2) | (obtain ⟨f, e3, x1, x2⟩ := o3.no (by omega); exact RO.ofl (by rw [one_o (by omega) (by omega), e2, bnd_r, e3, bnd_l]) (by omega) x1 x2) | exact RO.ofr (by rw [one_o (by omega) (by omega), e2, bnd_r, e3, bnd_r]) (by omega) ⟨gCT, by omega, by omega⟩ | (rw [one_l (by omega) (by omega) (by omega) (by omega)]; exact o4.map (fun s es h => ⟨h.1, h.2.1, by have h2 := h.2.2; have hl := lea_up es; omega⟩)) | (rw [one_l (by omega) (by omega) (by omega) (by omega)]; exact o5.map (fun s es h => ⟨h.1, h.2.1, by have h2 := h.2.2; have hl := lea_up es; omega⟩)), gWH⟩)
            · refine r_iconst hx hb dX7_readOne_204 (by decide) (fun z34 ez34 => ?_)
              refine lv_goto (tgt := 209) hx hb dX7_readOne_205 (by decide) ?_
              exact r_zret hx hb hr hK hP hS hk (by omega) dX7_readOne_209 (show P_X7_readOne_d6 σ0 τ0 a1 b N mo q nn nm hc z34 σ29 τ21 from ⟨hR, hF, hFL, by omega, by first | exact RO.ofr ((one_l (by omega) (by omega) (by omega) (by omega)).trans (lea_n (by omega) (by omega))) (by omega) ⟨gCT, by omega, by omega⟩ | (exfalso; omega) | exact RO.ofk (one_x (by omega)) (by omega) (by omega) (by omega) | exact RO.ofk (one_4 (by omega) (by omega)) (by omega) (by omega) (by omega) | (obtain ⟨f, e1, x1, x2⟩ := o1.no (by omega); exact RO.ofl ((one_n (by omega) (by omega)).trans e1) (by omega) x1 x2) | exact RO.ofr ((one_n (by omega) (by omega)).trans e1) (by omega) ⟨gCT, by omega, by omega⟩ | (obtain ⟨f, e2, x1, x2⟩ := o2.no (by omega); exact RO.ofl (by rw [one_o (by omega) (by omega), e2, bnd_l]) (by omega) x1 x2) | (obtain ⟨f, e3, x1, x2⟩ := o3.no (by omega); exact RO.ofl (by rw [one_o (by omega) (by omega), e2, bnd_r, e3, bnd_l]) (by omega) x1 x2) | exact RO.ofr (by rw [one_o (by omega) (by omega), e2, bnd_r, e3, bnd_r]) (by omega) ⟨gCT, by omega, by omega⟩ | (rw [one_l (by omega) (by omega) (by omega) (by omega)]; exact o4.map (fun s es h => ⟨h.1, h.2.1, by have h2 := h.2.2; have hl := lea_up es; omega⟩)) | (rw [one_l (by omega) (by omega) (by omega) (by omega)]; exact o5.map (fun s es h => ⟨h.1, h.2.1, by have h2 := h.2.2; have hl := lea_up es; omega⟩)), gWH⟩)
        by_cases c35 : (σ0 1 9).toInt = 23
        · refine lv_tableIn (off := 177) (tgt := 249) hx hb dX7_readOne_72 (by omega) (by omega) (by rw [c35]; rfl) (by decide) ?_
          refine lv_aload_n hx hb dX7_readOne_249 rfl (lv_at hl 1 rfl) ?_
          refine fg_7_2 (k := 27) hx hb hts in_X7_readOne_7 hown hK hP (by decide) (by decide) (hts _ lk_X7_readOne_19) dX7_readOne_250 ?_
          refine lv_iload_n hx hb dX7_readOne_253 rfl (lv_at hl 0 rfl) ?_
          refine r_bipush hx hb dX7_readOne_254 (by decide) (fun z36 ez36 => ?_)
          refine r_iconst hx hb dX7_readOne_256 (by decide) (fun z37 ez37 => ?_)
          refine r_cVi (k := 24) (As := [.int (σ0 1 9), .int z36, .int z37]) (rest := []) ⟨hx, hb, hml, hown, hts⟩ hK hP hN hS (c_X6_add l D cA ad hI σ15 τ15 hR (σ0 1 9) z36 z37 (by omega)) (cwV 3 hts gX7_readOne_X6_add rfl rfl rfl (by decide +kernel) ⟨by decide, by decide⟩) (rv_Sent hK hP (by decide) (by decide)) rfl hl.1 rfl (Nat.le_of_ble_eq_true rfl) dX7_readOne_257 (Nat.zero_le _) (Nat.zero_le _) (fun r38 u38 H38 locs38 hp38 hP hS => ?_)
          obtain ⟨σ38, τ38⟩ := u38
          obtain ⟨hR, f38, fL38, hq38, hp38_0⟩ : P_X6_add σ15 τ15 (σ0 1 9) z36 z37 r38 σ38 τ38 := hp38
          have hP : va_P D vwCl (gw cA ad σ38 τ38) H38 := hP
          obtain rfl := FrL.nil fL38
          have hF := hF.step f38 (by decide)
          have gCT := gCT.ag (Agr.fr f38 (by decide))
          have gWH := gWH.ag (Agr.fr f38 (by decide))
          have t39 : (σ38 24 1).toInt = (σ15 24 1).toInt := congrArg Int32.toInt (f38.at 24 1 (by decide))
          have hr40 := rg_6_2 hR (k := 24) (by decide) (by decide)
          exact r_zret hx hb hr hK hP hS hk (by omega) dX7_readOne_260 (show P_X7_readOne_d6 σ0 τ0 a1 b N mo q nn nm hc r38 σ38 τ15 from ⟨hR, hF, hFL, by omega, by first | exact RO.ofr ((one_l (by omega) (by omega) (by omega) (by omega)).trans (lea_n (by omega) (by omega))) (by omega) ⟨gCT, by omega, by omega⟩ | (exfalso; omega) | exact RO.ofk (one_x (by omega)) (by omega) (by omega) (by omega) | exact RO.ofk (one_4 (by omega) (by omega)) (by omega) (by omega) (by omega) | (obtain ⟨f, e1, x1, x2⟩ := o1.no (by omega); exact RO.ofl ((one_n (by omega) (by omega)).trans e1) (by omega) x1 x2) | exact RO.ofr ((one_n (by omega) (by omega)).trans e1) (by omega) ⟨gCT, by omega, by omega⟩ | (obtain ⟨f, e2, x1, x2⟩ := o2.no (by omega); exact RO.ofl (by rw [one_o (by omega) (by omega), e2, bnd_l]) (by omega) x1 x2) | (obtain ⟨f, e3, x1, x2⟩ := o3.no (by omega); exact RO.ofl (by rw [one_o (by omega) (by omega), e2, bnd_r, e3, bnd_l]) (by omega) x1 x2) | exact RO.ofr (by rw [one_o (by omega) (by omega), e2, bnd_r, e3, bnd_r]) (by omega) ⟨gCT, by omega, by omega⟩ | (rw [one_l (by omega) (by omega) (by omega) (by omega)]; exact o4.map (fun s es h => ⟨h.1, h.2.1, by have h2 := h.2.2; have hl := lea_up es; omega⟩)) | (rw [one_l (by omega) (by omega) (by omega) (by omega)]; exact o5.map (fun s es h => ⟨h.1, h.2.1, by have h2 := h.2.2; have hl := lea_up es; omega⟩)), gWH⟩)
        by_cases c41 : (σ0 1 9).toInt = 24
        · refine lv_tableIn (off := 177) (tgt := 249) hx hb dX7_readOne_72 (by omega) (by omega) (by rw [c41]; rfl) (by decide) ?_
          refine lv_aload_n hx hb dX7_readOne_249 rfl (lv_at hl 1 rfl) ?_
          refine fg_7_2 (k := 27) hx hb hts in_X7_readOne_7 hown hK hP (by decide) (by decide) (hts _ lk_X7_readOne_19) dX7_readOne_250 ?_
          refine lv_iload_n hx hb dX7_readOne_253 rfl (lv_at hl 0 rfl) ?_
          refine r_bipush hx hb dX7_readOne_254 (by decide) (fun z42 ez42 => ?_)
          refine r_iconst hx hb dX7_readOne_256 (by decide) (fun z43 ez43 => ?_)
          refine r_cVi (k := 24) (As := [.int (σ0 1 9), .int z42, .int z43]) (rest := []) ⟨hx, hb, hml, hown, hts⟩ hK hP hN hS (c_X6_add l D cA ad hI σ15 τ15 hR (σ0 1 9) z42 z43 (by omega)) (cwV 3 hts gX7_readOne_X6_add rfl rfl rfl (by decide +kernel) ⟨by decide, by decide⟩) (rv_Sent hK hP (by decide) (by decide)) rfl hl.1 rfl (Nat.le_of_ble_eq_true rfl) dX7_readOne_257 (Nat.zero_le _) (Nat.zero_le _) (fun r44 u44 H44 locs44 hp44 hP hS => ?_)
          obtain ⟨σ44, τ44⟩ := u44
          obtain ⟨hR, f44, fL44, hq44, hp44_0⟩ : P_X6_add σ15 τ15 (σ0 1 9) z42 z43 r44 σ44 τ44 := hp44
          have hP : va_P D vwCl (gw cA ad σ44 τ44) H44 := hP
          obtain rfl := FrL.nil fL44
          have hF := hF.step f44 (by decide)
          have gCT := gCT.ag (Agr.fr f44 (by decide))
          have gWH := gWH.ag (Agr.fr f44 (by decide))
          have t45 : (σ44 24 1).toInt = (σ15 24 1).toInt := congrArg Int32.toInt (f44.at 24 1 (by decide))
          have hr46 := rg_6_2 hR (k := 24) (by decide) (by decide)
          exact r_zret hx hb hr hK hP hS hk (by omega) dX7_readOne_260 (show P_X7_readOne_d6 σ0 τ0 a1 b N mo q nn nm hc r44 σ44 τ15 from ⟨hR, hF, hFL, by omega, by first | exact RO.ofr ((one_l (by omega) (by omega) (by omega) (by omega)).trans (lea_n (by omega) (by omega))) (by omega) ⟨gCT, by omega, by omega⟩ | (exfalso; omega) | exact RO.ofk (one_x (by omega)) (by omega) (by omega) (by omega) | exact RO.ofk (one_4 (by omega) (by omega)) (by omega) (by omega) (by omega) | (obtain ⟨f, e1, x1, x2⟩ := o1.no (by omega); exact RO.ofl ((one_n (by omega) (by omega)).trans e1) (by omega) x1 x2) | exact RO.ofr ((one_n (by omega) (by omega)).trans e1) (by omega) ⟨gCT, by omega, by omega⟩ | (obtain ⟨f, e2, x1, x2⟩ := o2.no (by omega); exact RO.ofl (by rw [one_o (by omega) (by omega), e2, bnd_l]) (by omega) x1 x2) | (obtain ⟨f, e3, x1, x2⟩ := o3.no (by omega); exact RO.ofl (by rw [one_o (by omega) (by omega), e2, bnd_r, e3, bnd_l]) (by omega) x1 x2) | exact RO.ofr (by rw [one_o (by omega) (by omega), e2, bnd_r, e3, bnd_r]) (by omega) ⟨gCT, by omega, by omega⟩ | (rw [one_l (by omega) (by omega) (by omega) (by omega)]; exact o4.map (fun s es h => ⟨h.1, h.2.1, by have h2 := h.2.2; have hl := lea_up es; omega⟩)) | (rw [one_l (by omega) (by omega) (by omega) (by omega)]; exact o5.map (fun s es h => ⟨h.1, h.2.1, by have h2 := h.2.2; have hl := lea_up es; omega⟩)), gWH⟩)
        by_cases c47 : (σ0 1 9).toInt = 25
        · refine lv_tableIn (off := 166) (tgt := 238) hx hb dX7_readOne_72 (by omega) (by omega) (by rw [c47]; rfl) (by decide) ?_
          refine lv_aload_n hx hb dX7_readOne_238 rfl (lv_at hl 1 rfl) ?_
          refine r_cVi (k := 27) (As := []) (rest := []) ⟨hx, hb, hml, hown, hts⟩ hK hP hN hS (c_X7_readOn l D cA ad hI σ15 τ15 hR b N mo _ (nn + 1) nm hc (tkq b N mo q) (by omega) (by omega) (by omega) gCT gWH) (cwV 0 hts gX7_readOne_X7_readOn rfl rfl rfl (by decide +kernel) ⟨by decide, by decide⟩) (rv_SText hK hP (by decide) (by decide)) rfl hl.1 rfl (Nat.le_of_ble_eq_true rfl) dX7_readOne_239 (Nat.zero_le _) (Nat.zero_le _) (fun r48 u48 H48 locs48 hp48 hP hS => ?_)
          obtain ⟨σ48, τ48⟩ := u48
          obtain ⟨hR, f48, fL48, hq48, hp48_0, gnWH⟩ : P_X7_readOn σ15 τ15 b N mo _ (nn + 1) nm hc (tkq b N mo q) r48 σ48 τ48 := hp48
          have o4 := hp48_0
          have hP : va_P D vwCl (gw cA ad σ48 τ48) H48 := hP
          have hFL := hFL.step fL48 (by decide)
          have gWH := gWH.agL (AgrL.fr fL48 (by decide))
          have hF := hF.step f48 (by decide)
          have gWH := gWH.ag (Agr.fr f48 (by decide))
          have t49 : (σ48 24 1).toInt = (σ15 24 1).toInt := congrArg Int32.toInt (f48.at 24 1 (by decide))
          have hr50 := rg_6_2 hR (k := 24) (by decide) (by decide)
          exact r_zret hx hb hr hK hP hS hk (by omega) dX7_readOne_242 (show P_X7_readOne_d6 σ0 τ0 a1 b N mo q nn nm hc r48 σ48 τ48 from ⟨hR, hF, hFL, by omega, by first | exact RO.ofr ((one_l (by omega) (by omega) (by omega) (by omega)).trans (lea_n (by omega) (by omega))) (by omega) ⟨gCT, by omega, by omega⟩ | (exfalso; omega) | exact RO.ofk (one_x (by omega)) (by omega) (by omega) (by omega) | exact RO.ofk (one_4 (by omega) (by omega)) (by omega) (by omega) (by omega) | (obtain ⟨f, e1, x1, x2⟩ := o1.no (by omega); exact RO.ofl ((one_n (by omega) (by omega)).trans e1) (by omega) x1 x2) | exact RO.ofr ((one_n (by omega) (by omega)).trans e1) (by omega) ⟨gCT, by omega, by omega⟩ | (obtain ⟨f, e2, x1, x2⟩ := o2.no (by omega); exact RO.ofl (by rw [one_o (by omega) (by omega), e2, bnd_l]) (by omega) x1 x2) | (obtain ⟨f, e3, x1, x2⟩ := o3.no (by omega); exact RO.ofl (by rw [one_o (by omega) (by omega), e2, bnd_r, e3, bnd_l]) (by omega) x1 x2) | exact RO.ofr (by rw [one_o (by omega) (by omega), e2, bnd_r, e3, bnd_r]) (by omega) ⟨gCT, by omega, by omega⟩ | (rw [one_l (by omega) (by omega) (by omega) (by omega)]; exact o4.map (fun s es h => ⟨h.1, h.2.1, by have h2 := h.2.2; have hl := lea_up es; omega⟩)) | (rw [one_l (by omega) (by omega) (by omega) (by omega)]; exact o5.map (fun s es h => ⟨h.1, h.2.1, by have h2 := h.2.2; have hl := lea_up es; omega⟩)), gWH⟩)
        by_cases c51 : (σ0 1 9).toInt = 26
        · refine lv_tableIn (off := 177) (tgt := 249) hx hb dX7_readOne_72 (by omega) (by omega) (by rw [c51]; rfl) (by decide) ?_
          refine lv_aload_n hx hb dX7_readOne_249 rfl (lv_at hl 1 rfl) ?_
          refine fg_7_2 (k := 27) hx hb hts in_X7_readOne_7 hown hK hP (by decide) (by decide) (hts _ lk_X7_readOne_19) dX7_readOne_250 ?_
          refine lv_iload_n hx hb dX7_readOne_253 rfl (lv_at hl 0 rfl) ?_
          refine r_bipush hx hb dX7_readOne_254 (by decide) (fun z52 ez52 => ?_)
          refine r_iconst hx hb dX7_readOne_256 (by decide) (fun z53 ez53 => ?_)
          refine r_cVi (k := 24) (As := [.int (σ0 1 9), .int z52, .int z53]) (rest := []) ⟨hx, hb, hml, hown, hts⟩ hK hP hN hS (c_X6_add l D cA ad hI σ15 τ15 hR (σ0 1 9) z52 z53 (by omega)) (cwV 3 hts gX7_readOne_X6_add rfl rfl rfl (by decide +kernel) ⟨by decide, by decide⟩) (rv_Sent hK hP (by decide) (by decide)) rfl hl.1 rfl (Nat.le_of_ble_eq_true rfl) dX7_readOne_257 (Nat.zero_le _) (Nat.zero_le _) (fun r54 u54 H54 locs54 hp54 hP hS => ?_)
          obtain ⟨σ54, τ54⟩ := u54
          obtain ⟨hR, f54, fL54, hq54, hp54_0⟩ : P_X6_add σ15 τ15 (σ0 1 9) z52 z53 r54 σ54 τ54 := hp54
          have hP : va_P D vwCl (gw cA ad σ54 τ54) H54 := hP
          obtain rfl := FrL.nil fL54
          have hF := hF.step f54 (by decide)
          have gCT := gCT.ag (Agr.fr f54 (by decide))
          have gWH := gWH.ag (Agr.fr f54 (by decide))
          have t55 : (σ54 24 1).toInt = (σ15 24 1).toInt := congrArg Int32.toInt (f54.at 24 1 (by decide))
          have hr56 := rg_6_2 hR (k := 24) (by decide) (by decide)
          exact r_zret hx hb hr hK hP hS hk (by omega) dX7_readOne_260 (show P_X7_readOne_d6 σ0 τ0 a1 b N mo q nn nm hc r54 σ54 τ15 from ⟨hR, hF, hFL, by omega, by first | exact RO.ofr ((one_l (by omega) (by omega) (by omega) (by omega)).trans (lea_n (by omega) (by omega))) (by omega) ⟨gCT, by omega, by omega⟩ | (exfalso; omega) | exact RO.ofk (one_x (by omega)) (by omega) (by omega) (by omega) | exact RO.ofk (one_4 (by omega) (by omega)) (by omega) (by omega) (by omega) | (obtain ⟨f, e1, x1, x2⟩ := o1.no (by omega); exact RO.ofl ((one_n (by omega) (by omega)).trans e1) (by omega) x1 x2) | exact RO.ofr ((one_n (by omega) (by omega)).trans e1) (by omega) ⟨gCT, by omega, by omega⟩ | (obtain ⟨f, e2, x1, x2⟩ := o2.no (by omega); exact RO.ofl (by rw [one_o (by omega) (by omega), e2, bnd_l]) (by omega) x1 x2) | (obtain ⟨f, e3, x1, x2⟩ := o3.no (by omega); exact RO.ofl (by rw [one_o (by omega) (by omega), e2, bnd_r, e3, bnd_l]) (by omega) x1 x2) | exact RO.ofr (by rw [one_o (by omega) (by omega), e2, bnd_r, e3, bnd_r]) (by omega) ⟨gCT, by omega, by omega⟩ | (rw [one_l (by omega) (by omega) (by omega) (by omega)]; exact o4.map (fun s es h => ⟨h.1, h.2.1, by have h2 := h.2.2; have hl := lea_up es; omega⟩)) | (rw [one_l (by omega) (by omega) (by omega) (by omega)]; exact o5.map (fun s es h => ⟨h.1, h.2.1, by have h2 := h.2.2; have hl := lea_up es; omega⟩)), gWH⟩)
        by_cases c57 : (σ0 1 9).toInt = 27
        · refine lv_tableIn (off := 171) (tgt := 243) hx hb dX7_readOne_72 (by omega) (by omega) (by rw [c57]; rfl) (by decide) ?_
          refine lv_aload_n hx hb dX7_readOne_243 rfl (lv_at hl 1 rfl) ?_
          refine lv_iload_n hx hb dX7_readOne_244 rfl (lv_at hl 0 rfl) ?_
          refine r_cVi (k := 27) (As := [.int (σ0 1 9)]) (rest := []) ⟨hx, hb, hml, hown, hts⟩ hK hP hN hS (c_X7_readMeasure l D cA ad hI σ15 τ15 hR (σ0 1 9) b N mo _ (nn + 1) nm hc (tkq b N mo q) (by omega) (by omega) (by omega) (by omega) gCT gWH) (cwV 1 hts gX7_readOne_X7_readMeasure rfl rfl rfl (by decide +kernel) ⟨by decide, by decide⟩) (rv_SText hK hP (by decide) (by decide)) rfl hl.1 rfl (Nat.le_of_ble_eq_true rfl) dX7_readOne_245 (Nat.zero_le _) (Nat.zero_le _) (fun r58 u58 H58 locs58 hp58 hP hS => ?_)
          obtain ⟨σ58, τ58⟩ := u58
          obtain ⟨hR, f58, fL58, hq58, hp58_0, gnWH⟩ : P_X7_readMeasure σ15 τ15 (σ0 1 9) b N mo _ (nn + 1) nm hc (tkq b N mo q) r58 σ58 τ58 := hp58
          have o5 := hp58_0
          have hP : va_P D vwCl (gw cA ad σ58 τ58) H58 := hP
          have hFL := hFL.step fL58 (by decide)
          have gWH := gWH.agL (AgrL.fr fL58 (by decide))
          have hF := hF.step f58 (by decide)
          have gWH := gWH.ag (Agr.fr f58 (by decide))
          have t59 : (σ58 24 1).toInt = (σ15 24 1).toInt := congrArg Int32.toInt (f58.at 24 1 (by decide))
          have hr60 := rg_6_2 hR (k := 24) (by decide) (by decide)
          exact r_zret hx hb hr hK hP hS hk (by omega) dX7_readOne_248 (show P_X7_readOne_d6 σ0 τ0 a1 b N mo q nn nm hc r58 σ58 τ58 from ⟨hR, hF, hFL, by omega, by first | exact RO.ofr ((one_l (by omega) (by omega) (by omega) (by omega)).trans (lea_n (by omega) (by omega))) (by omega) ⟨gCT, by omega, by omega⟩ | (exfalso; omega) | exact RO.ofk (one_x (by omega)) (by omega) (by omega) (by omega) | exact RO.ofk (one_4 (by omega) (by omega)) (by omega) (by omega) (by omega) | (obtain ⟨f, e1, x1, x2⟩ := o1.no (by omega); exact RO.ofl ((one_n (by omega) (by omega)).trans e1) (by omega) x1 x2) | exact RO.ofr ((one_n (by omega) (by omega)).trans e1) (by omega) ⟨gCT, by omega, by omega⟩ | (obtain ⟨f, e2, x1, x2⟩ := o2.no (by omega); exact RO.ofl (by rw [one_o (by omega) (by omega), e2, bnd_l]) (by omega) x1 x2) | (obtain ⟨f, e3, x1, x2⟩ := o3.no (by omega); exact RO.ofl (by rw [one_o (by omega) (by omega), e2, bnd_r, e3, bnd_l]) (by omega) x1 x2) | exact RO.ofr (by rw [one_o (by omega) (by omega), e2, bnd_r, e3, bnd_r]) (by omega) ⟨gCT, by omega, by omega⟩ | (rw [one_l (by omega) (by omega) (by omega) (by omega)]; exact o4.map (fun s es h => ⟨h.1, h.2.1, by have h2 := h.2.2; have hl := lea_up es; omega⟩)) | (rw [one_l (by omega) (by omega) (by omega) (by omega)]; exact o5.map (fun s es h => ⟨h.1, h.2.1, by have h2 := h.2.2; have hl := lea_up es; omega⟩)), gWH⟩)
        by_cases c61 : (σ0 1 9).toInt = 28
        · refine lv_tableIn (off := 171) (tgt := 243) hx hb dX7_readOne_72 (by omega) (by omega) (by rw [c61]; rfl) (by decide) ?_
          refine lv_aload_n hx hb dX7_readOne_243 rfl (lv_at hl 1 rfl) ?_
          refine lv_iload_n hx hb dX7_readOne_244 rfl (lv_at hl 0 rfl) ?_
          refine r_cVi (k := 27) (As := [.int (σ0 1 9)]) (rest := []) ⟨hx, hb, hml, hown, hts⟩ hK hP hN hS (c_X7_readMeasure l D cA ad hI σ15 τ15 hR (σ0 1 9) b N mo _ (nn + 1) nm hc (tkq b N mo q) (by omega) (by omega) (by omega) (by omega) gCT gWH) (cwV 1 hts gX7_readOne_X7_readMeasure rfl rfl rfl (by decide +kernel) ⟨by decide, by decide⟩) (rv_SText hK hP (by decide) (by decide)) rfl hl.1 rfl (Nat.le_of_ble_eq_true rfl) dX7_readOne_245 (Nat.zero_le _) (Nat.zero_le _) (fun r62 u62 H62 locs62 hp62 hP hS => ?_)
          obtain ⟨σ62, τ62⟩ := u62
          obtain ⟨hR, f62, fL62, hq62, hp62_0, gnWH⟩ : P_X7_readMeasure σ15 τ15 (σ0 1 9) b N mo _ (nn + 1) nm hc (tkq b N mo q) r62 σ62 τ62 := hp62
          have o5 := hp62_0
          have hP : va_P D vwCl (gw cA ad σ62 τ62) H62 := hP
          have hFL := hFL.step fL62 (by decide)
          have gWH := gWH.agL (AgrL.fr fL62 (by decide))
          have hF := hF.step f62 (by decide)
          have gWH := gWH.ag (Agr.fr f62 (by decide))
          have t63 : (σ62 24 1).toInt = (σ15 24 1).toInt := congrArg Int32.toInt (f62.at 24 1 (by decide))
          have hr64 := rg_6_2 hR (k := 24) (by decide) (by decide)
          exact r_zret hx hb hr hK hP hS hk (by omega) dX7_readOne_248 (show P_X7_readOne_d6 σ0 τ0 a1 b N mo q nn nm hc r62 σ62 τ62 from ⟨hR, hF, hFL, by omega, by first | exact RO.ofr ((one_l (by omega) (by omega) (by omega) (by omega)).trans (lea_n (by omega) (by omega))) (by omega) ⟨gCT, by omega, by omega⟩ | (exfalso; omega) | exact RO.ofk (one_x (by omega)) (by omega) (by omega) (by omega) | exact RO.ofk (one_4 (by omega) (by omega)) (by omega) (by omega) (by omega) | (obtain ⟨f, e1, x1, x2⟩ := o1.no (by omega); exact RO.ofl ((one_n (by omega) (by omega)).trans e1) (by omega) x1 x2) | exact RO.ofr ((one_n (by omega) (by omega)).trans e1) (by omega) ⟨gCT, by omega, by omega⟩ | (obtain ⟨f, e2, x1, x2⟩ := o2.no (by omega); exact RO.ofl (by rw [one_o (by omega) (by omega), e2, bnd_l]) (by omega) x1 x2) | (obtain ⟨f, e3, x1, x2⟩ := o3.no (by omega); exact RO.ofl (by rw [one_o (by omega) (by omega), e2, bnd_r, e3, bnd_l]) (by omega) x1 x2) | exact RO.ofr (by rw [one_o (by omega) (by omega), e2, bnd_r, e3, bnd_r]) (by omega) ⟨gCT, by omega, by omega⟩ | (rw [one_l (by omega) (by omega) (by omega) (by omega)]; exact o4.map (fun s es h => ⟨h.1, h.2.1, by have h2 := h.2.2; have hl := lea_up es; omega⟩)) | (rw [one_l (by omega) (by omega) (by omega) (by omega)]; exact o5.map (fun s es h => ⟨h.1, h.2.1, by have h2 := h.2.2; have hl := lea_up es; omega⟩)), gWH⟩)
        by_cases c65 : (σ0 1 9).toInt = 29
        · refine lv_tableIn (off := 171) (tgt := 243) hx hb dX7_readOne_72 (by omega) (by omega) (by rw [c65]; rfl) (by decide) ?_
          refine lv_aload_n hx hb dX7_readOne_243 rfl (lv_at hl 1 rfl) ?_
          refine lv_iload_n hx hb dX7_readOne_244 rfl (lv_at hl 0 rfl) ?_
          refine r_cVi (k := 27) (As := [.int (σ0 1 9)]) (rest := []) ⟨hx, hb, hml, hown, hts⟩ hK hP hN hS (c_X7_readMeasure l D cA ad hI σ15 τ15 hR (σ0 1 9) b N mo _ (nn + 1) nm hc (tkq b N mo q) (by omega) (by omega) (by omega) (by omega) gCT gWH) (cwV 1 hts gX7_readOne_X7_readMeasure rfl rfl rfl (by decide +kernel) ⟨by decide, by decide⟩) (rv_SText hK hP (by decide) (by decide)) rfl hl.1 rfl (Nat.le_of_ble_eq_true rfl) dX7_readOne_245 (Nat.zero_le _) (Nat.zero_le _) (fun r66 u66 H66 locs66 hp66 hP hS => ?_)
          obtain ⟨σ66, τ66⟩ := u66
          obtain ⟨hR, f66, fL66, hq66, hp66_0, gnWH⟩ : P_X7_readMeasure σ15 τ15 (σ0 1 9) b N mo _ (nn + 1) nm hc (tkq b N mo q) r66 σ66 τ66 := hp66
          have o5 := hp66_0
          have hP : va_P D vwCl (gw cA ad σ66 τ66) H66 := hP
          have hFL := hFL.step fL66 (by decide)
          have gWH := gWH.agL (AgrL.fr fL66 (by decide))
          have hF := hF.step f66 (by decide)
          have gWH := gWH.ag (Agr.fr f66 (by decide))
          have t67 : (σ66 24 1).toInt = (σ15 24 1).toInt := congrArg Int32.toInt (f66.at 24 1 (by decide))
          have hr68 := rg_6_2 hR (k := 24) (by decide) (by decide)
          exact r_zret hx hb hr hK hP hS hk (by omega) dX7_readOne_248 (show P_X7_readOne_d6 σ0 τ0 a1 b N mo q nn nm hc r66 σ66 τ66 from ⟨hR, hF, hFL, by omega, by first | exact RO.ofr ((one_l (by omega) (by omega) (by omega) (by omega)).trans (lea_n (by omega) (by omega))) (by omega) ⟨gCT, by omega, by omega⟩ | (exfalso; omega) | exact RO.ofk (one_x (by omega)) (by omega) (by omega) (by omega) | exact RO.ofk (one_4 (by omega) (by omega)) (by omega) (by omega) (by omega) | (obtain ⟨f, e1, x1, x2⟩ := o1.no (by omega); exact RO.ofl ((one_n (by omega) (by omega)).trans e1) (by omega) x1 x2) | exact RO.ofr ((one_n (by omega) (by omega)).trans e1) (by omega) ⟨gCT, by omega, by omega⟩ | (obtain ⟨f, e2, x1, x2⟩ := o2.no (by omega); exact RO.ofl (by rw [one_o (by omega) (by omega), e2, bnd_l]) (by omega) x1 x2) | (obtain ⟨f, e3, x1, x2⟩ := o3.no (by omega); exact RO.ofl (by rw [one_o (by omega) (by omega), e2, bnd_r, e3, bnd_l]) (by omega) x1 x2) | exact RO.ofr (by rw [one_o (by omega) (by omega), e2, bnd_r, e3, bnd_r]) (by omega) ⟨gCT, by omega, by omega⟩ | (rw [one_l (by omega) (by omega) (by omega) (by omega)]; exact o4.map (fun s es h => ⟨h.1, h.2.1, by have h2 := h.2.2; have hl := lea_up es; omega⟩)) | (rw [one_l (by omega) (by omega) (by omega) (by omega)]; exact o5.map (fun s es h => ⟨h.1, h.2.1, by have h2 := h.2.2; have hl := lea_up es; omega⟩)), gWH⟩)
        by_cases c69 : (σ0 1 9).toInt = 30
        · refine lv_tableIn (off := 171) (tgt := 243) hx hb dX7_readOne_72 (by omega) (by omega) (by rw [c69]; rfl) (by decide) ?_
          refine lv_aload_n hx hb dX7_readOne_243 rfl (lv_at hl 1 rfl) ?_
          refine lv_iload_n hx hb dX7_readOne_244 rfl (lv_at hl 0 rfl) ?_
          refine r_cVi (k := 27) (As := [.int (σ0 1 9)]) (rest := []) ⟨hx, hb, hml, hown, hts⟩ hK hP hN hS (c_X7_readMeasure l D cA ad hI σ15 τ15 hR (σ0 1 9) b N mo _ (nn + 1) nm hc (tkq b N mo q) (by omega) (by omega) (by omega) (by omega) gCT gWH) (cwV 1 hts gX7_readOne_X7_readMeasure rfl rfl rfl (by decide +kernel) ⟨by decide, by decide⟩) (rv_SText hK hP (by decide) (by decide)) rfl hl.1 rfl (Nat.le_of_ble_eq_true rfl) dX7_readOne_245 (Nat.zero_le _) (Nat.zero_le _) (fun r70 u70 H70 locs70 hp70 hP hS => ?_)
          obtain ⟨σ70, τ70⟩ := u70
          obtain ⟨hR, f70, fL70, hq70, hp70_0, gnWH⟩ : P_X7_readMeasure σ15 τ15 (σ0 1 9) b N mo _ (nn + 1) nm hc (tkq b N mo q) r70 σ70 τ70 := hp70
          have o5 := hp70_0
          have hP : va_P D vwCl (gw cA ad σ70 τ70) H70 := hP
          have hFL := hFL.step fL70 (by decide)
          have gWH := gWH.agL (AgrL.fr fL70 (by decide))
          have hF := hF.step f70 (by decide)
          have gWH := gWH.ag (Agr.fr f70 (by decide))
          have t71 : (σ70 24 1).toInt = (σ15 24 1).toInt := congrArg Int32.toInt (f70.at 24 1 (by decide))
          have hr72 := rg_6_2 hR (k := 24) (by decide) (by decide)
          exact r_zret hx hb hr hK hP hS hk (by omega) dX7_readOne_248 (show P_X7_readOne_d6 σ0 τ0 a1 b N mo q nn nm hc r70 σ70 τ70 from ⟨hR, hF, hFL, by omega, by first | exact RO.ofr ((one_l (by omega) (by omega) (by omega) (by omega)).trans (lea_n (by omega) (by omega))) (by omega) ⟨gCT, by omega, by omega⟩ | (exfalso; omega) | exact RO.ofk (one_x (by omega)) (by omega) (by omega) (by omega) | exact RO.ofk (one_4 (by omega) (by omega)) (by omega) (by omega) (by omega) | (obtain ⟨f, e1, x1, x2⟩ := o1.no (by omega); exact RO.ofl ((one_n (by omega) (by omega)).trans e1) (by omega) x1 x2) | exact RO.ofr ((one_n (by omega) (by omega)).trans e1) (by omega) ⟨gCT, by omega, by omega⟩ | (obtain ⟨f, e2, x1, x2⟩ := o2.no (by omega); exact RO.ofl (by rw [one_o (by omega) (by omega), e2, bnd_l]) (by omega) x1 x2) | (obtain ⟨f, e3, x1, x2⟩ := o3.no (by omega); exact RO.ofl (by rw [one_o (by omega) (by omega), e2, bnd_r, e3, bnd_l]) (by omega) x1 x2) | exact RO.ofr (by rw [one_o (by omega) (by omega), e2, bnd_r, e3, bnd_r]) (by omega) ⟨gCT, by omega, by omega⟩ | (rw [one_l (by omega) (by omega) (by omega) (by omega)]; exact o4.map (fun s es h => ⟨h.1, h.2.1, by have h2 := h.2.2; have hl := lea_up es; omega⟩)) | (rw [one_l (by omega) (by omega) (by omega) (by omega)]; exact o5.map (fun s es h => ⟨h.1, h.2.1, by have h2 := h.2.2; have hl := lea_up es; omega⟩)), gWH⟩)
        by_cases c73 : (σ0 1 9).toInt = 31
        · refine lv_tableIn (off := 177) (tgt := 249) hx hb dX7_readOne_72 (by omega) (by omega) (by rw [c73]; rfl) (by decide) ?_
          refine lv_aload_n hx hb dX7_readOne_249 rfl (lv_at hl 1 rfl) ?_
          refine fg_7_2 (k := 27) hx hb hts in_X7_readOne_7 hown hK hP (by decide) (by decide) (hts _ lk_X7_readOne_19) dX7_readOne_250 ?_
          refine lv_iload_n hx hb dX7_readOne_253 rfl (lv_at hl 0 rfl) ?_
          refine r_bipush hx hb dX7_readOne_254 (by decide) (fun z74 ez74 => ?_)
          refine r_iconst hx hb dX7_readOne_256 (by decide) (fun z75 ez75 => ?_)
          refine r_cVi (k := 24) (As := [.int (σ0 1 9), .int z74, .int z75]) (rest := []) ⟨hx, hb, hml, hown, hts⟩ hK hP hN hS (c_X6_add l D cA ad hI σ15 τ15 hR (σ0 1 9) z74 z75 (by omega)) (cwV 3 hts gX7_readOne_X6_add rfl rfl rfl (by decide +kernel) ⟨by decide, by decide⟩) (rv_Sent hK hP (by decide) (by decide)) rfl hl.1 rfl (Nat.le_of_ble_eq_true rfl) dX7_readOne_257 (Nat.zero_le _) (Nat.zero_le _) (fun r76 u76 H76 locs76 hp76 hP hS => ?_)
          obtain ⟨σ76, τ76⟩ := u76
          obtain ⟨hR, f76, fL76, hq76, hp76_0⟩ : P_X6_add σ15 τ15 (σ0 1 9) z74 z75 r76 σ76 τ76 := hp76
          have hP : va_P D vwCl (gw cA ad σ76 τ76) H76 := hP
          obtain rfl := FrL.nil fL76
          have hF := hF.step f76 (by decide)
          have gCT := gCT.ag (Agr.fr f76 (by decide))
          have gWH := gWH.ag (Agr.fr f76 (by decide))
          have t77 : (σ76 24 1).toInt = (σ15 24 1).toInt := congrArg Int32.toInt (f76.at 24 1 (by decide))
          have hr78 := rg_6_2 hR (k := 24) (by decide) (by decide)
          exact r_zret hx hb hr hK hP hS hk (by omega) dX7_readOne_260 (show P_X7_readOne_d6 σ0 τ0 a1 b N mo q nn nm hc r76 σ76 τ15 from ⟨hR, hF, hFL, by omega, by first | exact RO.ofr ((one_l (by omega) (by omega) (by omega) (by omega)).trans (lea_n (by omega) (by omega))) (by omega) ⟨gCT, by omega, by omega⟩ | (exfalso; omega) | exact RO.ofk (one_x (by omega)) (by omega) (by omega) (by omega) | exact RO.ofk (one_4 (by omega) (by omega)) (by omega) (by omega) (by omega) | (obtain ⟨f, e1, x1, x2⟩ := o1.no (by omega); exact RO.ofl ((one_n (by omega) (by omega)).trans e1) (by omega) x1 x2) | exact RO.ofr ((one_n (by omega) (by omega)).trans e1) (by omega) ⟨gCT, by omega, by omega⟩ | (obtain ⟨f, e2, x1, x2⟩ := o2.no (by omega); exact RO.ofl (by rw [one_o (by omega) (by omega), e2, bnd_l]) (by omega) x1 x2) | (obtain ⟨f, e3, x1, x2⟩ := o3.no (by omega); exact RO.ofl (by rw [one_o (by omega) (by omega), e2, bnd_r, e3, bnd_l]) (by omega) x1 x2) | exact RO.ofr (by rw [one_o (by omega) (by omega), e2, bnd_r, e3, bnd_r]) (by omega) ⟨gCT, by omega, by omega⟩ | (rw [one_l (by omega) (by omega) (by omega) (by omega)]; exact o4.map (fun s es h => ⟨h.1, h.2.1, by have h2 := h.2.2; have hl := lea_up es; omega⟩)) | (rw [one_l (by omega) (by omega) (by omega) (by omega)]; exact o5.map (fun s es h => ⟨h.1, h.2.1, by have h2 := h.2.2; have hl := lea_up es; omega⟩)), gWH⟩)
        by_cases c79 : (σ0 1 9).toInt = 32
        · refine lv_tableIn (off := 177) (tgt := 249) hx hb dX7_readOne_72 (by omega) (by omega) (by rw [c79]; rfl) (by decide) ?_
          refine lv_aload_n hx hb dX7_readOne_249 rfl (lv_at hl 1 rfl) ?_
          refine fg_7_2 (k := 27) hx hb hts in_X7_readOne_7 hown hK hP (by decide) (by decide) (hts _ lk_X7_readOne_19) dX7_readOne_250 ?_
          refine lv_iload_n hx hb dX7_readOne_253 rfl (lv_at hl 0 rfl) ?_
          refine r_bipush hx hb dX7_readOne_254 (by decide) (fun z80 ez80 => ?_)
          refine r_iconst hx hb dX7_readOne_256 (by decide) (fun z81 ez81 => ?_)
          refine r_cVi (k := 24) (As := [.int (σ0 1 9), .int z80, .int z81]) (rest := []) ⟨hx, hb, hml, hown, hts⟩ hK hP hN hS (c_X6_add l D cA ad hI σ15 τ15 hR (σ0 1 9) z80 z81 (by omega)) (cwV 3 hts gX7_readOne_X6_add rfl rfl rfl (by decide +kernel) ⟨by decide, by decide⟩) (rv_Sent hK hP (by decide) (by decide)) rfl hl.1 rfl (Nat.le_of_ble_eq_true rfl) dX7_readOne_257 (Nat.zero_le _) (Nat.zero_le _) (fun r82 u82 H82 locs82 hp82 hP hS => ?_)
          obtain ⟨σ82, τ82⟩ := u82
          obtain ⟨hR, f82, fL82, hq82, hp82_0⟩ : P_X6_add σ15 τ15 (σ0 1 9) z80 z81 r82 σ82 τ82 := hp82
          have hP : va_P D vwCl (gw cA ad σ82 τ82) H82 := hP
          obtain rfl := FrL.nil fL82
          have hF := hF.step f82 (by decide)
          have gCT := gCT.ag (Agr.fr f82 (by decide))
          have gWH := gWH.ag (Agr.fr f82 (by decide))
          have t83 : (σ82 24 1).toInt = (σ15 24 1).toInt := congrArg Int32.toInt (f82.at 24 1 (by decide))
          have hr84 := rg_6_2 hR (k := 24) (by decide) (by decide)
          exact r_zret hx hb hr hK hP hS hk (by omega) dX7_readOne_260 (show P_X7_readOne_d6 σ0 τ0 a1 b N mo q nn nm hc r82 σ82 τ15 from ⟨hR, hF, hFL, by omega, by first | exact RO.ofr ((one_l (by omega) (by omega) (by omega) (by omega)).trans (lea_n (by omega) (by omega))) (by omega) ⟨gCT, by omega, by omega⟩ | (exfalso; omega) | exact RO.ofk (one_x (by omega)) (by omega) (by omega) (by omega) | exact RO.ofk (one_4 (by omega) (by omega)) (by omega) (by omega) (by omega) | (obtain ⟨f, e1, x1, x2⟩ := o1.no (by omega); exact RO.ofl ((one_n (by omega) (by omega)).trans e1) (by omega) x1 x2) | exact RO.ofr ((one_n (by omega) (by omega)).trans e1) (by omega) ⟨gCT, by omega, by omega⟩ | (obtain ⟨f, e2, x1, x2⟩ := o2.no (by omega); exact RO.ofl (by rw [one_o (by omega) (by omega), e2, bnd_l]) (by omega) x1 x2) | (obtain ⟨f, e3, x1, x2⟩ := o3.no (by omega); exact RO.ofl (by rw [one_o (by omega) (by omega), e2, bnd_r, e3, bnd_l]) (by omega) x1 x2) | exact RO.ofr (by rw [one_o (by omega) (by omega), e2, bnd_r, e3, bnd_r]) (by omega) ⟨gCT, by omega, by omega⟩ | (rw [one_l (by omega) (by omega) (by omega) (by omega)]; exact o4.map (fun s es h => ⟨h.1, h.2.1, by have h2 := h.2.2; have hl := lea_up es; omega⟩)) | (rw [one_l (by omega) (by omega) (by omega) (by omega)]; exact o5.map (fun s es h => ⟨h.1, h.2.1, by have h2 := h.2.2; have hl := lea_up es; omega⟩)), gWH⟩)
        by_cases c85 : (σ0 1 9).toInt = 33
        · refine lv_tableIn (off := 177) (tgt := 249) hx hb dX7_readOne_72 (by omega) (by omega) (by rw [c85]; rfl) (by decide) ?_
          refine lv_aload_n hx hb dX7_readOne_249 rfl (lv_at hl 1 rfl) ?_
          refine fg_7_2 (k := 27) hx hb hts in_X7_readOne_7 hown hK hP (by decide) (by decide) (hts _ lk_X7_readOne_19) dX7_readOne_250 ?_
          refine lv_iload_n hx hb dX7_readOne_253 rfl (lv_at hl 0 rfl) ?_
          refine r_bipush hx hb dX7_readOne_254 (by decide) (fun z86 ez86 => ?_)
          refine r_iconst hx hb dX7_readOne_256 (by decide) (fun z87 ez87 => ?_)
          refine r_cVi (k := 24) (As := [.int (σ0 1 9), .int z86, .int z87]) (rest := []) ⟨hx, hb, hml, hown, hts⟩ hK hP hN hS (c_X6_add l D cA ad hI σ15 τ15 hR (σ0 1 9) z86 z87 (by omega)) (cwV 3 hts gX7_readOne_X6_add rfl rfl rfl (by decide +kernel) ⟨by decide, by decide⟩) (rv_Sent hK hP (by decide) (by decide)) rfl hl.1 rfl (Nat.le_of_ble_eq_true rfl) dX7_readOne_257 (Nat.zero_le _) (Nat.zero_le _) (fun r88 u88 H88 locs88 hp88 hP hS => ?_)
          obtain ⟨σ88, τ88⟩ := u88
          obtain ⟨hR, f88, fL88, hq88, hp88_0⟩ : P_X6_add σ15 τ15 (σ0 1 9) z86 z87 r88 σ88 τ88 := hp88
          have hP : va_P D vwCl (gw cA ad σ88 τ88) H88 := hP
          obtain rfl := FrL.nil fL88
          have hF := hF.step f88 (by decide)
          have gCT := gCT.ag (Agr.fr f88 (by decide))
          have gWH := gWH.ag (Agr.fr f88 (by decide))
          have t89 : (σ88 24 1).toInt = (σ15 24 1).toInt := congrArg Int32.toInt (f88.at 24 1 (by decide))
          have hr90 := rg_6_2 hR (k := 24) (by decide) (by decide)
          exact r_zret hx hb hr hK hP hS hk (by omega) dX7_readOne_260 (show P_X7_readOne_d6 σ0 τ0 a1 b N mo q nn nm hc r88 σ88 τ15 from ⟨hR, hF, hFL, by omega, by first | exact RO.ofr ((one_l (by omega) (by omega) (by omega) (by omega)).trans (lea_n (by omega) (by omega))) (by omega) ⟨gCT, by omega, by omega⟩ | (exfalso; omega) | exact RO.ofk (one_x (by omega)) (by omega) (by omega) (by omega) | exact RO.ofk (one_4 (by omega) (by omega)) (by omega) (by omega) (by omega) | (obtain ⟨f, e1, x1, x2⟩ := o1.no (by omega); exact RO.ofl ((one_n (by omega) (by omega)).trans e1) (by omega) x1 x2) | exact RO.ofr ((one_n (by omega) (by omega)).trans e1) (by omega) ⟨gCT, by omega, by omega⟩ | (obtain ⟨f, e2, x1, x2⟩ := o2.no (by omega); exact RO.ofl (by rw [one_o (by omega) (by omega), e2, bnd_l]) (by omega) x1 x2) | (obtain ⟨f, e3, x1, x2⟩ := o3.no (by omega); exact RO.ofl (by rw [one_o (by omega) (by omega), e2, bnd_r, e3, bnd_l]) (by omega) x1 x2) | exact RO.ofr (by rw [one_o (by omega) (by omega), e2, bnd_r, e3, bnd_r]) (by omega) ⟨gCT, by omega, by omega⟩ | (rw [one_l (by omega) (by omega) (by omega) (by omega)]; exact o4.map (fun s es h => ⟨h.1, h.2.1, by have h2 := h.2.2; have hl := lea_up es; omega⟩)) | (rw [one_l (by omega) (by omega) (by omega) (by omega)]; exact o5.map (fun s es h => ⟨h.1, h.2.1, by have h2 := h.2.2; have hl := lea_up es; omega⟩)), gWH⟩)
        by_cases c91 : (σ0 1 9).toInt = 34
        · refine lv_tableIn (off := 177) (tgt := 249) hx hb dX7_readOne_72 (by omega) (by omega) (by rw [c91]; rfl) (by decide) ?_
          refine lv_aload_n hx hb dX7_readOne_249 rfl (lv_at hl 1 rfl) ?_
          refine fg_7_2 (k := 27) hx hb hts in_X7_readOne_7 hown hK hP (by decide) (by decide) (hts _ lk_X7_readOne_19) dX7_readOne_250 ?_
          refine lv_iload_n hx hb dX7_readOne_253 rfl (lv_at hl 0 rfl) ?_
          refine r_bipush hx hb dX7_readOne_254 (by decide) (fun z92 ez92 => ?_)
          refine r_iconst hx hb dX7_readOne_256 (by decide) (fun z93 ez93 => ?_)
          refine r_cVi (k := 24) (As := [.int (σ0 1 9), .int z92, .int z93]) (rest := []) ⟨hx, hb, hml, hown, hts⟩ hK hP hN hS (c_X6_add l D cA ad hI σ15 τ15 hR (σ0 1 9) z92 z93 (by omega)) (cwV 3 hts gX7_readOne_X6_add rfl rfl rfl (by decide +kernel) ⟨by decide, by decide⟩) (rv_Sent hK hP (by decide) (by decide)) rfl hl.1 rfl (Nat.le_of_ble_eq_true rfl) dX7_readOne_257 (Nat.zero_le _) (Nat.zero_le _) (fun r94 u94 H94 locs94 hp94 hP hS => ?_)
          obtain ⟨σ94, τ94⟩ := u94
          obtain ⟨hR, f94, fL94, hq94, hp94_0⟩ : P_X6_add σ15 τ15 (σ0 1 9) z92 z93 r94 σ94 τ94 := hp94
          have hP : va_P D vwCl (gw cA ad σ94 τ94) H94 := hP
          obtain rfl := FrL.nil fL94
          have hF := hF.step f94 (by decide)
          have gCT := gCT.ag (Agr.fr f94 (by decide))
          have gWH := gWH.ag (Agr.fr f94 (by decide))
          have t95 : (σ94 24 1).toInt = (σ15 24 1).toInt := congrArg Int32.toInt (f94.at 24 1 (by decide))
          have hr96 := rg_6_2 hR (k := 24) (by decide) (by decide)
          exact r_zret hx hb hr hK hP hS hk (by omega) dX7_readOne_260 (show P_X7_readOne_d6 σ0 τ0 a1 b N mo q nn nm hc r94 σ94 τ15 from ⟨hR, hF, hFL, by omega, by first | exact RO.ofr ((one_l (by omega) (by omega) (by omega) (by omega)).trans (lea_n (by omega) (by omega))) (by omega) ⟨gCT, by omega, by omega⟩ | (exfalso; omega) | exact RO.ofk (one_x (by omega)) (by omega) (by omega) (by omega) | exact RO.ofk (one_4 (by omega) (by omega)) (by omega) (by omega) (by omega) | (obtain ⟨f, e1, x1, x2⟩ := o1.no (by omega); exact RO.ofl ((one_n (by omega) (by omega)).trans e1) (by omega) x1 x2) | exact RO.ofr ((one_n (by omega) (by omega)).trans e1) (by omega) ⟨gCT, by omega, by omega⟩ | (obtain ⟨f, e2, x1, x2⟩ := o2.no (by omega); exact RO.ofl (by rw [one_o (by omega) (by omega), e2, bnd_l]) (by omega) x1 x2) | (obtain ⟨f, e3, x1, x2⟩ := o3.no (by omega); exact RO.ofl (by rw [one_o (by omega) (by omega), e2, bnd_r, e3, bnd_l]) (by omega) x1 x2) | exact RO.ofr (by rw [one_o (by omega) (by omega), e2, bnd_r, e3, bnd_r]) (by omega) ⟨gCT, by omega, by omega⟩ | (rw [one_l (by omega) (by omega) (by omega) (by omega)]; exact o4.map (fun s es h => ⟨h.1, h.2.1, by have h2 := h.2.2; have hl := lea_up es; omega⟩)) | (rw [one_l (by omega) (by omega) (by omega) (by omega)]; exact o5.map (fun s es h => ⟨h.1, h.2.1, by have h2 := h.2.2; have hl := lea_up es; omega⟩)), gWH⟩)
        by_cases c97 : (σ0 1 9).toInt = 35
        · refine lv_tableIn (off := 177) (tgt := 249) hx hb dX7_readOne_72 (by omega) (by omega) (by rw [c97]; rfl) (by decide) ?_
          refine lv_aload_n hx hb dX7_readOne_249 rfl (lv_at hl 1 rfl) ?_
          refine fg_7_2 (k := 27) hx hb hts in_X7_readOne_7 hown hK hP (by decide) (by decide) (hts _ lk_X7_readOne_19) dX7_readOne_250 ?_
          refine lv_iload_n hx hb dX7_readOne_253 rfl (lv_at hl 0 rfl) ?_
          refine r_bipush hx hb dX7_readOne_254 (by decide) (fun z98 ez98 => ?_)
          refine r_iconst hx hb dX7_readOne_256 (by decide) (fun z99 ez99 => ?_)
          refine r_cVi (k := 24) (As := [.int (σ0 1 9), .int z98, .int z99]) (rest := []) ⟨hx, hb, hml, hown, hts⟩ hK hP hN hS (c_X6_add l D cA ad hI σ15 τ15 hR (σ0 1 9) z98 z99 (by omega)) (cwV 3 hts gX7_readOne_X6_add rfl rfl rfl (by decide +kernel) ⟨by decide, by decide⟩) (rv_Sent hK hP (by decide) (by decide)) rfl hl.1 rfl (Nat.le_of_ble_eq_true rfl) dX7_readOne_257 (Nat.zero_le _) (Nat.zero_le _) (fun r100 u100 H100 locs100 hp100 hP hS => ?_)
          obtain ⟨σ100, τ100⟩ := u100
          obtain ⟨hR, f100, fL100, hq100, hp100_0⟩ : P_X6_add σ15 τ15 (σ0 1 9) z98 z99 r100 σ100 τ100 := hp100
          have hP : va_P D vwCl (gw cA ad σ100 τ100) H100 := hP
          obtain rfl := FrL.nil fL100
          have hF := hF.step f100 (by decide)
          have gCT := gCT.ag (Agr.fr f100 (by decide))
          have gWH := gWH.ag (Agr.fr f100 (by decide))
          have t101 : (σ100 24 1).toInt = (σ15 24 1).toInt := congrArg Int32.toInt (f100.at 24 1 (by decide))
          have hr102 := rg_6_2 hR (k := 24) (by decide) (by decide)
          exact r_zret hx hb hr hK hP hS hk (by omega) dX7_readOne_260 (show P_X7_readOne_d6 σ0 τ0 a1 b N mo q nn nm hc r100 σ100 τ15 from ⟨hR, hF, hFL, by omega, by first | exact RO.ofr ((one_l (by omega) (by omega) (by omega) (by omega)).trans (lea_n (by omega) (by omega))) (by omega) ⟨gCT, by omega, by omega⟩ | (exfalso; omega) | exact RO.ofk (one_x (by omega)) (by omega) (by omega) (by omega) | exact RO.ofk (one_4 (by omega) (by omega)) (by omega) (by omega) (by omega) | (obtain ⟨f, e1, x1, x2⟩ := o1.no (by omega); exact RO.ofl ((one_n (by omega) (by omega)).trans e1) (by omega) x1 x2) | exact RO.ofr ((one_n (by omega) (by omega)).trans e1) (by omega) ⟨gCT, by omega, by omega⟩ | (obtain ⟨f, e2, x1, x2⟩ := o2.no (by omega); exact RO.ofl (by rw [one_o (by omega) (by omega), e2, bnd_l]) (by omega) x1 x2) | (obtain ⟨f, e3, x1, x2⟩ := o3.no (by omega); exact RO.ofl (by rw [one_o (by omega) (by omega), e2, bnd_r, e3, bnd_l]) (by omega) x1 x2) | exact RO.ofr (by rw [one_o (by omega) (by omega), e2, bnd_r, e3, bnd_r]) (by omega) ⟨gCT, by omega, by omega⟩ | (rw [one_l (by omega) (by omega) (by omega) (by omega)]; exact o4.map (fun s es h => ⟨h.1, h.2.1, by have h2 := h.2.2; have hl := lea_up es; omega⟩)) | (rw [one_l (by omega) (by omega) (by omega) (by omega)]; exact o5.map (fun s es h => ⟨h.1, h.2.1, by have h2 := h.2.2; have hl := lea_up es; omega⟩)), gWH⟩)
        by_cases c103 : (σ0 1 9).toInt = 36
        · refine lv_tableIn (off := 177) (tgt := 249) hx hb dX7_readOne_72 (by omega) (by omega) (by rw [c103]; rfl) (by decide) ?_
          refine lv_aload_n hx hb dX7_readOne_249 rfl (lv_at hl 1 rfl) ?_
          refine fg_7_2 (k := 27) hx hb hts in_X7_readOne_7 hown hK hP (by decide) (by decide) (hts _ lk_X7_readOne_19) dX7_readOne_250 ?_
          refine lv_iload_n hx hb dX7_readOne_253 rfl (lv_at hl 0 rfl) ?_
          refine r_bipush hx hb dX7_readOne_254 (by decide) (fun z104 ez104 => ?_)
          refine r_iconst hx hb dX7_readOne_256 (by decide) (fun z105 ez105 => ?_)
          refine r_cVi (k := 24) (As := [.int (σ0 1 9), .int z104, .int z105]) (rest := []) ⟨hx, hb, hml, hown, hts⟩ hK hP hN hS (c_X6_add l D cA ad hI σ15 τ15 hR (σ0 1 9) z104 z105 (by omega)) (cwV 3 hts gX7_readOne_X6_add rfl rfl rfl (by decide +kernel) ⟨by decide, by decide⟩) (rv_Sent hK hP (by decide) (by decide)) rfl hl.1 rfl (Nat.le_of_ble_eq_true rfl) dX7_readOne_257 (Nat.zero_le _) (Nat.zero_le _) (fun r106 u106 H106 locs106 hp106 hP hS => ?_)
          obtain ⟨σ106, τ106⟩ := u106
          obtain ⟨hR, f106, fL106, hq106, hp106_0⟩ : P_X6_add σ15 τ15 (σ0 1 9) z104 z105 r106 σ106 τ106 := hp106
          have hP : va_P D vwCl (gw cA ad σ106 τ106) H106 := hP
          obtain rfl := FrL.nil fL106
          have hF := hF.step f106 (by decide)
          have gCT := gCT.ag (Agr.fr f106 (by decide))
          have gWH := gWH.ag (Agr.fr f106 (by decide))
          have t107 : (σ106 24 1).toInt = (σ15 24 1).toInt := congrArg Int32.toInt (f106.at 24 1 (by decide))
          have hr108 := rg_6_2 hR (k := 24) (by decide) (by decide)
          exact r_zret hx hb hr hK hP hS hk (by omega) dX7_readOne_260 (show P_X7_readOne_d6 σ0 τ0 a1 b N mo q nn nm hc r106 σ106 τ15 from ⟨hR, hF, hFL, by omega, by first | exact RO.ofr ((one_l (by omega) (by omega) (by omega) (by omega)).trans (lea_n (by omega) (by omega))) (by omega) ⟨gCT, by omega, by omega⟩ | (exfalso; omega) | exact RO.ofk (one_x (by omega)) (by omega) (by omega) (by omega) | exact RO.ofk (one_4 (by omega) (by omega)) (by omega) (by omega) (by omega) | (obtain ⟨f, e1, x1, x2⟩ := o1.no (by omega); exact RO.ofl ((one_n (by omega) (by omega)).trans e1) (by omega) x1 x2) | exact RO.ofr ((one_n (by omega) (by omega)).trans e1) (by omega) ⟨gCT, by omega, by omega⟩ | (obtain ⟨f, e2, x1, x2⟩ := o2.no (by omega); exact RO.ofl (by rw [one_o (by omega) (by omega), e2, bnd_l]) (by omega) x1 x2) | (obtain ⟨f, e3, x1, x2⟩ := o3.no (by omega); exact RO.ofl (by rw [one_o (by omega) (by omega), e2, bnd_r, e3, bnd_l]) (by omega) x1 x2) | exact RO.ofr (by rw [one_o (by omega) (by omega), e2, bnd_r, e3, bnd_r]) (by omega) ⟨gCT, by omega, by omega⟩ | (rw [one_l (by omega) (by omega) (by omega) (by omega)]; exact o4.map (fun s es h => ⟨h.1, h.2.1, by have h2 := h.2.2; have hl := lea_up es; omega⟩)) | (rw [one_l (by omega) (by omega) (by omega) (by omega)]; exact o5.map (fun s es h => ⟨h.1, h.2.1, by have h2 := h.2.2; have hl := lea_up es; omega⟩)), gWH⟩)
        by_cases c109 : (σ0 1 9).toInt = 37
        · refine lv_tableIn (off := 177) (tgt := 249) hx hb dX7_readOne_72 (by omega) (by omega) (by rw [c109]; rfl) (by decide) ?_
          refine lv_aload_n hx hb dX7_readOne_249 rfl (lv_at hl 1 rfl) ?_
          refine fg_7_2 (k := 27) hx hb hts in_X7_readOne_7 hown hK hP (by decide) (by decide) (hts _ lk_X7_readOne_19) dX7_readOne_250 ?_
          refine lv_iload_n hx hb dX7_readOne_253 rfl (lv_at hl 0 rfl) ?_
          refine r_bipush hx hb dX7_readOne_254 (by decide) (fun z110 ez110 => ?_)
          refine r_iconst hx hb dX7_readOne_256 (by decide) (fun z111 ez111 => ?_)
          refine r_cVi (k := 24) (As := [.int (σ0 1 9), .int z110, .int z111]) (rest := []) ⟨hx, hb, hml, hown, hts⟩ hK hP hN hS (c_X6_add l D cA ad hI σ15 τ15 hR (σ0 1 9) z110 z111 (by omega)) (cwV 3 hts gX7_readOne_X6_add rfl rfl rfl (by decide +kernel) ⟨by decide, by decide⟩) (rv_Sent hK hP (by decide) (by decide)) rfl hl.1 rfl (Nat.le_of_ble_eq_true rfl) dX7_readOne_257 (Nat.zero_le _) (Nat.zero_le _) (fun r112 u112 H112 locs112 hp112 hP hS => ?_)
          obtain ⟨σ112, τ112⟩ := u112
          obtain ⟨hR, f112, fL112, hq112, hp112_0⟩ : P_X6_add σ15 τ15 (σ0 1 9) z110 z111 r112 σ112 τ112 := hp112
          have hP : va_P D vwCl (gw cA ad σ112 τ112) H112 := hP
          obtain rfl := FrL.nil fL112
          have hF := hF.step f112 (by decide)
          have gCT := gCT.ag (Agr.fr f112 (by decide))
          have gWH := gWH.ag (Agr.fr f112 (by decide))
          have t113 : (σ112 24 1).toInt = (σ15 24 1).toInt := congrArg Int32.toInt (f112.at 24 1 (by decide))
          have hr114 := rg_6_2 hR (k := 24) (by decide) (by decide)
          exact r_zret hx hb hr hK hP hS hk (by omega) dX7_readOne_260 (show P_X7_readOne_d6 σ0 τ0 a1 b N mo q nn nm hc r112 σ112 τ15 from ⟨hR, hF, hFL, by omega, by first | exact RO.ofr ((one_l (by omega) (by omega) (by omega) (by omega)).trans (lea_n (by omega) (by omega))) (by omega) ⟨gCT, by omega, by omega⟩ | (exfalso; omega) | exact RO.ofk (one_x (by omega)) (by omega) (by omega) (by omega) | exact RO.ofk (one_4 (by omega) (by omega)) (by omega) (by omega) (by omega) | (obtain ⟨f, e1, x1, x2⟩ := o1.no (by omega); exact RO.ofl ((one_n (by omega) (by omega)).trans e1) (by omega) x1 x2) | exact RO.ofr ((one_n (by omega) (by omega)).trans e1) (by omega) ⟨gCT, by omega, by omega⟩ | (obtain ⟨f, e2, x1, x2⟩ := o2.no (by omega); exact RO.ofl (by rw [one_o (by omega) (by omega), e2, bnd_l]) (by omega) x1 x2) | (obtain ⟨f, e3, x1, x2⟩ := o3.no (by omega); exact RO.ofl (by rw [one_o (by omega) (by omega), e2, bnd_r, e3, bnd_l]) (by omega) x1 x2) | exact RO.ofr (by rw [one_o (by omega) (by omega), e2, bnd_r, e3, bnd_r]) (by omega) ⟨gCT, by omega, by omega⟩ | (rw [one_l (by omega) (by omega) (by omega) (by omega)]; exact o4.map (fun s es h => ⟨h.1, h.2.1, by have h2 := h.2.2; have hl := lea_up es; omega⟩)) | (rw [one_l (by omega) (by omega) (by omega) (by omega)]; exact o5.map (fun s es h => ⟨h.1, h.2.1, by have h2 := h.2.2; have hl := lea_up es; omega⟩)), gWH⟩)
        by_cases c115 : (σ0 1 9).toInt = 38
        · refine lv_tableIn (off := 177) (tgt := 249) hx hb dX7_readOne_72 (by omega) (by omega) (by rw [c115]; rfl) (by decide) ?_
          refine lv_aload_n hx hb dX7_readOne_249 rfl (lv_at hl 1 rfl) ?_
          refine fg_7_2 (k := 27) hx hb hts in_X7_readOne_7 hown hK hP (by decide) (by decide) (hts _ lk_X7_readOne_19) dX7_readOne_250 ?_
          refine lv_iload_n hx hb dX7_readOne_253 rfl (lv_at hl 0 rfl) ?_
          refine r_bipush hx hb dX7_readOne_254 (by decide) (fun z116 ez116 => ?_)
          refine r_iconst hx hb dX7_readOne_256 (by decide) (fun z117 ez117 => ?_)
          refine r_cVi (k := 24) (As := [.int (σ0 1 9), .int z116, .int z117]) (rest := []) ⟨hx, hb, hml, hown, hts⟩ hK hP hN hS (c_X6_add l D cA ad hI σ15 τ15 hR (σ0 1 9) z116 z117 (by omega)) (cwV 3 hts gX7_readOne_X6_add rfl rfl rfl (by decide +kernel) ⟨by decide, by decide⟩) (rv_Sent hK hP (by decide) (by decide)) rfl hl.1 rfl (Nat.le_of_ble_eq_true rfl) dX7_readOne_257 (Nat.zero_le _) (Nat.zero_le _) (fun r118 u118 H118 locs118 hp118 hP hS => ?_)
          obtain ⟨σ118, τ118⟩ := u118
          obtain ⟨hR, f118, fL118, hq118, hp118_0⟩ : P_X6_add σ15 τ15 (σ0 1 9) z116 z117 r118 σ118 τ118 := hp118
          have hP : va_P D vwCl (gw cA ad σ118 τ118) H118 := hP
          obtain rfl := FrL.nil fL118
          have hF := hF.step f118 (by decide)
          have gCT := gCT.ag (Agr.fr f118 (by decide))
          have gWH := gWH.ag (Agr.fr f118 (by decide))
          have t119 : (σ118 24 1).toInt = (σ15 24 1).toInt := congrArg Int32.toInt (f118.at 24 1 (by decide))
          have hr120 := rg_6_2 hR (k := 24) (by decide) (by decide)
          exact r_zret hx hb hr hK hP hS hk (by omega) dX7_readOne_260 (show P_X7_readOne_d6 σ0 τ0 a1 b N mo q nn nm hc r118 σ118 τ15 from ⟨hR, hF, hFL, by omega, by first | exact RO.ofr ((one_l (by omega) (by omega) (by omega) (by omega)).trans (lea_n (by omega) (by omega))) (by omega) ⟨gCT, by omega, by omega⟩ | (exfalso; omega) | exact RO.ofk (one_x (by omega)) (by omega) (by omega) (by omega) | exact RO.ofk (one_4 (by omega) (by omega)) (by omega) (by omega) (by omega) | (obtain ⟨f, e1, x1, x2⟩ := o1.no (by omega); exact RO.ofl ((one_n (by omega) (by omega)).trans e1) (by omega) x1 x2) | exact RO.ofr ((one_n (by omega) (by omega)).trans e1) (by omega) ⟨gCT, by omega, by omega⟩ | (obtain ⟨f, e2, x1, x2⟩ := o2.no (by omega); exact RO.ofl (by rw [one_o (by omega) (by omega), e2, bnd_l]) (by omega) x1 x2) | (obtain ⟨f, e3, x1, x2⟩ := o3.no (by omega); exact RO.ofl (by rw [one_o (by omega) (by omega), e2, bnd_r, e3, bnd_l]) (by omega) x1 x2) | exact RO.ofr (by rw [one_o (by omega) (by omega), e2, bnd_r, e3, bnd_r]) (by omega) ⟨gCT, by omega, by omega⟩ | (rw [one_l (by omega) (by omega) (by omega) (by omega)]; exact o4.map (fun s es h => ⟨h.1, h.2.1, by have h2 := h.2.2; have hl := lea_up es; omega⟩)) | (rw [one_l (by omega) (by omega) (by omega) (by omega)]; exact o5.map (fun s es h => ⟨h.1, h.2.1, by have h2 := h.2.2; have hl := lea_up es; omega⟩)), gWH⟩)
        by_cases c121 : (σ0 1 9).toInt = 39
        · refine lv_tableIn (off := 177) (tgt := 249) hx hb dX7_readOne_72 (by omega) (by omega) (by rw [c121]; rfl) (by decide) ?_
          refine lv_aload_n hx hb dX7_readOne_249 rfl (lv_at hl 1 rfl) ?_
          refine fg_7_2 (k := 27) hx hb hts in_X7_readOne_7 hown hK hP (by decide) (by decide) (hts _ lk_X7_readOne_19) dX7_readOne_250 ?_
          refine lv_iload_n hx hb dX7_readOne_253 rfl (lv_at hl 0 rfl) ?_
          refine r_bipush hx hb dX7_readOne_254 (by decide) (fun z122 ez122 => ?_)
          refine r_iconst hx hb dX7_readOne_256 (by decide) (fun z123 ez123 => ?_)
          refine r_cVi (k := 24) (As := [.int (σ0 1 9), .int z122, .int z123]) (rest := []) ⟨hx, hb, hml, hown, hts⟩ hK hP hN hS (c_X6_add l D cA ad hI σ15 τ15 hR (σ0 1 9) z122 z123 (by omega)) (cwV 3 hts gX7_readOne_X6_add rfl rfl rfl (by decide +kernel) ⟨by decide, by decide⟩) (rv_Sent hK hP (by decide) (by decide)) rfl hl.1 rfl (Nat.le_of_ble_eq_true rfl) dX7_readOne_257 (Nat.zero_le _) (Nat.zero_le _) (fun r124 u124 H124 locs124 hp124 hP hS => ?_)
          obtain ⟨σ124, τ124⟩ := u124
          obtain ⟨hR, f124, fL124, hq124, hp124_0⟩ : P_X6_add σ15 τ15 (σ0 1 9) z122 z123 r124 σ124 τ124 := hp124
          have hP : va_P D vwCl (gw cA ad σ124 τ124) H124 := hP
          obtain rfl := FrL.nil fL124
          have hF := hF.step f124 (by decide)
          have gCT := gCT.ag (Agr.fr f124 (by decide))
          have gWH := gWH.ag (Agr.fr f124 (by decide))
          have t125 : (σ124 24 1).toInt = (σ15 24 1).toInt := congrArg Int32.toInt (f124.at 24 1 (by decide))
          have hr126 := rg_6_2 hR (k := 24) (by decide) (by decide)
          exact r_zret hx hb hr hK hP hS hk (by omega) dX7_readOne_260 (show P_X7_readOne_d6 σ0 τ0 a1 b N mo q nn nm hc r124 σ124 τ15 from ⟨hR, hF, hFL, by omega, by first | exact RO.ofr ((one_l (by omega) (by omega) (by omega) (by omega)).trans (lea_n (by omega) (by omega))) (by omega) ⟨gCT, by omega, by omega⟩ | (exfalso; omega) | exact RO.ofk (one_x (by omega)) (by omega) (by omega) (by omega) | exact RO.ofk (one_4 (by omega) (by omega)) (by omega) (by omega) (by omega) | (obtain ⟨f, e1, x1, x2⟩ := o1.no (by omega); exact RO.ofl ((one_n (by omega) (by omega)).trans e1) (by omega) x1 x2) | exact RO.ofr ((one_n (by omega) (by omega)).trans e1) (by omega) ⟨gCT, by omega, by omega⟩ | (obtain ⟨f, e2, x1, x2⟩ := o2.no (by omega); exact RO.ofl (by rw [one_o (by omega) (by omega), e2, bnd_l]) (by omega) x1 x2) | (obtain ⟨f, e3, x1, x2⟩ := o3.no (by omega); exact RO.ofl (by rw [one_o (by omega) (by omega), e2, bnd_r, e3, bnd_l]) (by omega) x1 x2) | exact RO.ofr (by rw [one_o (by omega) (by omega), e2, bnd_r, e3, bnd_r]) (by omega) ⟨gCT, by omega, by omega⟩ | (rw [one_l (by omega) (by omega) (by omega) (by omega)]; exact o4.map (fun s es h => ⟨h.1, h.2.1, by have h2 := h.2.2; have hl := lea_up es; omega⟩)) | (rw [one_l (by omega) (by omega) (by omega) (by omega)]; exact o5.map (fun s es h => ⟨h.1, h.2.1, by have h2 := h.2.2; have hl := lea_up es; omega⟩)), gWH⟩)
        by_cases c127 : (σ0 1 9).toInt = 40
        · refine lv_tableIn (off := 177) (tgt := 249) hx hb dX7_readOne_72 (by omega) (by omega) (by rw [c127]; rfl) (by decide) ?_
          refine lv_aload_n hx hb dX7_readOne_249 rfl (lv_at hl 1 rfl) ?_
          refine fg_7_2 (k := 27) hx hb hts in_X7_readOne_7 hown hK hP (by decide) (by decide) (hts _ lk_X7_readOne_19) dX7_readOne_250 ?_
          refine lv_iload_n hx hb dX7_readOne_253 rfl (lv_at hl 0 rfl) ?_
          refine r_bipush hx hb dX7_readOne_254 (by decide) (fun z128 ez128 => ?_)
          refine r_iconst hx hb dX7_readOne_256 (by decide) (fun z129 ez129 => ?_)
          refine r_cVi (k := 24) (As := [.int (σ0 1 9), .int z128, .int z129]) (rest := []) ⟨hx, hb, hml, hown, hts⟩ hK hP hN hS (c_X6_add l D cA ad hI σ15 τ15 hR (σ0 1 9) z128 z129 (by omega)) (cwV 3 hts gX7_readOne_X6_add rfl rfl rfl (by decide +kernel) ⟨by decide, by decide⟩) (rv_Sent hK hP (by decide) (by decide)) rfl hl.1 rfl (Nat.le_of_ble_eq_true rfl) dX7_readOne_257 (Nat.zero_le _) (Nat.zero_le _) (fun r130 u130 H130 locs130 hp130 hP hS => ?_)
          obtain ⟨σ130, τ130⟩ := u130
          obtain ⟨hR, f130, fL130, hq130, hp130_0⟩ : P_X6_add σ15 τ15 (σ0 1 9) z128 z129 r130 σ130 τ130 := hp130
          have hP : va_P D vwCl (gw cA ad σ130 τ130) H130 := hP
          obtain rfl := FrL.nil fL130
          have hF := hF.step f130 (by decide)
          have gCT := gCT.ag (Agr.fr f130 (by decide))
          have gWH := gWH.ag (Agr.fr f130 (by decide))
          have t131 : (σ130 24 1).toInt = (σ15 24 1).toInt := congrArg Int32.toInt (f130.at 24 1 (by decide))
          have hr132 := rg_6_2 hR (k := 24) (by decide) (by decide)
          exact r_zret hx hb hr hK hP hS hk (by omega) dX7_readOne_260 (show P_X7_readOne_d6 σ0 τ0 a1 b N mo q nn nm hc r130 σ130 τ15 from ⟨hR, hF, hFL, by omega, by first | exact RO.ofr ((one_l (by omega) (by omega) (by omega) (by omega)).trans (lea_n (by omega) (by omega))) (by omega) ⟨gCT, by omega, by omega⟩ | (exfalso; omega) | exact RO.ofk (one_x (by omega)) (by omega) (by omega) (by omega) | exact RO.ofk (one_4 (by omega) (by omega)) (by omega) (by omega) (by omega) | (obtain ⟨f, e1, x1, x2⟩ := o1.no (by omega); exact RO.ofl ((one_n (by omega) (by omega)).trans e1) (by omega) x1 x2) | exact RO.ofr ((one_n (by omega) (by omega)).trans e1) (by omega) ⟨gCT, by omega, by omega⟩ | (obtain ⟨f, e2, x1, x2⟩ := o2.no (by omega); exact RO.ofl (by rw [one_o (by omega) (by omega), e2, bnd_l]) (by omega) x1 x2) | (obtain ⟨f, e3, x1, x2⟩ := o3.no (by omega); exact RO.ofl (by rw [one_o (by omega) (by omega), e2, bnd_r, e3, bnd_l]) (by omega) x1 x2) | exact RO.ofr (by rw [one_o (by omega) (by omega), e2, bnd_r, e3, bnd_r]) (by omega) ⟨gCT, by omega, by omega⟩ | (rw [one_l (by omega) (by omega) (by omega) (by omega)]; exact o4.map (fun s es h => ⟨h.1, h.2.1, by have h2 := h.2.2; have hl := lea_up es; omega⟩)) | (rw [one_l (by omega) (by omega) (by omega) (by omega)]; exact o5.map (fun s es h => ⟨h.1, h.2.1, by have h2 := h.2.2; have hl := lea_up es; omega⟩)), gWH⟩)
        by_cases c133 : (σ0 1 9).toInt = 41
        · refine lv_tableIn (off := 177) (tgt := 249) hx hb dX7_readOne_72 (by omega) (by omega) (by rw [c133]; rfl) (by decide) ?_
          refine lv_aload_n hx hb dX7_readOne_249 rfl (lv_at hl 1 rfl) ?_
          refine fg_7_2 (k := 27) hx hb hts in_X7_readOne_7 hown hK hP (by decide) (by decide) (hts _ lk_X7_readOne_19) dX7_readOne_250 ?_
          refine lv_iload_n hx hb dX7_readOne_253 rfl (lv_at hl 0 rfl) ?_
          refine r_bipush hx hb dX7_readOne_254 (by decide) (fun z134 ez134 => ?_)
          refine r_iconst hx hb dX7_readOne_256 (by decide) (fun z135 ez135 => ?_)
          refine r_cVi (k := 24) (As := [.int (σ0 1 9), .int z134, .int z135]) (rest := []) ⟨hx, hb, hml, hown, hts⟩ hK hP hN hS (c_X6_add l D cA ad hI σ15 τ15 hR (σ0 1 9) z134 z135 (by omega)) (cwV 3 hts gX7_readOne_X6_add rfl rfl rfl (by decide +kernel) ⟨by decide, by decide⟩) (rv_Sent hK hP (by decide) (by decide)) rfl hl.1 rfl (Nat.le_of_ble_eq_true rfl) dX7_readOne_257 (Nat.zero_le _) (Nat.zero_le _) (fun r136 u136 H136 locs136 hp136 hP hS => ?_)
          obtain ⟨σ136, τ136⟩ := u136
          obtain ⟨hR, f136, fL136, hq136, hp136_0⟩ : P_X6_add σ15 τ15 (σ0 1 9) z134 z135 r136 σ136 τ136 := hp136
          have hP : va_P D vwCl (gw cA ad σ136 τ136) H136 := hP
          obtain rfl := FrL.nil fL136
          have hF := hF.step f136 (by decide)
          have gCT := gCT.ag (Agr.fr f136 (by decide))
          have gWH := gWH.ag (Agr.fr f136 (by decide))
          have t137 : (σ136 24 1).toInt = (σ15 24 1).toInt := congrArg Int32.toInt (f136.at 24 1 (by decide))
          have hr138 := rg_6_2 hR (k := 24) (by decide) (by decide)
          exact r_zret hx hb hr hK hP hS hk (by omega) dX7_readOne_260 (show P_X7_readOne_d6 σ0 τ0 a1 b N mo q nn nm hc r136 σ136 τ15 from ⟨hR, hF, hFL, by omega, by first | exact RO.ofr ((one_l (by omega) (by omega) (by omega) (by omega)).trans (lea_n (by omega) (by omega))) (by omega) ⟨gCT, by omega, by omega⟩ | (exfalso; omega) | exact RO.ofk (one_x (by omega)) (by omega) (by omega) (by omega) | exact RO.ofk (one_4 (by omega) (by omega)) (by omega) (by omega) (by omega) | (obtain ⟨f, e1, x1, x2⟩ := o1.no (by omega); exact RO.ofl ((one_n (by omega) (by omega)).trans e1) (by omega) x1 x2) | exact RO.ofr ((one_n (by omega) (by omega)).trans e1) (by omega) ⟨gCT, by omega, by omega⟩ | (obtain ⟨f, e2, x1, x2⟩ := o2.no (by omega); exact RO.ofl (by rw [one_o (by omega) (by omega), e2, bnd_l]) (by omega) x1 x2) | (obtain ⟨f, e3, x1, x2⟩ := o3.no (by omega); exact RO.ofl (by rw [one_o (by omega) (by omega), e2, bnd_r, e3, bnd_l]) (by omega) x1 x2) | exact RO.ofr (by rw [one_o (by omega) (by omega), e2, bnd_r, e3, bnd_r]) (by omega) ⟨gCT, by omega, by omega⟩ | (rw [one_l (by omega) (by omega) (by omega) (by omega)]; exact o4.map (fun s es h => ⟨h.1, h.2.1, by have h2 := h.2.2; have hl := lea_up es; omega⟩)) | (rw [one_l (by omega) (by omega) (by omega) (by omega)]; exact o5.map (fun s es h => ⟨h.1, h.2.1, by have h2 := h.2.2; have hl := lea_up es; omega⟩)), gWH⟩)
        by_cases c139 : (σ0 1 9).toInt = 42
        · refine lv_tableIn (off := 177) (tgt := 249) hx hb dX7_readOne_72 (by omega) (by omega) (by rw [c139]; rfl) (by decide) ?_
          refine lv_aload_n hx hb dX7_readOne_249 rfl (lv_at hl 1 rfl) ?_
          refine fg_7_2 (k := 27) hx hb hts in_X7_readOne_7 hown hK hP (by decide) (by decide) (hts _ lk_X7_readOne_19) dX7_readOne_250 ?_
          refine lv_iload_n hx hb dX7_readOne_253 rfl (lv_at hl 0 rfl) ?_
          refine r_bipush hx hb dX7_readOne_254 (by decide) (fun z140 ez140 => ?_)
          refine r_iconst hx hb dX7_readOne_256 (by decide) (fun z141 ez141 => ?_)
          refine r_cVi (k := 24) (As := [.int (σ0 1 9), .int z140, .int z141]) (rest := []) ⟨hx, hb, hml, hown, hts⟩ hK hP hN hS (c_X6_add l D cA ad hI σ15 τ15 hR (σ0 1 9) z140 z141 (by omega)) (cwV 3 hts gX7_readOne_X6_add rfl rfl rfl (by decide +kernel) ⟨by decide, by decide⟩) (rv_Sent hK hP (by decide) (by decide)) rfl hl.1 rfl (Nat.le_of_ble_eq_true rfl) dX7_readOne_257 (Nat.zero_le _) (Nat.zero_le _) (fun r142 u142 H142 locs142 hp142 hP hS => ?_)
          obtain ⟨σ142, τ142⟩ := u142
          obtain ⟨hR, f142, fL142, hq142, hp142_0⟩ : P_X6_add σ15 τ15 (σ0 1 9) z140 z141 r142 σ142 τ142 := hp142
          have hP : va_P D vwCl (gw cA ad σ142 τ142) H142 := hP
          obtain rfl := FrL.nil fL142
          have hF := hF.step f142 (by decide)
          have gCT := gCT.ag (Agr.fr f142 (by decide))
          have gWH := gWH.ag (Agr.fr f142 (by decide))
          have t143 : (σ142 24 1).toInt = (σ15 24 1).toInt := congrArg Int32.toInt (f142.at 24 1 (by decide))
          have hr144 := rg_6_2 hR (k := 24) (by decide) (by decide)
          exact r_zret hx hb hr hK hP hS hk (by omega) dX7_readOne_260 (show P_X7_readOne_d6 σ0 τ0 a1 b N mo q nn nm hc r142 σ142 τ15 from ⟨hR, hF, hFL, by omega, by first | exact RO.ofr ((one_l (by omega) (by omega) (by omega) (by omega)).trans (lea_n (by omega) (by omega))) (by omega) ⟨gCT, by omega, by omega⟩ | (exfalso; omega) | exact RO.ofk (one_x (by omega)) (by omega) (by omega) (by omega) | exact RO.ofk (one_4 (by omega) (by omega)) (by omega) (by omega) (by omega) | (obtain ⟨f, e1, x1, x2⟩ := o1.no (by omega); exact RO.ofl ((one_n (by omega) (by omega)).trans e1) (by omega) x1 x2) | exact RO.ofr ((one_n (by omega) (by omega)).trans e1) (by omega) ⟨gCT, by omega, by omega⟩ | (obtain ⟨f, e2, x1, x2⟩ := o2.no (by omega); exact RO.ofl (by rw [one_o (by omega) (by omega), e2, bnd_l]) (by omega) x1 x2) | (obtain ⟨f, e3, x1, x2⟩ := o3.no (by omega); exact RO.ofl (by rw [one_o (by omega) (by omega), e2, bnd_r, e3, bnd_l]) (by omega) x1 x2) | exact RO.ofr (by rw [one_o (by omega) (by omega), e2, bnd_r, e3, bnd_r]) (by omega) ⟨gCT, by omega, by omega⟩ | (rw [one_l (by omega) (by omega) (by omega) (by omega)]; exact o4.map (fun s es h => ⟨h.1, h.2.1, by have h2 := h.2.2; have hl := lea_up es; omega⟩)) | (rw [one_l (by omega) (by omega) (by omega) (by omega)]; exact o5.map (fun s es h => ⟨h.1, h.2.1, by have h2 := h.2.2; have hl := lea_up es; omega⟩)), gWH⟩)
        by_cases c145 : (σ0 1 9).toInt = 43
        · refine lv_tableIn (off := 177) (tgt := 249) hx hb dX7_readOne_72 (by omega) (by omega) (by rw [c145]; rfl) (by decide) ?_
          refine lv_aload_n hx hb dX7_readOne_249 rfl (lv_at hl 1 rfl) ?_
          refine fg_7_2 (k := 27) hx hb hts in_X7_readOne_7 hown hK hP (by decide) (by decide) (hts _ lk_X7_readOne_19) dX7_readOne_250 ?_
          refine lv_iload_n hx hb dX7_readOne_253 rfl (lv_at hl 0 rfl) ?_
          refine r_bipush hx hb dX7_readOne_254 (by decide) (fun z146 ez146 => ?_)
          refine r_iconst hx hb dX7_readOne_256 (by decide) (fun z147 ez147 => ?_)
          refine r_cVi (k := 24) (As := [.int (σ0 1 9), .int z146, .int z147]) (rest := []) ⟨hx, hb, hml, hown, hts⟩ hK hP hN hS (c_X6_add l D cA ad hI σ15 τ15 hR (σ0 1 9) z146 z147 (by omega)) (cwV 3 hts gX7_readOne_X6_add rfl rfl rfl (by decide +kernel) ⟨by decide, by decide⟩) (rv_Sent hK hP (by decide) (by decide)) rfl hl.1 rfl (Nat.le_of_ble_eq_true rfl) dX7_readOne_257 (Nat.zero_le _) (Nat.zero_le _) (fun r148 u148 H148 locs148 hp148 hP hS => ?_)
          obtain ⟨σ148, τ148⟩ := u148
          obtain ⟨hR, f148, fL148, hq148, hp148_0⟩ : P_X6_add σ15 τ15 (σ0 1 9) z146 z147 r148 σ148 τ148 := hp148
          have hP : va_P D vwCl (gw cA ad σ148 τ148) H148 := hP
          obtain rfl := FrL.nil fL148
          have hF := hF.step f148 (by decide)
          have gCT := gCT.ag (Agr.fr f148 (by decide))
          have gWH := gWH.ag (Agr.fr f148 (by decide))
          have t149 : (σ148 24 1).toInt = (σ15 24 1).toInt := congrArg Int32.toInt (f148.at 24 1 (by decide))
          have hr150 := rg_6_2 hR (k := 24) (by decide) (by decide)
          exact r_zret hx hb hr hK hP hS hk (by omega) dX7_readOne_260 (show P_X7_readOne_d6 σ0 τ0 a1 b N mo q nn nm hc r148 σ148 τ15 from ⟨hR, hF, hFL, by omega, by first | exact RO.ofr ((one_l (by omega) (by omega) (by omega) (by omega)).trans (lea_n (by omega) (by omega))) (by omega) ⟨gCT, by omega, by omega⟩ | (exfalso; omega) | exact RO.ofk (one_x (by omega)) (by omega) (by omega) (by omega) | exact RO.ofk (one_4 (by omega) (by omega)) (by omega) (by omega) (by omega) | (obtain ⟨f, e1, x1, x2⟩ := o1.no (by omega); exact RO.ofl ((one_n (by omega) (by omega)).trans e1) (by omega) x1 x2) | exact RO.ofr ((one_n (by omega) (by omega)).trans e1) (by omega) ⟨gCT, by omega, by omega⟩ | (obtain ⟨f, e2, x1, x2⟩ := o2.no (by omega); exact RO.ofl (by rw [one_o (by omega) (by omega), e2, bnd_l]) (by omega) x1 x2) | (obtain ⟨f, e3, x1, x2⟩ := o3.no (by omega); exact RO.ofl (by rw [one_o (by omega) (by omega), e2, bnd_r, e3, bnd_l]) (by omega) x1 x2) | exact RO.ofr (by rw [one_o (by omega) (by omega), e2, bnd_r, e3, bnd_r]) (by omega) ⟨gCT, by omega, by omega⟩ | (rw [one_l (by omega) (by omega) (by omega) (by omega)]; exact o4.map (fun s es h => ⟨h.1, h.2.1, by have h2 := h.2.2; have hl := lea_up es; omega⟩)) | (rw [one_l (by omega) (by omega) (by omega) (by omega)]; exact o5.map (fun s es h => ⟨h.1, h.2.1, by have h2 := h.2.2; have hl := lea_up es; omega⟩)), gWH⟩)
        by_cases c151 : (σ0 1 9).toInt = 44
        · refine lv_tableIn (off := 138) (tgt := 210) hx hb dX7_readOne_72 (by omega) (by omega) (by rw [c151]; rfl) (by decide) ?_
          refine lv_aload_n hx hb dX7_readOne_210 rfl (lv_at hl 1 rfl) ?_
          refine lv_iload_n hx hb dX7_readOne_211 rfl (lv_at hl 2 rfl) ?_
          refine r_iconst hx hb dX7_readOne_212 (by decide) (fun z152 ez152 => ?_)
          refine r_iadd hx hb dX7_readOne_213 (by omega) (fun z153 ez153 => ?_)
          refine r_cVi (k := 27) (As := [.int z153]) (rest := []) ⟨hx, hb, hml, hown, hts⟩ hK hP hN hS (c_X7_readCond_d7 l D cA ad hI σ15 τ15 hR z153 b N mo _ (nn + 1) nm hc (by omega) (by omega) (by omega) (by omega) gCT gWH) (cwV 1 hts gX7_readOne_X7_readCond rfl rfl rfl (by decide +kernel) ⟨by decide, by decide⟩) (rv_SText hK hP (by decide) (by decide)) rfl hl.1 rfl (Nat.le_of_ble_eq_true rfl) dX7_readOne_214 (Nat.zero_le _) (Nat.zero_le _) (fun r154 u154 H154 locs154 hp154 hP hS => ?_)
          obtain ⟨σ154, τ154⟩ := u154
          obtain ⟨hR, f154, fL154, hq154, hp154_0, gnWH⟩ : P_X7_readCond_d7 σ15 τ15 z153 b N mo _ (nn + 1) nm hc r154 σ154 τ154 := hp154
          have o2 := hp154_0
          have hP : va_P D vwCl (gw cA ad σ154 τ154) H154 := hP
          have hFL := hFL.step fL154 (by decide)
          have gWH := gWH.agL (AgrL.fr fL154 (by decide))
          have hF := hF.step f154 (by decide)
          have gWH := gWH.ag (Agr.fr f154 (by decide))
          have hr155 := rg_6_1 hR (k := 24) (by decide) (by decide)
          have hr156 := rg_6_2 hR (k := 24) (by decide) (by decide)
          refine r_if_eq (tgt := 236) hx hb dX7_readOne_217 (by decide) (fun c157 => ?_) (fun c157 => ?_)
          · refine r_iconst hx hb dX7_readOne_236 (by decide) (fun z158 ez158 => ?_)
            exact r_zret hx hb hr hK hP hS hk (by omega) dX7_readOne_237 (show P_X7_readOne_d6 σ0 τ0 a1 b N mo q nn nm hc z158 σ154 τ154 from ⟨hR, hF, hFL, by omega, by first | exact RO.ofr ((one_l (by omega) (by omega) (by omega) (by omega)).trans (lea_n (by omega) (by omega))) (by omega) ⟨gCT, by omega, by omega⟩ | (exfalso; omega) | exact RO.ofk (one_x (by omega)) (by omega) (by omega) (by omega) | exact RO.ofk (one_4 (by omega) (by omega)) (by omega) (by omega) (by omega) | (obtain ⟨f, e1, x1, x2⟩ := o1.no (by omega); exact RO.ofl ((one_n (by omega) (by omega)).trans e1) (by omega) x1 x2) | exact RO.ofr ((one_n (by omega) (by omega)).trans e1) (by omega) ⟨gCT, by omega, by omega⟩ | (obtain ⟨f, e2, x1, x2⟩ := o2.no (by omega); exact RO.ofl (by rw [one_o (by omega) (by omega), e2, bnd_l]) (by omega) x1 x2) | (obtain ⟨f, e3, x1, x2⟩ := o3.no (by omega); exact RO.ofl (by rw [one_o (by omega) (by omega), e2, bnd_r, e3, bnd_l]) (by omega) x1 x2) | exact RO.ofr (by rw [one_o (by omega) (by omega), e2, bnd_r, e3, bnd_r]) (by omega) ⟨gCT, by omega, by omega⟩ | (rw [one_l (by omega) (by omega) (by omega) (by omega)]; exact o4.map (fun s es h => ⟨h.1, h.2.1, by have h2 := h.2.2; have hl := lea_up es; omega⟩)) | (rw [one_l (by omega) (by omega) (by omega) (by omega)]; exact o5.map (fun s es h => ⟨h.1, h.2.1, by have h2 := h.2.2; have hl := lea_up es; omega⟩)), gWH⟩)
          · obtain ⟨s2, e2, gCT, hs1, hs2⟩ := o2.ye (by omega)
            have hu2 := con_up (one_up _) _ _ _ e2
            refine lv_aload_n hx hb dX7_readOne_220 rfl (lv_at hl 1 rfl) ?_
            refine fg_7_0 (k := 27) hx hb hts in_X7_readOne_7 hown hK hP (by decide) (by decide) (hts _ lk_X7_readOne_9) dX7_readOne_221 ?_
            refine r_bipush hx hb dX7_readOne_224 (by decide) (fun z159 ez159 => ?_)
            refine r_cVi (k := 1) (As := [.int z159]) (rest := []) ⟨hx, hb, hml, hown, hts⟩ hK hP hN hS (c_X8_take_v l D cA ad hI σ154 τ154 hR z159 b N mo _ 45 (by omega) (by omega) gCT) (cwV 1 hts gX7_readOne_X8_take rfl rfl rfl (by decide +kernel) ⟨by decide, by decide⟩) (rv_Tape hK hP (by decide) (by decide)) rfl hl.1 rfl (Nat.le_of_ble_eq_true rfl) dX7_readOne_226 (Nat.zero_le _) (Nat.zero_le _) (fun r160 u160 H160 locs160 hp160 hP hS => ?_)
            obtain ⟨σ160, τ160⟩ := u160
            obtain ⟨hR, f160, fL160, hq160, hp160_0⟩ : P_X8_take_v σ154 τ154 z159 b N mo _ 45 r160 σ160 τ160 := hp160
            have o3 := hp160_0
            have hP : va_P D vwCl (gw cA ad σ160 τ160) H160 := hP
            have hFL := hFL.step fL160 (by decide)
            have gWH := gWH.agL (AgrL.fr fL160 (by decide))
            have hF := hF.step f160 (by decide)
            have gWH := gWH.ag (Agr.fr f160 (by decide))
            have t161 : (σ160 24 1).toInt = (σ154 24 1).toInt := congrArg Int32.toInt (f160.at 24 1 (by decide))
            have t162 : (σ160 24 2).toInt = (σ154 24 2).toInt := congrArg Int32.toInt (f160.at 24 2 (by decide))
            refine r_if_eq (tgt := 236) hx hb dX7_readOne_229 (by decide) (fun c163 => ?_) (fun c163 => ?_)
            · refine r_iconst hx hb dX7_readOne_236 (by decide) (fun z164 ez164 => ?_)
              exact r_zret hx hb hr hK hP hS hk (by omega) dX7_readOne_237 (show P_X7_readOne_d6 σ0 τ0 a1 b N mo q nn nm hc z164 σ160 τ160 from ⟨hR, hF, hFL, by omega, by first | exact RO.ofr ((one_l (by omega) (by omega) (by omega) (by omega)).trans (lea_n (by omega) (by omega))) (by omega) ⟨gCT, by omega, by omega⟩ | (exfalso; omega) | exact RO.ofk (one_x (by omega)) (by omega) (by omega) (by omega) | exact RO.ofk (one_4 (by omega) (by omega)) (by omega) (by omega) (by omega) | (obtain ⟨f, e1, x1, x2⟩ := o1.no (by omega); exact RO.ofl ((one_n (by omega) (by omega)).trans e1) (by omega) x1 x2) | exact RO.ofr ((one_n (by omega) (by omega)).trans e1) (by omega) ⟨gCT, by omega, by omega⟩ | (obtain ⟨f, e2, x1, x2⟩ := o2.no (by omega); exact RO.ofl (by rw [one_o (by omega) (by omega), e2, bnd_l]) (by omega) x1 x2) | (obtain ⟨f, e3, x1, x2⟩ := o3.no (by omega); exact RO.ofl (by rw [one_o (by omega) (by omega), e2, bnd_r, e3, bnd_l]) (by omega) x1 x2) | exact RO.ofr (by rw [one_o (by omega) (by omega), e2, bnd_r, e3, bnd_r]) (by omega) ⟨gCT, by omega, by omega⟩ | (rw [one_l (by omega) (by omega) (by omega) (by omega)]; exact o4.map (fun s es h => ⟨h.1, h.2.1, by have h2 := h.2.2; have hl := lea_up es; omega⟩)) | (rw [one_l (by omega) (by omega) (by omega) (by omega)]; exact o5.map (fun s es h => ⟨h.1, h.2.1, by have h2 := h.2.2; have hl := lea_up es; omega⟩)), gWH⟩)
            · obtain ⟨q3, e3, gCT⟩ := o3.ye (by omega)
              refine r_iconst hx hb dX7_readOne_232 (by decide) (fun z165 ez165 => ?_)
              refine lv_goto (tgt := 237) hx hb dX7_readOne_233 (by decide) ?_
              exact r_zret hx hb hr hK hP hS hk (by omega) dX7_readOne_237 (show P_X7_readOne_d6 σ0 τ0 a1 b N mo q nn nm hc z165 σ160 τ160 from ⟨hR, hF, hFL, by omega, by first | exact RO.ofr ((one_l (by omega) (by omega) (by omega) (by omega)).trans (lea_n (by omega) (by omega))) (by omega) ⟨gCT, by omega, by omega⟩ | (exfalso; omega) | exact RO.ofk (one_x (by omega)) (by omega) (by omega) (by omega) | exact RO.ofk (one_4 (by omega) (by omega)) (by omega) (by omega) (by omega) | (obtain ⟨f, e1, x1, x2⟩ := o1.no (by omega); exact RO.ofl ((one_n (by omega) (by omega)).trans e1) (by omega) x1 x2) | exact RO.ofr ((one_n (by omega) (by omega)).trans e1) (by omega) ⟨gCT, by omega, by omega⟩ | (obtain ⟨f, e2, x1, x2⟩ := o2.no (by omega); exact RO.ofl (by rw [one_o (by omega) (by omega), e2, bnd_l]) (by omega) x1 x2) | (obtain ⟨f, e3, x1, x2⟩ := o3.no (by omega); exact RO.ofl (by rw [one_o (by omega) (by omega), e2, bnd_r, e3, bnd_l]) (by omega) x1 x2) | exact RO.ofr (by rw [one_o (by omega) (by omega), e2, bnd_r, e3, bnd_r]) (by omega) ⟨gCT, by omega, by omega⟩ | (rw [one_l (by omega) (by omega) (by omega) (by omega)]; exact o4.map (fun s es h => ⟨h.1, h.2.1, by have h2 := h.2.2; have hl := lea_up es; omega⟩)) | (rw [one_l (by omega) (by omega) (by omega) (by omega)]; exact o5.map (fun s es h => ⟨h.1, h.2.1, by have h2 := h.2.2; have hl := lea_up es; omega⟩)), gWH⟩)
        refine lv_tableOut (tgt := 249) hx hb dX7_readOne_72 (by omega) (by decide) ?_
        refine lv_aload_n hx hb dX7_readOne_249 rfl (lv_at hl 1 rfl) ?_
        refine fg_7_2 (k := 27) hx hb hts in_X7_readOne_7 hown hK hP (by decide) (by decide) (hts _ lk_X7_readOne_19) dX7_readOne_250 ?_
        refine lv_iload_n hx hb dX7_readOne_253 rfl (lv_at hl 0 rfl) ?_
        refine r_bipush hx hb dX7_readOne_254 (by decide) (fun z166 ez166 => ?_)
        refine r_iconst hx hb dX7_readOne_256 (by decide) (fun z167 ez167 => ?_)
        refine r_cVi (k := 24) (As := [.int (σ0 1 9), .int z166, .int z167]) (rest := []) ⟨hx, hb, hml, hown, hts⟩ hK hP hN hS (c_X6_add l D cA ad hI σ15 τ15 hR (σ0 1 9) z166 z167 (by omega)) (cwV 3 hts gX7_readOne_X6_add rfl rfl rfl (by decide +kernel) ⟨by decide, by decide⟩) (rv_Sent hK hP (by decide) (by decide)) rfl hl.1 rfl (Nat.le_of_ble_eq_true rfl) dX7_readOne_257 (Nat.zero_le _) (Nat.zero_le _) (fun r168 u168 H168 locs168 hp168 hP hS => ?_)
        obtain ⟨σ168, τ168⟩ := u168
        obtain ⟨hR, f168, fL168, hq168, hp168_0⟩ : P_X6_add σ15 τ15 (σ0 1 9) z166 z167 r168 σ168 τ168 := hp168
        have hP : va_P D vwCl (gw cA ad σ168 τ168) H168 := hP
        obtain rfl := FrL.nil fL168
        have hF := hF.step f168 (by decide)
        have gCT := gCT.ag (Agr.fr f168 (by decide))
        have gWH := gWH.ag (Agr.fr f168 (by decide))
        have t169 : (σ168 24 1).toInt = (σ15 24 1).toInt := congrArg Int32.toInt (f168.at 24 1 (by decide))
        have hr170 := rg_6_2 hR (k := 24) (by decide) (by decide)
        exact r_zret hx hb hr hK hP hS hk (by omega) dX7_readOne_260 (show P_X7_readOne_d6 σ0 τ0 a1 b N mo q nn nm hc r168 σ168 τ15 from ⟨hR, hF, hFL, by omega, by first | exact RO.ofr ((one_l (by omega) (by omega) (by omega) (by omega)).trans (lea_n (by omega) (by omega))) (by omega) ⟨gCT, by omega, by omega⟩ | (exfalso; omega) | exact RO.ofk (one_x (by omega)) (by omega) (by omega) (by omega) | exact RO.ofk (one_4 (by omega) (by omega)) (by omega) (by omega) (by omega) | (obtain ⟨f, e1, x1, x2⟩ := o1.no (by omega); exact RO.ofl ((one_n (by omega) (by omega)).trans e1) (by omega) x1 x2) | exact RO.ofr ((one_n (by omega) (by omega)).trans e1) (by omega) ⟨gCT, by omega, by omega⟩ | (obtain ⟨f, e2, x1, x2⟩ := o2.no (by omega); exact RO.ofl (by rw [one_o (by omega) (by omega), e2, bnd_l]) (by omega) x1 x2) | (obtain ⟨f, e3, x1, x2⟩ := o3.no (by omega); exact RO.ofl (by rw [one_o (by omega) (by omega), e2, bnd_r, e3, bnd_l]) (by omega) x1 x2) | exact RO.ofr (by rw [one_o (by omega) (by omega), e2, bnd_r, e3, bnd_r]) (by omega) ⟨gCT, by omega, by omega⟩ | (rw [one_l (by omega) (by omega) (by omega) (by omega)]; exact o4.map (fun s es h => ⟨h.1, h.2.1, by have h2 := h.2.2; have hl := lea_up es; omega⟩)) | (rw [one_l (by omega) (by omega) (by omega) (by omega)]; exact o5.map (fun s es h => ⟨h.1, h.2.1, by have h2 := h.2.2; have hl := lea_up es; omega⟩)), gWH⟩)
      · exfalso; omega
  · refine lv_aload_n hx hb dX7_readOne_15 rfl (lv_at hl 1 rfl) ?_
    refine fg_7_0 (k := 27) hx hb hts in_X7_readOne_7 hown hK hP (by decide) (by decide) (hts _ lk_X7_readOne_9) dX7_readOne_16 ?_
    refine r_iconst hx hb dX7_readOne_19 (by decide) (fun z171 ez171 => ?_)
    refine r_cVi (k := 1) (As := [.int z171]) (rest := []) ⟨hx, hb, hml, hown, hts⟩ hK hP hN hS (c_X8_blame_v l D cA ad hI σ0 τ0 hR z171 _ _ _ _ (by omega) gCT) (cwV 1 hts gX7_readOne_X8_blame rfl rfl rfl (by decide +kernel) ⟨by decide, by decide⟩) (rv_Tape hK hP (by decide) (by decide)) rfl hl.1 rfl (Nat.le_of_ble_eq_true rfl) dX7_readOne_20 (Nat.zero_le _) (Nat.zero_le _) (fun r172 u172 H172 locs172 hp172 hP hS => ?_)
    obtain ⟨σ172, τ172⟩ := u172
    obtain ⟨hR, f172, fL172, hq172, hp172_0, hp172_1, hp172_2, gnCT⟩ : P_X8_blame_v σ0 τ0 z171 _ _ _ _ r172 σ172 τ172 := hp172
    have hP : va_P D vwCl (gw cA ad σ172 τ172) H172 := hP
    obtain rfl := FrL.nil fL172
    have hF := hF.step f172 (by decide)
    have gCT := gCT.ag (Agr.fr f172 (by decide))
    have gWH := gWH.ag (Agr.fr f172 (by decide))
    have t173 : (σ172 24 1).toInt = (σ0 24 1).toInt := congrArg Int32.toInt (f172.at 24 1 (by decide))
    have t174 : (σ172 24 2).toInt = (σ0 24 2).toInt := congrArg Int32.toInt (f172.at 24 2 (by decide))
    exact r_zret hx hb hr hK hP hS hk (by omega) dX7_readOne_23 (show P_X7_readOne_d6 σ0 τ0 a1 b N mo q nn nm hc r172 σ172 τ0 from ⟨hR, hF, hFL, by omega, by first | exact RO.ofr ((one_l (by omega) (by omega) (by omega) (by omega)).trans (lea_n (by omega) (by omega))) (by omega) ⟨gCT, by omega, by omega⟩ | (exfalso; omega) | exact RO.ofk (one_x (by omega)) (by omega) (by omega) (by omega) | exact RO.ofk (one_4 (by omega) (by omega)) (by omega) (by omega) (by omega) | (obtain ⟨f, e1, x1, x2⟩ := o1.no (by omega); exact RO.ofl ((one_n (by omega) (by omega)).trans e1) (by omega) x1 x2) | exact RO.ofr ((one_n (by omega) (by omega)).trans e1) (by omega) ⟨gCT, by omega, by omega⟩ | (obtain ⟨f, e2, x1, x2⟩ := o2.no (by omega); exact RO.ofl (by rw [one_o (by omega) (by omega), e2, bnd_l]) (by omega) x1 x2) | (obtain ⟨f, e3, x1, x2⟩ := o3.no (by omega); exact RO.ofl (by rw [one_o (by omega) (by omega), e2, bnd_r, e3, bnd_l]) (by omega) x1 x2) | exact RO.ofr (by rw [one_o (by omega) (by omega), e2, bnd_r, e3, bnd_r]) (by omega) ⟨gCT, by omega, by omega⟩ | (rw [one_l (by omega) (by omega) (by omega) (by omega)]; exact o4.map (fun s es h => ⟨h.1, h.2.1, by have h2 := h.2.2; have hl := lea_up es; omega⟩)) | (rw [one_l (by omega) (by omega) (by omega) (by omega)]; exact o5.map (fun s es h => ⟨h.1, h.2.1, by have h2 := h.2.2; have hl := lea_up es; omega⟩)), gWH⟩)
abbrev L_X7_readAll_d6 : List Rc := [(1, 1, 7, 10), (372, 372, 0, 39), (376, 376, 0, 39), (380, 380, 0, 39), (24, 24, 1, 2), (1, 1, 12, 14)]
abbrev LL_X7_readAll_d6 : List Rc := [(1, 1, 11, 11)]
def P_X7_readAll_d6 (σ0 : Nat → Nat → Int32) (τ0 : Nat → Nat → Int64) (a1 : Int32) (b : Nat → Int) (N : Nat) (mo : Nat) (q : Nat) (nn : Nat) (nm : Nat → Int) (hc : Nat) (r : Int32) (σ : Nat → Nat → Int32) (τ : Nat → Nat → Int64) : Prop := Rg σ ∧ Fr L_X7_readAll_d6 σ0 σ ∧ FrL LL_X7_readAll_d6 τ0 τ ∧ (0 ≤ r.toInt ∧ r.toInt ≤ 1) ∧ (RO r σ (allP b N mo (fun q nn => oneP b N mo nm hc 3 q nn) q nn) (fun s => CT σ τ b N mo s.1 ∧ (σ 24 1).toInt = (s.2 : Int) ∧ (σ 24 2).toInt + 2 * (nn : Int) + 1 ≤ (σ0 24 2).toInt + 2 * (s.2 : Int))) ∧ WH σ τ nm hc
def J_X7_readAll_d6_12 (p : Program) (l : Launch) (e : Env) (s : State) (m : MethodId) (args : Array Value) (below : List Frame) (meth : Method) (c : Code) (D : va_G) (cA : Nat → ClassId) (ad : Nat → Nat) (σ0 : Nat → Nat → Int32) (τ0 : Nat → Nat → Int64) (a1 : Int32) (b : Nat → Int) (N : Nat) (mo : Nat) (q : Nat) (nn : Nat) (nm : Nat → Int) (hc : Nat) (n : Nat) : Prop := ∀ (σ : Nat → Nat → Int32) (τ : Nat → Nat → Int64) (H : Heap) (locs : List Loc) (x2 : Int32) (fu : Nat) (q1 : Nat) (n1 : Nat) (ls : Array Slot), Rg σ → Fr L_X7_readAll_d6 σ0 σ → FrL LL_X7_readAll_d6 τ0 τ → va_P D vwCl (gw cA ad σ τ) H → va_S (AA ad) s.heap H locs → (0 ≤ x2.toInt ∧ x2.toInt ≤ 200) → (0 ≤ (σ 24 1).toInt ∧ (σ 24 1).toInt ≤ 20) → (0 ≤ (σ 24 2).toInt ∧ (σ 24 2).toInt ≤ 40) → (allP b N mo (fun q nn => oneP b N mo nm hc 3 q nn) q nn = lopP b N mo 21 (fun q nn => oneP b N mo nm hc 3 q nn) fu q1 n1) → ((σ 24 1).toInt = (n1 : Int)) → (0 ≤ (σ 24 2).toInt ∧ (σ 24 2).toInt + 2 * (nn : Int) + 1 ≤ (σ0 24 2).toInt + 2 * (n1 : Int)) → ((fu : Int) + x2.toInt = 200) → (n1 ≤ 20) → (CT σ τ b N mo q1) → (WH σ τ nm hc) → (CT σ τ b N mo q1) → lv_has ls 3 [(0, .ref (ad 27)), (1, .int a1), (2, .int x2)] → 2 * (200 - x2.toInt) + 1 < (n : Int) → W p l e ({ frames := 11, cells := 0, slots := 0, locals := 241 } : Room) s m args below meth c H locs 0 0 (MQ below (va_Qi (fun (r : Int32) (u : SS) => P_X7_readAll_d6 σ0 τ0 a1 b N mo q nn nm hc r u.1 u.2) (WB D cA ad) (AA ad)) args s 0 0 (AA ad)) (F0 m 12 ls [])
set_option maxHeartbeats 4000000 in
theorem B_X7_readAll_d6_12 (p : Program) (l : Launch) (e : Env) (s : State) (m : MethodId) (args : Array Value) (below : List Frame) (meth : Method) (c : Code) (D : va_G) (cA : Nat → ClassId) (ad : Nat → Nat) (σ0 : Nat → Nat → Int32) (τ0 : Nat → Nat → Int64) (a1 : Int32) (b : Nat → Int) (N : Nat) (mo : Nat) (q : Nat) (nn : Nat) (nm : Nat → Int) (hc : Nat) (n : Nat) (C : Cy p s m args meth c cX7_readAll 3 wsX7_readAll RX7 D cA ad (some .boolean)) (ha1 : 6 ≤ a1.toInt ∧ a1.toInt ≤ 6) (hpre0 : (σ0 24 1).toInt = (nn : Int)) (hpre1 : 0 ≤ (σ0 24 2).toInt ∧ (σ0 24 2).toInt ≤ 2 * (nn : Int)) (hpre2 : nn ≤ 20) (gCT0 : CT σ0 τ0 b N mo q) (gWH0 : WH σ0 τ0 nm hc) (K12 : J_X7_readAll_d6_12 p l e s m args below meth c D cA ad σ0 τ0 a1 b N mo q nn nm hc n) : J_X7_readAll_d6_12 p l e s m args below meth c D cA ad σ0 τ0 a1 b N mo q nn nm hc (n + 1) := by
  obtain ⟨hx, hb, hml, hown, hts, hK, hk, hr, hI, hN⟩ := C
  intro σ τ H locs x2 fu q1 n1 ls hR hF hFL hP hS hc0 hc1 hc2 iv ib2 ib3 ifu in20 gCT gWH gCT hl hm
  refine lv_iload_n hx hb dX7_readAll_12 rfl (lv_at hl 2 rfl) ?_
  refine r_sipush hx hb dX7_readAll_13 (by decide) (fun z1 ez1 => ?_)
  refine r_icmp_ge (tgt := 68) hx hb dX7_readAll_16 (by decide) (fun c2 => ?_) (fun c2 => ?_)
  · refine r_iconst hx hb dX7_readAll_68 (by decide) (fun z3 ez3 => ?_)
    exact r_zret hx hb hr hK hP hS hk (by omega) dX7_readAll_69 (show P_X7_readAll_d6 σ0 τ0 a1 b N mo q nn nm hc z3 σ τ from ⟨hR, hF, hFL, by omega, by first | (exfalso; omega) | (obtain ⟨f, e1, x1, x2⟩ := o1.no (by omega); exact RO.ofl (all_f e1) (by omega) x1 x2) | exact RO.ofr (by rw [iv, lop_e (by omega)]) (by omega) ⟨gCT, by omega, by omega⟩ | (obtain ⟨f, e2, x1, x2⟩ := o2.no (by omega); exact RO.ofl (by rw [iv, lop_f (f := (fun q nn => oneP b N mo nm hc 3 q nn)) (by omega) (by omega) e2]) (by omega) x1 x2) | (exfalso; omega), gWH⟩)
  · have htk := gCT.tk
    refine lv_aload_n hx hb dX7_readAll_19 rfl (lv_at hl 0 rfl) ?_
    refine fg_7_0 (k := 27) hx hb hts in_X7_readAll_7 hown hK hP (by decide) (by decide) (hts _ lk_X7_readAll_9) dX7_readAll_20 ?_
    refine fgN_8_9 (k := 1) hx hb hts in_X7_readAll_8 hown hK hP (by decide) (by decide) (hN.use nw_7_32) dX7_readAll_23 ?_
    refine r_bipush hx hb dX7_readAll_26 (by decide) (fun z4 ez4 => ?_)
    refine r_icmp_ne (tgt := 68) hx hb dX7_readAll_28 (by decide) (fun c5 => ?_) (fun c5 => ?_)
    · refine r_iconst hx hb dX7_readAll_68 (by decide) (fun z6 ez6 => ?_)
      exact r_zret hx hb hr hK hP hS hk (by omega) dX7_readAll_69 (show P_X7_readAll_d6 σ0 τ0 a1 b N mo q nn nm hc z6 σ τ from ⟨hR, hF, hFL, by omega, by first | (exfalso; omega) | (obtain ⟨f, e1, x1, x2⟩ := o1.no (by omega); exact RO.ofl (all_f e1) (by omega) x1 x2) | exact RO.ofr (by rw [iv, lop_e (by omega)]) (by omega) ⟨gCT, by omega, by omega⟩ | (obtain ⟨f, e2, x1, x2⟩ := o2.no (by omega); exact RO.ofl (by rw [iv, lop_f (f := (fun q nn => oneP b N mo nm hc 3 q nn)) (by omega) (by omega) e2]) (by omega) x1 x2) | (exfalso; omega), gWH⟩)
    · refine lv_aload_n hx hb dX7_readAll_31 rfl (lv_at hl 0 rfl) ?_
      refine fg_7_0 (k := 27) hx hb hts in_X7_readAll_7 hown hK hP (by decide) (by decide) (hts _ lk_X7_readAll_9) dX7_readAll_32 ?_
      refine r_cVv (k := 1) (As := []) (rest := []) ⟨hx, hb, hml, hown, hts⟩ hK hP hN hS (c_X8_next_v l D cA ad hI σ τ hR _ _ _ _ gCT) (cwV 0 hts gX7_readAll_X8_next rfl rfl rfl (by decide +kernel) ⟨by decide, by decide⟩) (rv_Tape hK hP (by decide) (by decide)) rfl hl.1 rfl (Nat.le_of_ble_eq_true rfl) dX7_readAll_35 (Nat.zero_le _) (Nat.zero_le _) (fun u7 H7 locs7 hp7 hP hS => ?_)
      obtain ⟨σ7, τ7⟩ := u7
      obtain ⟨hR, f7, fL7, hp7_0⟩ : P_X8_next_v σ τ _ _ _ _ σ7 τ7 := hp7
      have hP : va_P D vwCl (gw cA ad σ7 τ7) H7 := hP
      have hFL := hFL.step fL7 (by decide)
      have gWH := gWH.agL (AgrL.fr fL7 (by decide))
      have hF := hF.step f7 (by decide)
      have gWH := gWH.ag (Agr.fr f7 (by decide))
      have t8 : (σ7 24 1).toInt = (σ 24 1).toInt := congrArg Int32.toInt (f7.at 24 1 (by decide))
      have t9 : (σ7 24 2).toInt = (σ 24 2).toInt := congrArg Int32.toInt (f7.at 24 2 (by decide))
      have gCT := hp7_0
      refine lv_aload_n hx hb dX7_readAll_38 rfl (lv_at hl 0 rfl) ?_
      refine lv_iload_n hx hb dX7_readAll_39 rfl (lv_at hl 1 rfl) ?_
      refine r_cVi (k := 27) (As := [.int a1]) (rest := []) ⟨hx, hb, hml, hown, hts⟩ hK hP hN hS (c_X7_readOne_d6 l D cA ad hI σ7 τ7 hR a1 b N mo _ n1 nm hc (by omega) (by omega) (by omega) (by omega) gCT gWH) (cwV 1 hts gX7_readAll_X7_readOne rfl rfl rfl (by decide +kernel) ⟨by decide, by decide⟩) (rv_SText hK hP (by decide) (by decide)) rfl hl.1 rfl (Nat.le_of_ble_eq_true rfl) dX7_readAll_40 (Nat.zero_le _) (Nat.zero_le _) (fun r10 u10 H10 locs10 hp10 hP hS => ?_)
      obtain ⟨σ10, τ10⟩ := u10
      obtain ⟨hR, f10, fL10, hq10, hp10_0, gnWH⟩ : P_X7_readOne_d6 σ7 τ7 a1 b N mo _ n1 nm hc r10 σ10 τ10 := hp10
      have o2 := hp10_0
      have hP : va_P D vwCl (gw cA ad σ10 τ10) H10 := hP
      have hFL := hFL.step fL10 (by decide)
      have gWH := gWH.agL (AgrL.fr fL10 (by decide))
      have hF := hF.step f10 (by decide)
      have gWH := gWH.ag (Agr.fr f10 (by decide))
      have hr11 := rg_6_1 hR (k := 24) (by decide) (by decide)
      have hr12 := rg_6_2 hR (k := 24) (by decide) (by decide)
      refine r_if_eq (tgt := 60) hx hb dX7_readAll_43 (by decide) (fun c13 => ?_) (fun c13 => ?_)
      · refine r_iconst hx hb dX7_readAll_60 (by decide) (fun z14 ez14 => ?_)
        exact r_zret hx hb hr hK hP hS hk (by omega) dX7_readAll_61 (show P_X7_readAll_d6 σ0 τ0 a1 b N mo q nn nm hc z14 σ10 τ10 from ⟨hR, hF, hFL, by omega, by first | (exfalso; omega) | (obtain ⟨f, e1, x1, x2⟩ := o1.no (by omega); exact RO.ofl (all_f e1) (by omega) x1 x2) | exact RO.ofr (by rw [iv, lop_e (by omega)]) (by omega) ⟨gCT, by omega, by omega⟩ | (obtain ⟨f, e2, x1, x2⟩ := o2.no (by omega); exact RO.ofl (by rw [iv, lop_f (f := (fun q nn => oneP b N mo nm hc 3 q nn)) (by omega) (by omega) e2]) (by omega) x1 x2) | (exfalso; omega), gWH⟩)
      · obtain ⟨s2, e2, gCT, hs3, hs4⟩ := o2.ye (by omega)
        have hu2 := one_up _ _ _ _ e2
        refine lv_aload_n hx hb dX7_readAll_46 rfl (lv_at hl 0 rfl) ?_
        refine fg_7_2 (k := 27) hx hb hts in_X7_readAll_7 hown hK hP (by decide) (by decide) (hts _ lk_X7_readAll_19) dX7_readAll_47 ?_
        refine r_bipush hx hb dX7_readAll_50 (by decide) (fun z15 ez15 => ?_)
        refine r_iconst hx hb dX7_readAll_52 (by decide) (fun z16 ez16 => ?_)
        refine r_iconst hx hb dX7_readAll_53 (by decide) (fun z17 ez17 => ?_)
        refine r_cVi (k := 24) (As := [.int z15, .int z16, .int z17]) (rest := []) ⟨hx, hb, hml, hown, hts⟩ hK hP hN hS (c_X6_add l D cA ad hI σ10 τ10 hR z15 z16 z17 (by omega)) (cwV 3 hts gX7_readAll_X6_add rfl rfl rfl (by decide +kernel) ⟨by decide, by decide⟩) (rv_Sent hK hP (by decide) (by decide)) rfl hl.1 rfl (Nat.le_of_ble_eq_true rfl) dX7_readAll_54 (Nat.zero_le _) (Nat.zero_le _) (fun r18 u18 H18 locs18 hp18 hP hS => ?_)
        obtain ⟨σ18, τ18⟩ := u18
        obtain ⟨hR, f18, fL18, hq18, hp18_0⟩ : P_X6_add σ10 τ10 z15 z16 z17 r18 σ18 τ18 := hp18
        have hP : va_P D vwCl (gw cA ad σ18 τ18) H18 := hP
        obtain rfl := FrL.nil fL18
        have hF := hF.step f18 (by decide)
        have gCT := gCT.ag (Agr.fr f18 (by decide))
        have gWH := gWH.ag (Agr.fr f18 (by decide))
        have t19 : (σ18 24 1).toInt = (σ10 24 1).toInt := congrArg Int32.toInt (f18.at 24 1 (by decide))
        have hr20 := rg_6_2 hR (k := 24) (by decide) (by decide)
        refine r_if_ne (tgt := 62) hx hb dX7_readAll_57 (by decide) (fun c21 => ?_) (fun c21 => ?_)
        · refine r_iinc (k := 2) (lv1 := fun z22 => [(2, .int z22), (0, .ref (ad 27)), (1, .int a1)]) hx hb dX7_readAll_62 hl rfl (by decide) (fun _ => rfl) (by decide) (by omega) (fun z22 ls ez22 hl => ?_)
          refine lv_goto (tgt := 12) hx hb dX7_readAll_65 (by decide) ?_
          exact K12 σ18 τ10 H18 locs18 z22 (fu - 1) _ _ ls hR hF hFL hP hS (by omega) (by omega) (by omega) (by first | exact all_s e1 | rw [iv, lop_s (f := (fun q nn => oneP b N mo nm hc 3 q nn)) (by omega) (by omega) e2]) (by omega) (by omega) (by omega) (by omega) gCT gWH gCT (lv_sub hl [1, 2, 0] rfl) (by omega)
        · refine r_iconst hx hb dX7_readAll_60 (by decide) (fun z23 ez23 => ?_)
          exact r_zret hx hb hr hK hP hS hk (by omega) dX7_readAll_61 (show P_X7_readAll_d6 σ0 τ0 a1 b N mo q nn nm hc z23 σ18 τ10 from ⟨hR, hF, hFL, by omega, by first | (exfalso; omega) | (obtain ⟨f, e1, x1, x2⟩ := o1.no (by omega); exact RO.ofl (all_f e1) (by omega) x1 x2) | exact RO.ofr (by rw [iv, lop_e (by omega)]) (by omega) ⟨gCT, by omega, by omega⟩ | (obtain ⟨f, e2, x1, x2⟩ := o2.no (by omega); exact RO.ofl (by rw [iv, lop_f (f := (fun q nn => oneP b N mo nm hc 3 q nn)) (by omega) (by omega) e2]) (by omega) x1 x2) | (exfalso; omega), gWH⟩)
theorem A_X7_readAll_d6 (p : Program) (l : Launch) (e : Env) (s : State) (m : MethodId) (args : Array Value) (below : List Frame) (meth : Method) (c : Code) (D : va_G) (cA : Nat → ClassId) (ad : Nat → Nat) (σ0 : Nat → Nat → Int32) (τ0 : Nat → Nat → Int64) (a1 : Int32) (b : Nat → Int) (N : Nat) (mo : Nat) (q : Nat) (nn : Nat) (nm : Nat → Int) (hc : Nat) (C : Cy p s m args meth c cX7_readAll 3 wsX7_readAll RX7 D cA ad (some .boolean)) (ha1 : 6 ≤ a1.toInt ∧ a1.toInt ≤ 6) (hpre0 : (σ0 24 1).toInt = (nn : Int)) (hpre1 : 0 ≤ (σ0 24 2).toInt ∧ (σ0 24 2).toInt ≤ 2 * (nn : Int)) (hpre2 : nn ≤ 20) (gCT0 : CT σ0 τ0 b N mo q) (gWH0 : WH σ0 τ0 nm hc) : ∀ n : Nat, J_X7_readAll_d6_12 p l e s m args below meth c D cA ad σ0 τ0 a1 b N mo q nn nm hc n := by
  intro n
  induction n with
  | zero =>
    exact (by intro σ τ H locs x2 fu q1 n1 ls hR hF hFL hP hS hc0 hc1 hc2 iv ib2 ib3 ifu in20 gCT gWH gCT hl hm; exfalso; omega)
  | succ n ih =>
    exact B_X7_readAll_d6_12 p l e s m args below meth c D cA ad σ0 τ0 a1 b N mo q nn nm hc n C ha1 hpre0 hpre1 hpre2 gCT0 gWH0 ih
set_option maxHeartbeats 4000000 in
theorem c_X7_readAll_d6 (l : Launch) (D : va_G) (cA : Nat → ClassId) (ad : Nat → Nat) (hI : Inj ad) (σ0 : Nat → Nat → Int32) (τ0 : Nat → Nat → Int64) (hR : Rg σ0) (a1 : Int32) (b : Nat → Int) (N : Nat) (mo : Nat) (q : Nat) (nn : Nat) (nm : Nat → Int) (hc : Nat) (ha1 : 6 ≤ a1.toInt ∧ a1.toInt ≤ 6) (hpre0 : (σ0 24 1).toInt = (nn : Int)) (hpre1 : 0 ≤ (σ0 24 2).toInt ∧ (σ0 24 2).toInt ≤ 2 * (nn : Int)) (hpre2 : nn ≤ 20) (gCT0 : CT σ0 τ0 b N mo q) (gWH0 : WH σ0 τ0 nm hc) : Met l yX7_readAll wsX7_readAll ({ frames := 11, cells := 0, slots := 0, locals := 241 } : Room) (WQc D cA ad [.ref (ad 27), .int a1] σ0 τ0) (va_Qi (fun (r : Int32) (u : SS) => P_X7_readAll_d6 σ0 τ0 a1 b N mo q nn nm hc r u.1 u.2) (WB D cA ad) (AA ad)) 0 0 (AA ad) := by
  refine Met.ofW (cc := cX7_readAll) (maxL := 3) (ret := (some .boolean)) (by decide) rfl ?_
  intro p e s m args below meth c s₁ B hml hv
  obtain ⟨rfl, hP, hK, hN⟩ := hv
  have C : Cy p s m _ meth c cX7_readAll 3 wsX7_readAll RX7 D cA ad (some .boolean) := ⟨B.exec, B.bytes, hml, findClass_of_methodNamed B.named, atoms_spec (ws := wsX7_readAll) B.pre, hK, B.notSynchronized, B.returns, hI, hN⟩
  have hl := lv_entry ([.ref (ad 27), .int a1]) (n := 3) (Nat.le_of_ble_eq_true rfl)
  rw [lg_entry_eq]
  generalize (lg_sl ([.ref (ad 27), .int a1]) ++ List.replicate (3 - (lg_sl ([.ref (ad 27), .int a1])).length) Slot.unset).toArray = ls at hl ⊢
  have hl : lv_has ls 3 [(0, .ref (ad 27)), (1, .int a1)] := hl
  have hS : va_S (AA ad) s.heap s.heap [] := va_S.rf
  have hF : Fr L_X7_readAll_d6 σ0 σ0 := Fr.rf
  have hFL : FrL LL_X7_readAll_d6 τ0 τ0 := FrL.rf
  have gCT := gCT0
  have gWH := gWH0
  have hA := A_X7_readAll_d6 p l e s m _ below meth c D cA ad σ0 τ0 a1 b N mo q nn nm hc C ha1 hpre0 hpre1 hpre2 gCT0 gWH0 810
  have K12 := hA
  clear hA
  obtain ⟨hx, hb, _, hown, hts, _, hk, hr, _, _⟩ := C
  refine lv_aload_n hx hb dX7_readAll_0 rfl (lv_at hl 0 rfl) ?_
  refine lv_iload_n hx hb dX7_readAll_1 rfl (lv_at hl 1 rfl) ?_
  refine r_cVi (k := 27) (As := [.int a1]) (rest := []) ⟨hx, hb, hml, hown, hts⟩ hK hP hN hS (c_X7_readOne_d6 l D cA ad hI σ0 τ0 hR a1 b N mo q nn nm hc (by omega) (by omega) (by omega) (by omega) gCT gWH) (cwV 1 hts gX7_readAll_X7_readOne rfl rfl rfl (by decide +kernel) ⟨by decide, by decide⟩) (rv_SText hK hP (by decide) (by decide)) rfl hl.1 rfl (Nat.le_of_ble_eq_true rfl) dX7_readAll_2 (Nat.zero_le _) (Nat.zero_le _) (fun r1 u1 H1 locs1 hp1 hP hS => ?_)
  obtain ⟨σ1, τ1⟩ := u1
  obtain ⟨hR, f1, fL1, hq1, hp1_0, gnWH⟩ : P_X7_readOne_d6 σ0 τ0 a1 b N mo q nn nm hc r1 σ1 τ1 := hp1
  have o1 := hp1_0
  have hP : va_P D vwCl (gw cA ad σ1 τ1) H1 := hP
  have hFL := hFL.step fL1 (by decide)
  have gWH := gWH.agL (AgrL.fr fL1 (by decide))
  have hF := hF.step f1 (by decide)
  have gWH := gWH.ag (Agr.fr f1 (by decide))
  have hr2 := rg_6_1 hR (k := 24) (by decide) (by decide)
  have hr3 := rg_6_2 hR (k := 24) (by decide) (by decide)
  refine r_if_ne (tgt := 10) hx hb dX7_readAll_5 (by decide) (fun c4 => ?_) (fun c4 => ?_)
  · obtain ⟨s1, e1, gCT, hs1, hs2⟩ := o1.ye (by omega)
    have hu1 := one_up _ _ _ _ e1
    refine r_iconst hx hb dX7_readAll_10 (by decide) (fun z5 ez5 => ?_)
    refine lv_istore_n (lv' := [(2, .int z5), (0, .ref (ad 27)), (1, .int a1)]) hx hb dX7_readAll_11 rfl hl (by decide) rfl (fun ls hl => ?_)
    exact K12 σ1 τ1 H1 locs1 z5 200 _ _ ls hR hF hFL hP hS (by omega) (by omega) (by omega) (by first | exact all_s e1 | rw [iv, lop_s (f := (fun q nn => oneP b N mo nm hc 3 q nn)) (by omega) (by omega) e2]) (by omega) (by omega) (by omega) (by omega) gCT gWH gCT (lv_sub hl [1, 2, 0] rfl) (by omega)
  · refine r_iconst hx hb dX7_readAll_8 (by decide) (fun z6 ez6 => ?_)
    exact r_zret hx hb hr hK hP hS hk (by omega) dX7_readAll_9 (show P_X7_readAll_d6 σ0 τ0 a1 b N mo q nn nm hc z6 σ1 τ1 from ⟨hR, hF, hFL, by omega, by first | (exfalso; omega) | (obtain ⟨f, e1, x1, x2⟩ := o1.no (by omega); exact RO.ofl (all_f e1) (by omega) x1 x2) | exact RO.ofr (by rw [iv, lop_e (by omega)]) (by omega) ⟨gCT, by omega, by omega⟩ | (obtain ⟨f, e2, x1, x2⟩ := o2.no (by omega); exact RO.ofl (by rw [iv, lop_f (f := (fun q nn => oneP b N mo nm hc 3 q nn)) (by omega) (by omega) e2]) (by omega) x1 x2) | (exfalso; omega), gWH⟩)
abbrev L_X7_readCond_d6 : List Rc := [(1, 1, 7, 10), (372, 372, 0, 39), (376, 376, 0, 39), (380, 380, 0, 39), (24, 24, 1, 2), (1, 1, 12, 14)]
abbrev LL_X7_readCond_d6 : List Rc := [(1, 1, 11, 11)]
def P_X7_readCond_d6 (σ0 : Nat → Nat → Int32) (τ0 : Nat → Nat → Int64) (a1 : Int32) (b : Nat → Int) (N : Nat) (mo : Nat) (q : Nat) (nn : Nat) (nm : Nat → Int) (hc : Nat) (r : Int32) (σ : Nat → Nat → Int32) (τ : Nat → Nat → Int64) : Prop := Rg σ ∧ Fr L_X7_readCond_d6 σ0 σ ∧ FrL LL_X7_readCond_d6 τ0 τ ∧ (0 ≤ r.toInt ∧ r.toInt ≤ 1) ∧ (RO r σ (conP b N mo (fun q nn => oneP b N mo nm hc 3 q nn) q nn) (fun s => CT σ τ b N mo s.1 ∧ (σ 24 1).toInt = (s.2 : Int) ∧ (σ 24 2).toInt + 2 * (nn : Int) + 1 ≤ (σ0 24 2).toInt + 2 * (s.2 : Int))) ∧ WH σ τ nm hc
def J_X7_readCond_d6_12 (p : Program) (l : Launch) (e : Env) (s : State) (m : MethodId) (args : Array Value) (below : List Frame) (meth : Method) (c : Code) (D : va_G) (cA : Nat → ClassId) (ad : Nat → Nat) (σ0 : Nat → Nat → Int32) (τ0 : Nat → Nat → Int64) (a1 : Int32) (b : Nat → Int) (N : Nat) (mo : Nat) (q : Nat) (nn : Nat) (nm : Nat → Int) (hc : Nat) (n : Nat) : Prop := ∀ (σ : Nat → Nat → Int32) (τ : Nat → Nat → Int64) (H : Heap) (locs : List Loc) (x2 : Int32) (fu : Nat) (q1 : Nat) (n1 : Nat) (ls : Array Slot), Rg σ → Fr L_X7_readCond_d6 σ0 σ → FrL LL_X7_readCond_d6 τ0 τ → va_P D vwCl (gw cA ad σ τ) H → va_S (AA ad) s.heap H locs → (0 ≤ x2.toInt ∧ x2.toInt ≤ 200) → (0 ≤ (σ 24 1).toInt ∧ (σ 24 1).toInt ≤ 20) → (0 ≤ (σ 24 2).toInt ∧ (σ 24 2).toInt ≤ 40) → (conP b N mo (fun q nn => oneP b N mo nm hc 3 q nn) q nn = lopP b N mo 20 (allP b N mo (fun q nn => oneP b N mo nm hc 3 q nn)) fu q1 n1) → ((σ 24 1).toInt = (n1 : Int)) → (0 ≤ (σ 24 2).toInt ∧ (σ 24 2).toInt + 2 * (nn : Int) + 1 ≤ (σ0 24 2).toInt + 2 * (n1 : Int)) → ((fu : Int) + x2.toInt = 200) → (n1 ≤ 20) → (CT σ τ b N mo q1) → (WH σ τ nm hc) → (CT σ τ b N mo q1) → lv_has ls 3 [(0, .ref (ad 27)), (1, .int a1), (2, .int x2)] → 2 * (200 - x2.toInt) + 1 < (n : Int) → W p l e ({ frames := 12, cells := 0, slots := 0, locals := 263 } : Room) s m args below meth c H locs 0 0 (MQ below (va_Qi (fun (r : Int32) (u : SS) => P_X7_readCond_d6 σ0 τ0 a1 b N mo q nn nm hc r u.1 u.2) (WB D cA ad) (AA ad)) args s 0 0 (AA ad)) (F0 m 12 ls [])
set_option maxHeartbeats 4000000 in
theorem B_X7_readCond_d6_12 (p : Program) (l : Launch) (e : Env) (s : State) (m : MethodId) (args : Array Value) (below : List Frame) (meth : Method) (c : Code) (D : va_G) (cA : Nat → ClassId) (ad : Nat → Nat) (σ0 : Nat → Nat → Int32) (τ0 : Nat → Nat → Int64) (a1 : Int32) (b : Nat → Int) (N : Nat) (mo : Nat) (q : Nat) (nn : Nat) (nm : Nat → Int) (hc : Nat) (n : Nat) (C : Cy p s m args meth c cX7_readCond 3 wsX7_readCond RX7 D cA ad (some .boolean)) (ha1 : 6 ≤ a1.toInt ∧ a1.toInt ≤ 6) (hpre0 : (σ0 24 1).toInt = (nn : Int)) (hpre1 : 0 ≤ (σ0 24 2).toInt ∧ (σ0 24 2).toInt ≤ 2 * (nn : Int)) (hpre2 : nn ≤ 20) (gCT0 : CT σ0 τ0 b N mo q) (gWH0 : WH σ0 τ0 nm hc) (K12 : J_X7_readCond_d6_12 p l e s m args below meth c D cA ad σ0 τ0 a1 b N mo q nn nm hc n) : J_X7_readCond_d6_12 p l e s m args below meth c D cA ad σ0 τ0 a1 b N mo q nn nm hc (n + 1) := by
  obtain ⟨hx, hb, hml, hown, hts, hK, hk, hr, hI, hN⟩ := C
  intro σ τ H locs x2 fu q1 n1 ls hR hF hFL hP hS hc0 hc1 hc2 iv ib2 ib3 ifu in20 gCT gWH gCT hl hm
  refine lv_iload_n hx hb dX7_readCond_12 rfl (lv_at hl 2 rfl) ?_
  refine r_sipush hx hb dX7_readCond_13 (by decide) (fun z1 ez1 => ?_)
  refine r_icmp_ge (tgt := 68) hx hb dX7_readCond_16 (by decide) (fun c2 => ?_) (fun c2 => ?_)
  · refine r_iconst hx hb dX7_readCond_68 (by decide) (fun z3 ez3 => ?_)
    exact r_zret hx hb hr hK hP hS hk (by omega) dX7_readCond_69 (show P_X7_readCond_d6 σ0 τ0 a1 b N mo q nn nm hc z3 σ τ from ⟨hR, hF, hFL, by omega, by first | (exfalso; omega) | (obtain ⟨f, e1, x1, x2⟩ := o1.no (by omega); exact RO.ofl (con_f e1) (by omega) x1 x2) | exact RO.ofr (by rw [iv, lop_e (by omega)]) (by omega) ⟨gCT, by omega, by omega⟩ | (obtain ⟨f, e2, x1, x2⟩ := o2.no (by omega); exact RO.ofl (by rw [iv, lop_f (f := (allP b N mo (fun q nn => oneP b N mo nm hc 3 q nn))) (by omega) (by omega) e2]) (by omega) x1 x2) | (exfalso; omega), gWH⟩)
  · have htk := gCT.tk
    refine lv_aload_n hx hb dX7_readCond_19 rfl (lv_at hl 0 rfl) ?_
    refine fg_7_0 (k := 27) hx hb hts in_X7_readCond_7 hown hK hP (by decide) (by decide) (hts _ lk_X7_readCond_9) dX7_readCond_20 ?_
    refine fgN_8_9 (k := 1) hx hb hts in_X7_readCond_8 hown hK hP (by decide) (by decide) (hN.use nw_7_32) dX7_readCond_23 ?_
    refine r_bipush hx hb dX7_readCond_26 (by decide) (fun z4 ez4 => ?_)
    refine r_icmp_ne (tgt := 68) hx hb dX7_readCond_28 (by decide) (fun c5 => ?_) (fun c5 => ?_)
    · refine r_iconst hx hb dX7_readCond_68 (by decide) (fun z6 ez6 => ?_)
      exact r_zret hx hb hr hK hP hS hk (by omega) dX7_readCond_69 (show P_X7_readCond_d6 σ0 τ0 a1 b N mo q nn nm hc z6 σ τ from ⟨hR, hF, hFL, by omega, by first | (exfalso; omega) | (obtain ⟨f, e1, x1, x2⟩ := o1.no (by omega); exact RO.ofl (con_f e1) (by omega) x1 x2) | exact RO.ofr (by rw [iv, lop_e (by omega)]) (by omega) ⟨gCT, by omega, by omega⟩ | (obtain ⟨f, e2, x1, x2⟩ := o2.no (by omega); exact RO.ofl (by rw [iv, lop_f (f := (allP b N mo (fun q nn => oneP b N mo nm hc 3 q nn))) (by omega) (by omega) e2]) (by omega) x1 x2) | (exfalso; omega), gWH⟩)
    · refine lv_aload_n hx hb dX7_readCond_31 rfl (lv_at hl 0 rfl) ?_
      refine fg_7_0 (k := 27) hx hb hts in_X7_readCond_7 hown hK hP (by decide) (by decide) (hts _ lk_X7_readCond_9) dX7_readCond_32 ?_
      refine r_cVv (k := 1) (As := []) (rest := []) ⟨hx, hb, hml, hown, hts⟩ hK hP hN hS (c_X8_next_v l D cA ad hI σ τ hR _ _ _ _ gCT) (cwV 0 hts gX7_readCond_X8_next rfl rfl rfl (by decide +kernel) ⟨by decide, by decide⟩) (rv_Tape hK hP (by decide) (by decide)) rfl hl.1 rfl (Nat.le_of_ble_eq_true rfl) dX7_readCond_35 (Nat.zero_le _) (Nat.zero_le _) (fun u7 H7 locs7 hp7 hP hS => ?_)
      obtain ⟨σ7, τ7⟩ := u7
      obtain ⟨hR, f7, fL7, hp7_0⟩ : P_X8_next_v σ τ _ _ _ _ σ7 τ7 := hp7
      have hP : va_P D vwCl (gw cA ad σ7 τ7) H7 := hP
      have hFL := hFL.step fL7 (by decide)
      have gWH := gWH.agL (AgrL.fr fL7 (by decide))
      have hF := hF.step f7 (by decide)
      have gWH := gWH.ag (Agr.fr f7 (by decide))
      have t8 : (σ7 24 1).toInt = (σ 24 1).toInt := congrArg Int32.toInt (f7.at 24 1 (by decide))
      have t9 : (σ7 24 2).toInt = (σ 24 2).toInt := congrArg Int32.toInt (f7.at 24 2 (by decide))
      have gCT := hp7_0
      refine lv_aload_n hx hb dX7_readCond_38 rfl (lv_at hl 0 rfl) ?_
      refine lv_iload_n hx hb dX7_readCond_39 rfl (lv_at hl 1 rfl) ?_
      refine r_cVi (k := 27) (As := [.int a1]) (rest := []) ⟨hx, hb, hml, hown, hts⟩ hK hP hN hS (c_X7_readAll_d6 l D cA ad hI σ7 τ7 hR a1 b N mo _ n1 nm hc (by omega) (by omega) (by omega) (by omega) gCT gWH) (cwV 1 hts gX7_readCond_X7_readAll rfl rfl rfl (by decide +kernel) ⟨by decide, by decide⟩) (rv_SText hK hP (by decide) (by decide)) rfl hl.1 rfl (Nat.le_of_ble_eq_true rfl) dX7_readCond_40 (Nat.zero_le _) (Nat.zero_le _) (fun r10 u10 H10 locs10 hp10 hP hS => ?_)
      obtain ⟨σ10, τ10⟩ := u10
      obtain ⟨hR, f10, fL10, hq10, hp10_0, gnWH⟩ : P_X7_readAll_d6 σ7 τ7 a1 b N mo _ n1 nm hc r10 σ10 τ10 := hp10
      have o2 := hp10_0
      have hP : va_P D vwCl (gw cA ad σ10 τ10) H10 := hP
      have hFL := hFL.step fL10 (by decide)
      have gWH := gWH.agL (AgrL.fr fL10 (by decide))
      have hF := hF.step f10 (by decide)
      have gWH := gWH.ag (Agr.fr f10 (by decide))
      have hr11 := rg_6_1 hR (k := 24) (by decide) (by decide)
      have hr12 := rg_6_2 hR (k := 24) (by decide) (by decide)
      refine r_if_eq (tgt := 60) hx hb dX7_readCond_43 (by decide) (fun c13 => ?_) (fun c13 => ?_)
      · refine r_iconst hx hb dX7_readCond_60 (by decide) (fun z14 ez14 => ?_)
        exact r_zret hx hb hr hK hP hS hk (by omega) dX7_readCond_61 (show P_X7_readCond_d6 σ0 τ0 a1 b N mo q nn nm hc z14 σ10 τ10 from ⟨hR, hF, hFL, by omega, by first | (exfalso; omega) | (obtain ⟨f, e1, x1, x2⟩ := o1.no (by omega); exact RO.ofl (con_f e1) (by omega) x1 x2) | exact RO.ofr (by rw [iv, lop_e (by omega)]) (by omega) ⟨gCT, by omega, by omega⟩ | (obtain ⟨f, e2, x1, x2⟩ := o2.no (by omega); exact RO.ofl (by rw [iv, lop_f (f := (allP b N mo (fun q nn => oneP b N mo nm hc 3 q nn))) (by omega) (by omega) e2]) (by omega) x1 x2) | (exfalso; omega), gWH⟩)
      · obtain ⟨s2, e2, gCT, hs3, hs4⟩ := o2.ye (by omega)
        have hu2 := all_up (one_up _) _ _ _ e2
        refine lv_aload_n hx hb dX7_readCond_46 rfl (lv_at hl 0 rfl) ?_
        refine fg_7_2 (k := 27) hx hb hts in_X7_readCond_7 hown hK hP (by decide) (by decide) (hts _ lk_X7_readCond_19) dX7_readCond_47 ?_
        refine r_bipush hx hb dX7_readCond_50 (by decide) (fun z15 ez15 => ?_)
        refine r_iconst hx hb dX7_readCond_52 (by decide) (fun z16 ez16 => ?_)
        refine r_iconst hx hb dX7_readCond_53 (by decide) (fun z17 ez17 => ?_)
        refine r_cVi (k := 24) (As := [.int z15, .int z16, .int z17]) (rest := []) ⟨hx, hb, hml, hown, hts⟩ hK hP hN hS (c_X6_add l D cA ad hI σ10 τ10 hR z15 z16 z17 (by omega)) (cwV 3 hts gX7_readCond_X6_add rfl rfl rfl (by decide +kernel) ⟨by decide, by decide⟩) (rv_Sent hK hP (by decide) (by decide)) rfl hl.1 rfl (Nat.le_of_ble_eq_true rfl) dX7_readCond_54 (Nat.zero_le _) (Nat.zero_le _) (fun r18 u18 H18 locs18 hp18 hP hS => ?_)
        obtain ⟨σ18, τ18⟩ := u18
        obtain ⟨hR, f18, fL18, hq18, hp18_0⟩ : P_X6_add σ10 τ10 z15 z16 z17 r18 σ18 τ18 := hp18
        have hP : va_P D vwCl (gw cA ad σ18 τ18) H18 := hP
        obtain rfl := FrL.nil fL18
        have hF := hF.step f18 (by decide)
        have gCT := gCT.ag (Agr.fr f18 (by decide))
        have gWH := gWH.ag (Agr.fr f18 (by decide))
        have t19 : (σ18 24 1).toInt = (σ10 24 1).toInt := congrArg Int32.toInt (f18.at 24 1 (by decide))
        have hr20 := rg_6_2 hR (k := 24) (by decide) (by decide)
        refine r_if_ne (tgt := 62) hx hb dX7_readCond_57 (by decide) (fun c21 => ?_) (fun c21 => ?_)
        · refine r_iinc (k := 2) (lv1 := fun z22 => [(2, .int z22), (0, .ref (ad 27)), (1, .int a1)]) hx hb dX7_readCond_62 hl rfl (by decide) (fun _ => rfl) (by decide) (by omega) (fun z22 ls ez22 hl => ?_)
          refine lv_goto (tgt := 12) hx hb dX7_readCond_65 (by decide) ?_
          exact K12 σ18 τ10 H18 locs18 z22 (fu - 1) _ _ ls hR hF hFL hP hS (by omega) (by omega) (by omega) (by first | exact con_s e1 | rw [iv, lop_s (f := (allP b N mo (fun q nn => oneP b N mo nm hc 3 q nn))) (by omega) (by omega) e2]) (by omega) (by omega) (by omega) (by omega) gCT gWH gCT (lv_sub hl [1, 2, 0] rfl) (by omega)
        · refine r_iconst hx hb dX7_readCond_60 (by decide) (fun z23 ez23 => ?_)
          exact r_zret hx hb hr hK hP hS hk (by omega) dX7_readCond_61 (show P_X7_readCond_d6 σ0 τ0 a1 b N mo q nn nm hc z23 σ18 τ10 from ⟨hR, hF, hFL, by omega, by first | (exfalso; omega) | (obtain ⟨f, e1, x1, x2⟩ := o1.no (by omega); exact RO.ofl (con_f e1) (by omega) x1 x2) | exact RO.ofr (by rw [iv, lop_e (by omega)]) (by omega) ⟨gCT, by omega, by omega⟩ | (obtain ⟨f, e2, x1, x2⟩ := o2.no (by omega); exact RO.ofl (by rw [iv, lop_f (f := (allP b N mo (fun q nn => oneP b N mo nm hc 3 q nn))) (by omega) (by omega) e2]) (by omega) x1 x2) | (exfalso; omega), gWH⟩)
theorem A_X7_readCond_d6 (p : Program) (l : Launch) (e : Env) (s : State) (m : MethodId) (args : Array Value) (below : List Frame) (meth : Method) (c : Code) (D : va_G) (cA : Nat → ClassId) (ad : Nat → Nat) (σ0 : Nat → Nat → Int32) (τ0 : Nat → Nat → Int64) (a1 : Int32) (b : Nat → Int) (N : Nat) (mo : Nat) (q : Nat) (nn : Nat) (nm : Nat → Int) (hc : Nat) (C : Cy p s m args meth c cX7_readCond 3 wsX7_readCond RX7 D cA ad (some .boolean)) (ha1 : 6 ≤ a1.toInt ∧ a1.toInt ≤ 6) (hpre0 : (σ0 24 1).toInt = (nn : Int)) (hpre1 : 0 ≤ (σ0 24 2).toInt ∧ (σ0 24 2).toInt ≤ 2 * (nn : Int)) (hpre2 : nn ≤ 20) (gCT0 : CT σ0 τ0 b N mo q) (gWH0 : WH σ0 τ0 nm hc) : ∀ n : Nat, J_X7_readCond_d6_12 p l e s m args below meth c D cA ad σ0 τ0 a1 b N mo q nn nm hc n := by
  intro n
  induction n with
  | zero =>
    exact (by intro σ τ H locs x2 fu q1 n1 ls hR hF hFL hP hS hc0 hc1 hc2 iv ib2 ib3 ifu in20 gCT gWH gCT hl hm; exfalso; omega)
  | succ n ih =>
    exact B_X7_readCond_d6_12 p l e s m args below meth c D cA ad σ0 τ0 a1 b N mo q nn nm hc n C ha1 hpre0 hpre1 hpre2 gCT0 gWH0 ih
set_option maxHeartbeats 4000000 in
theorem c_X7_readCond_d6 (l : Launch) (D : va_G) (cA : Nat → ClassId) (ad : Nat → Nat) (hI : Inj ad) (σ0 : Nat → Nat → Int32) (τ0 : Nat → Nat → Int64) (hR : Rg σ0) (a1 : Int32) (b : Nat → Int) (N : Nat) (mo : Nat) (q : Nat) (nn : Nat) (nm : Nat → Int) (hc : Nat) (ha1 : 6 ≤ a1.toInt ∧ a1.toInt ≤ 6) (hpre0 : (σ0 24 1).toInt = (nn : Int)) (hpre1 : 0 ≤ (σ0 24 2).toInt ∧ (σ0 24 2).toInt ≤ 2 * (nn : Int)) (hpre2 : nn ≤ 20) (gCT0 : CT σ0 τ0 b N mo q) (gWH0 : WH σ0 τ0 nm hc) : Met l yX7_readCond wsX7_readCond ({ frames := 12, cells := 0, slots := 0, locals := 263 } : Room) (WQc D cA ad [.ref (ad 27), .int a1] σ0 τ0) (va_Qi (fun (r : Int32) (u : SS) => P_X7_readCond_d6 σ0 τ0 a1 b N mo q nn nm hc r u.1 u.2) (WB D cA ad) (AA ad)) 0 0 (AA ad) := by
  refine Met.ofW (cc := cX7_readCond) (maxL := 3) (ret := (some .boolean)) (by decide) rfl ?_
  intro p e s m args below meth c s₁ B hml hv
  obtain ⟨rfl, hP, hK, hN⟩ := hv
  have C : Cy p s m _ meth c cX7_readCond 3 wsX7_readCond RX7 D cA ad (some .boolean) := ⟨B.exec, B.bytes, hml, findClass_of_methodNamed B.named, atoms_spec (ws := wsX7_readCond) B.pre, hK, B.notSynchronized, B.returns, hI, hN⟩
  have hl := lv_entry ([.ref (ad 27), .int a1]) (n := 3) (Nat.le_of_ble_eq_true rfl)
  rw [lg_entry_eq]
  generalize (lg_sl ([.ref (ad 27), .int a1]) ++ List.replicate (3 - (lg_sl ([.ref (ad 27), .int a1])).length) Slot.unset).toArray = ls at hl ⊢
  have hl : lv_has ls 3 [(0, .ref (ad 27)), (1, .int a1)] := hl
  have hS : va_S (AA ad) s.heap s.heap [] := va_S.rf
  have hF : Fr L_X7_readCond_d6 σ0 σ0 := Fr.rf
  have hFL : FrL LL_X7_readCond_d6 τ0 τ0 := FrL.rf
  have gCT := gCT0
  have gWH := gWH0
  have hA := A_X7_readCond_d6 p l e s m _ below meth c D cA ad σ0 τ0 a1 b N mo q nn nm hc C ha1 hpre0 hpre1 hpre2 gCT0 gWH0 810
  have K12 := hA
  clear hA
  obtain ⟨hx, hb, _, hown, hts, _, hk, hr, _, _⟩ := C
  refine lv_aload_n hx hb dX7_readCond_0 rfl (lv_at hl 0 rfl) ?_
  refine lv_iload_n hx hb dX7_readCond_1 rfl (lv_at hl 1 rfl) ?_
  refine r_cVi (k := 27) (As := [.int a1]) (rest := []) ⟨hx, hb, hml, hown, hts⟩ hK hP hN hS (c_X7_readAll_d6 l D cA ad hI σ0 τ0 hR a1 b N mo q nn nm hc (by omega) (by omega) (by omega) (by omega) gCT gWH) (cwV 1 hts gX7_readCond_X7_readAll rfl rfl rfl (by decide +kernel) ⟨by decide, by decide⟩) (rv_SText hK hP (by decide) (by decide)) rfl hl.1 rfl (Nat.le_of_ble_eq_true rfl) dX7_readCond_2 (Nat.zero_le _) (Nat.zero_le _) (fun r1 u1 H1 locs1 hp1 hP hS => ?_)
  obtain ⟨σ1, τ1⟩ := u1
  obtain ⟨hR, f1, fL1, hq1, hp1_0, gnWH⟩ : P_X7_readAll_d6 σ0 τ0 a1 b N mo q nn nm hc r1 σ1 τ1 := hp1
  have o1 := hp1_0
  have hP : va_P D vwCl (gw cA ad σ1 τ1) H1 := hP
  have hFL := hFL.step fL1 (by decide)
  have gWH := gWH.agL (AgrL.fr fL1 (by decide))
  have hF := hF.step f1 (by decide)
  have gWH := gWH.ag (Agr.fr f1 (by decide))
  have hr2 := rg_6_1 hR (k := 24) (by decide) (by decide)
  have hr3 := rg_6_2 hR (k := 24) (by decide) (by decide)
  refine r_if_ne (tgt := 10) hx hb dX7_readCond_5 (by decide) (fun c4 => ?_) (fun c4 => ?_)
  · obtain ⟨s1, e1, gCT, hs1, hs2⟩ := o1.ye (by omega)
    have hu1 := all_up (one_up _) _ _ _ e1
    refine r_iconst hx hb dX7_readCond_10 (by decide) (fun z5 ez5 => ?_)
    refine lv_istore_n (lv' := [(2, .int z5), (0, .ref (ad 27)), (1, .int a1)]) hx hb dX7_readCond_11 rfl hl (by decide) rfl (fun ls hl => ?_)
    exact K12 σ1 τ1 H1 locs1 z5 200 _ _ ls hR hF hFL hP hS (by omega) (by omega) (by omega) (by first | exact con_s e1 | rw [iv, lop_s (f := (allP b N mo (fun q nn => oneP b N mo nm hc 3 q nn))) (by omega) (by omega) e2]) (by omega) (by omega) (by omega) (by omega) gCT gWH gCT (lv_sub hl [1, 2, 0] rfl) (by omega)
  · refine r_iconst hx hb dX7_readCond_8 (by decide) (fun z6 ez6 => ?_)
    exact r_zret hx hb hr hK hP hS hk (by omega) dX7_readCond_9 (show P_X7_readCond_d6 σ0 τ0 a1 b N mo q nn nm hc z6 σ1 τ1 from ⟨hR, hF, hFL, by omega, by first | (exfalso; omega) | (obtain ⟨f, e1, x1, x2⟩ := o1.no (by omega); exact RO.ofl (con_f e1) (by omega) x1 x2) | exact RO.ofr (by rw [iv, lop_e (by omega)]) (by omega) ⟨gCT, by omega, by omega⟩ | (obtain ⟨f, e2, x1, x2⟩ := o2.no (by omega); exact RO.ofl (by rw [iv, lop_f (f := (allP b N mo (fun q nn => oneP b N mo nm hc 3 q nn))) (by omega) (by omega) e2]) (by omega) x1 x2) | (exfalso; omega), gWH⟩)
abbrev L_X7_readOne_d5 : List Rc := [(1, 1, 7, 10), (372, 372, 0, 39), (376, 376, 0, 39), (380, 380, 0, 39), (24, 24, 1, 2), (1, 1, 12, 14)]
abbrev LL_X7_readOne_d5 : List Rc := [(1, 1, 11, 11)]
def P_X7_readOne_d5 (σ0 : Nat → Nat → Int32) (τ0 : Nat → Nat → Int64) (a1 : Int32) (b : Nat → Int) (N : Nat) (mo : Nat) (q : Nat) (nn : Nat) (nm : Nat → Int) (hc : Nat) (r : Int32) (σ : Nat → Nat → Int32) (τ : Nat → Nat → Int64) : Prop := Rg σ ∧ Fr L_X7_readOne_d5 σ0 σ ∧ FrL LL_X7_readOne_d5 τ0 τ ∧ (0 ≤ r.toInt ∧ r.toInt ≤ 1) ∧ (RO r σ (oneP b N mo nm hc 4 q nn) (fun s => CT σ τ b N mo s.1 ∧ (σ 24 1).toInt = (s.2 : Int) ∧ (σ 24 2).toInt + 2 * (nn : Int) + 1 ≤ (σ0 24 2).toInt + 2 * (s.2 : Int))) ∧ WH σ τ nm hc
set_option maxHeartbeats 4000000 in
theorem c_X7_readOne_d5 (l : Launch) (D : va_G) (cA : Nat → ClassId) (ad : Nat → Nat) (hI : Inj ad) (σ0 : Nat → Nat → Int32) (τ0 : Nat → Nat → Int64) (hR : Rg σ0) (a1 : Int32) (b : Nat → Int) (N : Nat) (mo : Nat) (q : Nat) (nn : Nat) (nm : Nat → Int) (hc : Nat) (ha1 : 5 ≤ a1.toInt ∧ a1.toInt ≤ 5) (hpre0 : (σ0 24 1).toInt = (nn : Int)) (hpre1 : 0 ≤ (σ0 24 2).toInt ∧ (σ0 24 2).toInt ≤ 2 * (nn : Int)) (hpre2 : nn ≤ 20) (gCT0 : CT σ0 τ0 b N mo q) (gWH0 : WH σ0 τ0 nm hc) : Met l yX7_readOne wsX7_readOne ({ frames := 13, cells := 0, slots := 0, locals := 285 } : Room) (WQc D cA ad [.ref (ad 27), .int a1] σ0 τ0) (va_Qi (fun (r : Int32) (u : SS) => P_X7_readOne_d5 σ0 τ0 a1 b N mo q nn nm hc r u.1 u.2) (WB D cA ad) (AA ad)) 0 0 (AA ad) := by
  refine Met.ofW (cc := cX7_readOne) (maxL := 3) (ret := (some .boolean)) (by decide) rfl ?_
  intro p e s m args below meth c s₁ B hml hv
  obtain ⟨rfl, hP, hK, hN⟩ := hv
  have C : Cy p s m _ meth c cX7_readOne 3 wsX7_readOne RX7 D cA ad (some .boolean) := ⟨B.exec, B.bytes, hml, findClass_of_methodNamed B.named, atoms_spec (ws := wsX7_readOne) B.pre, hK, B.notSynchronized, B.returns, hI, hN⟩
  have hl := lv_entry ([.ref (ad 27), .int a1]) (n := 3) (Nat.le_of_ble_eq_true rfl)
  rw [lg_entry_eq]
  generalize (lg_sl ([.ref (ad 27), .int a1]) ++ List.replicate (3 - (lg_sl ([.ref (ad 27), .int a1])).length) Slot.unset).toArray = ls at hl ⊢
  have hl : lv_has ls 3 [(0, .ref (ad 27)), (1, .int a1)] := hl
  have hS : va_S (AA ad) s.heap s.heap [] := va_S.rf
  have hF : Fr L_X7_readOne_d5 σ0 σ0 := Fr.rf
  have hFL : FrL LL_X7_readOne_d5 τ0 τ0 := FrL.rf
  have gCT := gCT0
  have gWH := gWH0
  obtain ⟨hx, hb, _, hown, hts, _, hk, hr, _, _⟩ := C
  have htk := gCT.tk
  refine lv_aload_n hx hb dX7_readOne_0 rfl (lv_at hl 0 rfl) ?_
  refine fg_7_0 (k := 27) hx hb hts in_X7_readOne_7 hown hK hP (by decide) (by decide) (hts _ lk_X7_readOne_9) dX7_readOne_1 ?_
  refine fgN_8_9 (k := 1) hx hb hts in_X7_readOne_8 hown hK hP (by decide) (by decide) (hN.use nw_7_32) dX7_readOne_4 ?_
  refine lv_istore_n (lv' := [(2, .int (σ0 1 9)), (0, .ref (ad 27)), (1, .int a1)]) hx hb dX7_readOne_7 rfl hl (by decide) rfl (fun ls hl => ?_)
  refine lv_iload_n hx hb dX7_readOne_8 rfl (lv_at hl 0 rfl) ?_
  refine r_cSi (As := [.int (σ0 1 9)]) (rest := []) ⟨hx, hb, hml, hown, hts⟩ hK hP hN hS (c_X7_beginsOne l D cA ad hI σ0 τ0 hR (σ0 1 9)) (va_cwS 1 hts gX7_readOne_X7_beginsOne rfl rfl rfl (by decide +kernel) ⟨by decide, by decide⟩) rfl hl.1 rfl (Nat.le_of_ble_eq_true rfl) dX7_readOne_9 (Nat.zero_le _) (Nat.zero_le _) (fun r1 u1 H1 locs1 hp1 hP hS => ?_)
  obtain ⟨σ1, τ1⟩ := u1
  obtain ⟨hR, f1, fL1, hq1, hp1_0⟩ : P_X7_beginsOne σ0 τ0 (σ0 1 9) r1 σ1 τ1 := hp1
  have hP : va_P D vwCl (gw cA ad σ1 τ1) H1 := hP
  obtain rfl := FrL.nil fL1
  obtain rfl := Fr.nil f1
  refine r_if_ne (tgt := 24) hx hb dX7_readOne_12 (by decide) (fun c2 => ?_) (fun c2 => ?_)
  · refine lv_aload_n hx hb dX7_readOne_24 rfl (lv_at hl 1 rfl) ?_
    refine fg_7_2 (k := 27) hx hb hts in_X7_readOne_7 hown hK hP (by decide) (by decide) (hts _ lk_X7_readOne_19) dX7_readOne_25 ?_
    refine fgN_6_1 (k := 24) hx hb hts in_X7_readOne_6 hown hK hP (by decide) (by decide) (hN.use nw_7_61) dX7_readOne_28 ?_
    refine r_bipush hx hb dX7_readOne_31 (by decide) (fun z3 ez3 => ?_)
    refine r_icmp_ge (tgt := 42) hx hb dX7_readOne_33 (by decide) (fun c4 => ?_) (fun c4 => ?_)
    · refine lv_aload_n hx hb dX7_readOne_42 rfl (lv_at hl 1 rfl) ?_
      refine fg_7_0 (k := 27) hx hb hts in_X7_readOne_7 hown hK hP (by decide) (by decide) (hts _ lk_X7_readOne_9) dX7_readOne_43 ?_
      refine r_iconst hx hb dX7_readOne_46 (by decide) (fun z5 ez5 => ?_)
      refine r_cVi (k := 1) (As := [.int z5]) (rest := []) ⟨hx, hb, hml, hown, hts⟩ hK hP hN hS (c_X8_blame_v l D cA ad hI σ0 τ0 hR z5 _ _ _ _ (by omega) gCT) (cwV 1 hts gX7_readOne_X8_blame rfl rfl rfl (by decide +kernel) ⟨by decide, by decide⟩) (rv_Tape hK hP (by decide) (by decide)) rfl hl.1 rfl (Nat.le_of_ble_eq_true rfl) dX7_readOne_47 (Nat.zero_le _) (Nat.zero_le _) (fun r6 u6 H6 locs6 hp6 hP hS => ?_)
      obtain ⟨σ6, τ6⟩ := u6
      obtain ⟨hR, f6, fL6, hq6, hp6_0, hp6_1, hp6_2, gnCT⟩ : P_X8_blame_v σ0 τ0 z5 _ _ _ _ r6 σ6 τ6 := hp6
      have hP : va_P D vwCl (gw cA ad σ6 τ6) H6 := hP
      obtain rfl := FrL.nil fL6
      have hF := hF.step f6 (by decide)
      have gCT := gCT.ag (Agr.fr f6 (by decide))
      have gWH := gWH.ag (Agr.fr f6 (by decide))
      have t7 : (σ6 24 1).toInt = (σ0 24 1).toInt := congrArg Int32.toInt (f6.at 24 1 (by decide))
      have t8 : (σ6 24 2).toInt = (σ0 24 2).toInt := congrArg Int32.toInt (f6.at 24 2 (by decide))
      exact r_zret hx hb hr hK hP hS hk (by omega) dX7_readOne_50 (show P_X7_readOne_d5 σ0 τ0 a1 b N mo q nn nm hc r6 σ6 τ0 from ⟨hR, hF, hFL, by omega, by first | exact RO.ofr ((one_l (by omega) (by omega) (by omega) (by omega)).trans (lea_n (by omega) (by omega))) (by omega) ⟨gCT, by omega, by omega⟩ | (exfalso; omega) | exact RO.ofk (one_x (by omega)) (by omega) (by omega) (by omega) | exact RO.ofk (one_4 (by omega) (by omega)) (by omega) (by omega) (by omega) | (obtain ⟨f, e1, x1, x2⟩ := o1.no (by omega); exact RO.ofl ((one_n (by omega) (by omega)).trans e1) (by omega) x1 x2) | exact RO.ofr ((one_n (by omega) (by omega)).trans e1) (by omega) ⟨gCT, by omega, by omega⟩ | (obtain ⟨f, e2, x1, x2⟩ := o2.no (by omega); exact RO.ofl (by rw [one_o (by omega) (by omega), e2, bnd_l]) (by omega) x1 x2) | (obtain ⟨f, e3, x1, x2⟩ := o3.no (by omega); exact RO.ofl (by rw [one_o (by omega) (by omega), e2, bnd_r, e3, bnd_l]) (by omega) x1 x2) | exact RO.ofr (by rw [one_o (by omega) (by omega), e2, bnd_r, e3, bnd_r]) (by omega) ⟨gCT, by omega, by omega⟩ | (rw [one_l (by omega) (by omega) (by omega) (by omega)]; exact o4.map (fun s es h => ⟨h.1, h.2.1, by have h2 := h.2.2; have hl := lea_up es; omega⟩)) | (rw [one_l (by omega) (by omega) (by omega) (by omega)]; exact o5.map (fun s es h => ⟨h.1, h.2.1, by have h2 := h.2.2; have hl := lea_up es; omega⟩)), gWH⟩)
    · refine lv_iload_n hx hb dX7_readOne_36 rfl (lv_at hl 2 rfl) ?_
      refine r_bipush hx hb dX7_readOne_37 (by decide) (fun z9 ez9 => ?_)
      refine r_icmp_le (tgt := 51) hx hb dX7_readOne_39 (by decide) (fun c10 => ?_) (fun c10 => ?_)
      · refine lv_aload_n hx hb dX7_readOne_51 rfl (lv_at hl 1 rfl) ?_
        refine fg_7_2 (k := 27) hx hb hts in_X7_readOne_7 hown hK hP (by decide) (by decide) (hts _ lk_X7_readOne_19) dX7_readOne_52 ?_
        refine lv_dup hx hb dX7_readOne_55 rfl ?_
        refine fgN_6_1 (k := 24) hx hb hts in_X7_readOne_6 hown hK hP (by decide) (by decide) (hN.use nw_7_61) dX7_readOne_56 ?_
        refine r_iconst hx hb dX7_readOne_59 (by decide) (fun z11 ez11 => ?_)
        refine r_iadd hx hb dX7_readOne_60 (by omega) (fun z12 ez12 => ?_)
        refine fpN_6_1 (k := 24) hx hb hts in_X7_readOne_6 hown hK hP (by decide) (by decide) (hN.use nw_7_61) hI hR hS (by omega) dX7_readOne_61 (fun σ13 H13 locs13 u13 v13 hR hP hS => ?_)
        have hF := hF.puts u13 4 rfl (by decide) (by decide) (by decide) (by decide)
        have gCT := gCT.ag (Agr.put u13 (by decide))
        have gWH := gWH.ag (Agr.put u13 (by decide))
        have t14 : (σ13 24 2).toInt = (σ0 24 2).toInt := congrArg Int32.toInt (u13 24 2 (by omega))
        refine lv_aload_n hx hb dX7_readOne_64 rfl (lv_at hl 1 rfl) ?_
        refine fg_7_0 (k := 27) hx hb hts in_X7_readOne_7 hown hK hP (by decide) (by decide) (hts _ lk_X7_readOne_9) dX7_readOne_65 ?_
        refine r_cVv (k := 1) (As := []) (rest := []) ⟨hx, hb, hml, hown, hts⟩ hK hP hN hS (c_X8_next_v l D cA ad hI σ13 τ0 hR _ _ _ _ gCT) (cwV 0 hts gX7_readOne_X8_next rfl rfl rfl (by decide +kernel) ⟨by decide, by decide⟩) (rv_Tape hK hP (by decide) (by decide)) rfl hl.1 rfl (Nat.le_of_ble_eq_true rfl) dX7_readOne_68 (Nat.zero_le _) (Nat.zero_le _) (fun u15 H15 locs15 hp15 hP hS => ?_)
        obtain ⟨σ15, τ15⟩ := u15
        obtain ⟨hR, f15, fL15, hp15_0⟩ : P_X8_next_v σ13 τ0 _ _ _ _ σ15 τ15 := hp15
        have hP : va_P D vwCl (gw cA ad σ15 τ15) H15 := hP
        have hFL := hFL.step fL15 (by decide)
        have gWH := gWH.agL (AgrL.fr fL15 (by decide))
        have hF := hF.step f15 (by decide)
        have gWH := gWH.ag (Agr.fr f15 (by decide))
        have t16 : (σ15 24 2).toInt = (σ13 24 2).toInt := congrArg Int32.toInt (f15.at 24 2 (by decide))
        have t17 : (σ15 24 1).toInt = (σ13 24 1).toInt := congrArg Int32.toInt (f15.at 24 1 (by decide))
        have gCT := hp15_0
        refine lv_iload_n hx hb dX7_readOne_71 rfl (lv_at hl 0 rfl) ?_
        by_cases c18 : (σ0 1 9).toInt = 22
        · refine lv_tableIn (off := 108) (tgt := 180) hx hb dX7_readOne_72 (by omega) (by omega) (by rw [c18]; rfl) (by decide) ?_
          refine lv_aload_n hx hb dX7_readOne_180 rfl (lv_at hl 1 rfl) ?_
          refine lv_iload_n hx hb dX7_readOne_181 rfl (lv_at hl 2 rfl) ?_
          refine r_iconst hx hb dX7_readOne_182 (by decide) (fun z19 ez19 => ?_)
          refine r_iadd hx hb dX7_readOne_183 (by omega) (fun z20 ez20 => ?_)
          refine r_cVi (k := 27) (As := [.int z20]) (rest := []) ⟨hx, hb, hml, hown, hts⟩ hK hP hN hS (c_X7_readOne_d6 l D cA ad hI σ15 τ15 hR z20 b N mo _ (nn + 1) nm hc (by omega) (by omega) (by omega) (by omega) gCT gWH) (cwV 1 hts gX7_readOne_X7_readOne rfl rfl rfl (by decide +kernel) ⟨by decide, by decide⟩) (rv_SText hK hP (by decide) (by decide)) rfl hl.1 rfl (Nat.le_of_ble_eq_true rfl) dX7_readOne_184 (Nat.zero_le _) (Nat.zero_le _) (fun r21 u21 H21 locs21 hp21 hP hS => ?_)
          obtain ⟨σ21, τ21⟩ := u21
          obtain ⟨hR, f21, fL21, hq21, hp21_0, gnWH⟩ : P_X7_readOne_d6 σ15 τ15 z20 b N mo _ (nn + 1) nm hc r21 σ21 τ21 := hp21
          have o1 := hp21_0
          have hP : va_P D vwCl (gw cA ad σ21 τ21) H21 := hP
          have hFL := hFL.step fL21 (by decide)
          have gWH := gWH.agL (AgrL.fr fL21 (by decide))
          have hF := hF.step f21 (by decide)
          have gWH := gWH.ag (Agr.fr f21 (by decide))
          have hr22 := rg_6_1 hR (k := 24) (by decide) (by decide)
          have hr23 := rg_6_2 hR (k := 24) (by decide) (by decide)
          refine r_if_eq (tgt := 208) hx hb dX7_readOne_187 (by decide) (fun c24 => ?_) (fun c24 => ?_)
          · refine r_iconst hx hb dX7_readOne_208 (by decide) (fun z25 ez25 => ?_)
            exact r_zret hx hb hr hK hP hS hk (by omega) dX7_readOne_209 (show P_X7_readOne_d5 σ0 τ0 a1 b N mo q nn nm hc z25 σ21 τ21 from ⟨hR, hF, hFL, by omega, by first | exact RO.ofr ((one_l (by omega) (by omega) (by omega) (by omega)).trans (lea_n (by omega) (by omega))) (by omega) ⟨gCT, by omega, by omega⟩ | (exfalso; omega) | exact RO.ofk (one_x (by omega)) (by omega) (by omega) (by omega) | exact RO.ofk (one_4 (by omega) (by omega)) (by omega) (by omega) (by omega) | (obtain ⟨f, e1, x1, x2⟩ := o1.no (by omega); exact RO.ofl ((one_n (by omega) (by omega)).trans e1) (by omega) x1 x2) | exact RO.ofr ((one_n (by omega) (by omega)).trans e1) (by omega) ⟨gCT, by omega, by omega⟩ | (obtain ⟨f, e2, x1, x2⟩ := o2.no (by omega); exact RO.ofl (by rw [one_o (by omega) (by omega), e2, bnd_l]) (by omega) x1 x2) | (obtain ⟨f, e3, x1, x2⟩ := o3.no (by omega); exact RO.ofl (by rw [one_o (by omega) (by omega), e2, bnd_r, e3, bnd_l]) (by omega) x1 x2) | exact RO.ofr (by rw [one_o (by omega) (by omega), e2, bnd_r, e3, bnd_r]) (by omega) ⟨gCT, by omega, by omega⟩ | (rw [one_l (by omega) (by omega) (by omega) (by omega)]; exact o4.map (fun s es h => ⟨h.1, h.2.1, by have h2 := h.2.2; have hl := lea_up es; omega⟩)) | (rw [one_l (by omega) (by omega) (by omega) (by omega)]; exact o5.map (fun s es h => ⟨h.1, h.2.1, by have h2 := h.2.2; have hl := lea_up es; omega⟩)), gWH⟩)
          · obtain ⟨s1, e1, gCT, hs1, hs2⟩ := o1.ye (by omega)
            have hu1 := one_up _ _ _ _ e1
            refine lv_aload_n hx hb dX7_readOne_190 rfl (lv_at hl 1 rfl) ?_
            refine fg_7_2 (k := 27) hx hb hts in_X7_readOne_7 hown hK hP (by decide) (by decide) (hts _ lk_X7_readOne_19) dX7_readOne_191 ?_
            refine r_bipush hx hb dX7_readOne_194 (by decide) (fun z26 ez26 => ?_)
            refine r_iconst hx hb dX7_readOne_196 (by decide) (fun z27 ez27 => ?_)
            refine r_iconst hx hb dX7_readOne_197 (by decide) (fun z28 ez28 => ?_)
            refine r_cVi (k := 24) (As := [.int z26, .int z27, .int z28]) (rest := []) ⟨hx, hb, hml, hown, hts⟩ hK hP hN hS (c_X6_add l D cA ad hI σ21 τ21 hR z26 z27 z28 (by omega)) (cwV 3 hts gX7_readOne_X6_add rfl rfl rfl (by decide +kernel) ⟨by decide, by decide⟩) (rv_Sent hK hP (by decide) (by decide)) rfl hl.1 rfl (Nat.le_of_ble_eq_true rfl) dX7_readOne_198 (Nat.zero_le _) (Nat.zero_le _) (fun r29 u29 H29 locs29 hp29 hP hS => ?_)
            obtain ⟨σ29, τ29⟩ := u29
            obtain ⟨hR, f29, fL29, hq29, hp29_0⟩ : P_X6_add σ21 τ21 z26 z27 z28 r29 σ29 τ29 := hp29
            have hP : va_P D vwCl (gw cA ad σ29 τ29) H29 := hP
            obtain rfl := FrL.nil fL29
            have hF := hF.step f29 (by decide)
            have gCT := gCT.ag (Agr.fr f29 (by decide))
            have gWH := gWH.ag (Agr.fr f29 (by decide))
            have t30 : (σ29 24 1).toInt = (σ21 24 1).toInt := congrArg Int32.toInt (f29.at 24 1 (by decide))
            have hr31 := rg_6_2 hR (k := 24) (by decide) (by decide)
            refine r_if_eq (tgt := 208) hx hb dX7_readOne_201 (by decide) (fun c32 => ?_) (fun c32 => ?_)
            · refine r_iconst hx hb dX7_readOne_208 (by decide) (fun z33 ez33 => ?_)
              exact r_zret hx hb hr hK hP hS hk (by omega) dX7_readOne_209 (show P_X7_readOne_d5 σ0 τ0 a1 b N mo q nn nm hc z33 σ29 τ21 from ⟨hR, hF, hFL, by omega, by first | exact RO.ofr ((one_l (by omega) (by omega) (by omega) (by omega)).trans (lea_n (by omega) (by omega))) (by omega) ⟨gCT, by omega, by omega⟩ | (exfalso; omega) | exact RO.ofk (one_x (by omega)) (by omega) (by omega) (by omega) | exact RO.ofk (one_4 (by omega) (by omega)) (by omega) (by omega) (by omega) | (obtain ⟨f, e1, x1, x2⟩ := o1.no (by omega); exact RO.ofl ((one_n (by omega) (by omega)).trans e1) (by omega) x1 x2) | exact RO.ofr ((one_n (by omega) (by omega)).trans e1) (by omega) ⟨gCT, by omega, by omega⟩ | (obtain ⟨f, e2, x1, x2⟩ := o2.no (by omega); exact RO.ofl (by rw [one_o (by omega) (by omega), e2, bnd_l]) (by omega) x1 x2) | (obtain ⟨f, e3, x1, x2⟩ := o3.no (by omega); exact RO.ofl (by rw [one_o (by omega) (by omega), e2, bnd_r, e3, bnd_l]) (by omega) x1 x2) | exact RO.ofr (by rw [one_o (by omega) (by omega), e2, bnd_r, e3, bnd_r]) (by omega) ⟨gCT, by omega, by omega⟩ | (rw [one_l (by omega) (by omega) (by omega) (by omega)]; exact o4.map (fun s es h => ⟨h.1, h.2.1, by have h2 := h.2.2; have hl := lea_up es; omega⟩)) | (rw [one_l (by omega) (by omega) (by omega) (by omega)]; exact o5.map (fun s es h => ⟨h.1, h.2.1, by have h2 := h.2.2; have hl := lea_up es; omega⟩)), gWH⟩)
            · refine r_iconst hx hb dX7_readOne_204 (by decide) (fun z34 ez34 => ?_)
              refine lv_goto (tgt := 209) hx hb dX7_readOne_205 (by decide) ?_
              exact r_zret hx hb hr hK hP hS hk (by omega) dX7_readOne_209 (show P_X7_readOne_d5 σ0 τ0 a1 b N mo q nn nm hc z34 σ29 τ21 from ⟨hR, hF, hFL, by omega, by first | exact RO.ofr ((one_l (by omega) (by omega) (by omega) (by omega)).trans (lea_n (by omega) (by omega))) (by omega) ⟨gCT, by omega, by omega⟩ | (exfalso; omega) | exact RO.ofk (one_x (by omega)) (by omega) (by omega) (by omega) | exact RO.ofk (one_4 (by omega) (by omega)) (by omega) (by omega) (by omega) | (obtain ⟨f, e1, x1, x2⟩ := o1.no (by omega); exact RO.ofl ((one_n (by omega) (by omega)).trans e1) (by omega) x1 x2) | exact RO.ofr ((one_n (by omega) (by omega)).trans e1) (by omega) ⟨gCT, by omega, by omega⟩ | (obtain ⟨f, e2, x1, x2⟩ := o2.no (by omega); exact RO.ofl (by rw [one_o (by omega) (by omega), e2, bnd_l]) (by omega) x1 x2) | (obtain ⟨f, e3, x1, x2⟩ := o3.no (by omega); exact RO.ofl (by rw [one_o (by omega) (by omega), e2, bnd_r, e3, bnd_l]) (by omega) x1 x2) | exact RO.ofr (by rw [one_o (by omega) (by omega), e2, bnd_r, e3, bnd_r]) (by omega) ⟨gCT, by omega, by omega⟩ | (rw [one_l (by omega) (by omega) (by omega) (by omega)]; exact o4.map (fun s es h => ⟨h.1, h.2.1, by have h2 := h.2.2; have hl := lea_up es; omega⟩)) | (rw [one_l (by omega) (by omega) (by omega) (by omega)]; exact o5.map (fun s es h => ⟨h.1, h.2.1, by have h2 := h.2.2; have hl := lea_up es; omega⟩)), gWH⟩)
        by_cases c35 : (σ0 1 9).toInt = 23
        · refine lv_tableIn (off := 177) (tgt := 249) hx hb dX7_readOne_72 (by omega) (by omega) (by rw [c35]; rfl) (by decide) ?_
          refine lv_aload_n hx hb dX7_readOne_249 rfl (lv_at hl 1 rfl) ?_
          refine fg_7_2 (k := 27) hx hb hts in_X7_readOne_7 hown hK hP (by decide) (by decide) (hts _ lk_X7_readOne_19) dX7_readOne_250 ?_
          refine lv_iload_n hx hb dX7_readOne_253 rfl (lv_at hl 0 rfl) ?_
          refine r_bipush hx hb dX7_readOne_254 (by decide) (fun z36 ez36 => ?_)
          refine r_iconst hx hb dX7_readOne_256 (by decide) (fun z37 ez37 => ?_)
          refine r_cVi (k := 24) (As := [.int (σ0 1 9), .int z36, .int z37]) (rest := []) ⟨hx, hb, hml, hown, hts⟩ hK hP hN hS (c_X6_add l D cA ad hI σ15 τ15 hR (σ0 1 9) z36 z37 (by omega)) (cwV 3 hts gX7_readOne_X6_add rfl rfl rfl (by decide +kernel) ⟨by decide, by decide⟩) (rv_Sent hK hP (by decide) (by decide)) rfl hl.1 rfl (Nat.le_of_ble_eq_true rfl) dX7_readOne_257 (Nat.zero_le _) (Nat.zero_le _) (fun r38 u38 H38 locs38 hp38 hP hS => ?_)
          obtain ⟨σ38, τ38⟩ := u38
          obtain ⟨hR, f38, fL38, hq38, hp38_0⟩ : P_X6_add σ15 τ15 (σ0 1 9) z36 z37 r38 σ38 τ38 := hp38
          have hP : va_P D vwCl (gw cA ad σ38 τ38) H38 := hP
          obtain rfl := FrL.nil fL38
          have hF := hF.step f38 (by decide)
          have gCT := gCT.ag (Agr.fr f38 (by decide))
          have gWH := gWH.ag (Agr.fr f38 (by decide))
          have t39 : (σ38 24 1).toInt = (σ15 24 1).toInt := congrArg Int32.toInt (f38.at 24 1 (by decide))
          have hr40 := rg_6_2 hR (k := 24) (by decide) (by decide)
          exact r_zret hx hb hr hK hP hS hk (by omega) dX7_readOne_260 (show P_X7_readOne_d5 σ0 τ0 a1 b N mo q nn nm hc r38 σ38 τ15 from ⟨hR, hF, hFL, by omega, by first | exact RO.ofr ((one_l (by omega) (by omega) (by omega) (by omega)).trans (lea_n (by omega) (by omega))) (by omega) ⟨gCT, by omega, by omega⟩ | (exfalso; omega) | exact RO.ofk (one_x (by omega)) (by omega) (by omega) (by omega) | exact RO.ofk (one_4 (by omega) (by omega)) (by omega) (by omega) (by omega) | (obtain ⟨f, e1, x1, x2⟩ := o1.no (by omega); exact RO.ofl ((one_n (by omega) (by omega)).trans e1) (by omega) x1 x2) | exact RO.ofr ((one_n (by omega) (by omega)).trans e1) (by omega) ⟨gCT, by omega, by omega⟩ | (obtain ⟨f, e2, x1, x2⟩ := o2.no (by omega); exact RO.ofl (by rw [one_o (by omega) (by omega), e2, bnd_l]) (by omega) x1 x2) | (obtain ⟨f, e3, x1, x2⟩ := o3.no (by omega); exact RO.ofl (by rw [one_o (by omega) (by omega), e2, bnd_r, e3, bnd_l]) (by omega) x1 x2) | exact RO.ofr (by rw [one_o (by omega) (by omega), e2, bnd_r, e3, bnd_r]) (by omega) ⟨gCT, by omega, by omega⟩ | (rw [one_l (by omega) (by omega) (by omega) (by omega)]; exact o4.map (fun s es h => ⟨h.1, h.2.1, by have h2 := h.2.2; have hl := lea_up es; omega⟩)) | (rw [one_l (by omega) (by omega) (by omega) (by omega)]; exact o5.map (fun s es h => ⟨h.1, h.2.1, by have h2 := h.2.2; have hl := lea_up es; omega⟩)), gWH⟩)
        by_cases c41 : (σ0 1 9).toInt = 24
        · refine lv_tableIn (off := 177) (tgt := 249) hx hb dX7_readOne_72 (by omega) (by omega) (by rw [c41]; rfl) (by decide) ?_
          refine lv_aload_n hx hb dX7_readOne_249 rfl (lv_at hl 1 rfl) ?_
          refine fg_7_2 (k := 27) hx hb hts in_X7_readOne_7 hown hK hP (by decide) (by decide) (hts _ lk_X7_readOne_19) dX7_readOne_250 ?_
          refine lv_iload_n hx hb dX7_readOne_253 rfl (lv_at hl 0 rfl) ?_
          refine r_bipush hx hb dX7_readOne_254 (by decide) (fun z42 ez42 => ?_)
          refine r_iconst hx hb dX7_readOne_256 (by decide) (fun z43 ez43 => ?_)
          refine r_cVi (k := 24) (As := [.int (σ0 1 9), .int z42, .int z43]) (rest := []) ⟨hx, hb, hml, hown, hts⟩ hK hP hN hS (c_X6_add l D cA ad hI σ15 τ15 hR (σ0 1 9) z42 z43 (by omega)) (cwV 3 hts gX7_readOne_X6_add rfl rfl rfl (by decide +kernel) ⟨by decide, by decide⟩) (rv_Sent hK hP (by decide) (by decide)) rfl hl.1 rfl (Nat.le_of_ble_eq_true rfl) dX7_readOne_257 (Nat.zero_le _) (Nat.zero_le _) (fun r44 u44 H44 locs44 hp44 hP hS => ?_)
          obtain ⟨σ44, τ44⟩ := u44
          obtain ⟨hR, f44, fL44, hq44, hp44_0⟩ : P_X6_add σ15 τ15 (σ0 1 9) z42 z43 r44 σ44 τ44 := hp44
          have hP : va_P D vwCl (gw cA ad σ44 τ44) H44 := hP
          obtain rfl := FrL.nil fL44
          have hF := hF.step f44 (by decide)
          have gCT := gCT.ag (Agr.fr f44 (by decide))
          have gWH := gWH.ag (Agr.fr f44 (by decide))
          have t45 : (σ44 24 1).toInt = (σ15 24 1).toInt := congrArg Int32.toInt (f44.at 24 1 (by decide))
          have hr46 := rg_6_2 hR (k := 24) (by decide) (by decide)
          exact r_zret hx hb hr hK hP hS hk (by omega) dX7_readOne_260 (show P_X7_readOne_d5 σ0 τ0 a1 b N mo q nn nm hc r44 σ44 τ15 from ⟨hR, hF, hFL, by omega, by first | exact RO.ofr ((one_l (by omega) (by omega) (by omega) (by omega)).trans (lea_n (by omega) (by omega))) (by omega) ⟨gCT, by omega, by omega⟩ | (exfalso; omega) | exact RO.ofk (one_x (by omega)) (by omega) (by omega) (by omega) | exact RO.ofk (one_4 (by omega) (by omega)) (by omega) (by omega) (by omega) | (obtain ⟨f, e1, x1, x2⟩ := o1.no (by omega); exact RO.ofl ((one_n (by omega) (by omega)).trans e1) (by omega) x1 x2) | exact RO.ofr ((one_n (by omega) (by omega)).trans e1) (by omega) ⟨gCT, by omega, by omega⟩ | (obtain ⟨f, e2, x1, x2⟩ := o2.no (by omega); exact RO.ofl (by rw [one_o (by omega) (by omega), e2, bnd_l]) (by omega) x1 x2) | (obtain ⟨f, e3, x1, x2⟩ := o3.no (by omega); exact RO.ofl (by rw [one_o (by omega) (by omega), e2, bnd_r, e3, bnd_l]) (by omega) x1 x2) | exact RO.ofr (by rw [one_o (by omega) (by omega), e2, bnd_r, e3, bnd_r]) (by omega) ⟨gCT, by omega, by omega⟩ | (rw [one_l (by omega) (by omega) (by omega) (by omega)]; exact o4.map (fun s es h => ⟨h.1, h.2.1, by have h2 := h.2.2; have hl := lea_up es; omega⟩)) | (rw [one_l (by omega) (by omega) (by omega) (by omega)]; exact o5.map (fun s es h => ⟨h.1, h.2.1, by have h2 := h.2.2; have hl := lea_up es; omega⟩)), gWH⟩)
        by_cases c47 : (σ0 1 9).toInt = 25
        · refine lv_tableIn (off := 166) (tgt := 238) hx hb dX7_readOne_72 (by omega) (by omega) (by rw [c47]; rfl) (by decide) ?_
          refine lv_aload_n hx hb dX7_readOne_238 rfl (lv_at hl 1 rfl) ?_
          refine r_cVi (k := 27) (As := []) (rest := []) ⟨hx, hb, hml, hown, hts⟩ hK hP hN hS (c_X7_readOn l D cA ad hI σ15 τ15 hR b N mo _ (nn + 1) nm hc (tkq b N mo q) (by omega) (by omega) (by omega) gCT gWH) (cwV 0 hts gX7_readOne_X7_readOn rfl rfl rfl (by decide +kernel) ⟨by decide, by decide⟩) (rv_SText hK hP (by decide) (by decide)) rfl hl.1 rfl (Nat.le_of_ble_eq_true rfl) dX7_readOne_239 (Nat.zero_le _) (Nat.zero_le _) (fun r48 u48 H48 locs48 hp48 hP hS => ?_)
          obtain ⟨σ48, τ48⟩ := u48
          obtain ⟨hR, f48, fL48, hq48, hp48_0, gnWH⟩ : P_X7_readOn σ15 τ15 b N mo _ (nn + 1) nm hc (tkq b N mo q) r48 σ48 τ48 := hp48
          have o4 := hp48_0
          have hP : va_P D vwCl (gw cA ad σ48 τ48) H48 := hP
          have hFL := hFL.step fL48 (by decide)
          have gWH := gWH.agL (AgrL.fr fL48 (by decide))
          have hF := hF.step f48 (by decide)
          have gWH := gWH.ag (Agr.fr f48 (by decide))
          have t49 : (σ48 24 1).toInt = (σ15 24 1).toInt := congrArg Int32.toInt (f48.at 24 1 (by decide))
          have hr50 := rg_6_2 hR (k := 24) (by decide) (by decide)
          exact r_zret hx hb hr hK hP hS hk (by omega) dX7_readOne_242 (show P_X7_readOne_d5 σ0 τ0 a1 b N mo q nn nm hc r48 σ48 τ48 from ⟨hR, hF, hFL, by omega, by first | exact RO.ofr ((one_l (by omega) (by omega) (by omega) (by omega)).trans (lea_n (by omega) (by omega))) (by omega) ⟨gCT, by omega, by omega⟩ | (exfalso; omega) | exact RO.ofk (one_x (by omega)) (by omega) (by omega) (by omega) | exact RO.ofk (one_4 (by omega) (by omega)) (by omega) (by omega) (by omega) | (obtain ⟨f, e1, x1, x2⟩ := o1.no (by omega); exact RO.ofl ((one_n (by omega) (by omega)).trans e1) (by omega) x1 x2) | exact RO.ofr ((one_n (by omega) (by omega)).trans e1) (by omega) ⟨gCT, by omega, by omega⟩ | (obtain ⟨f, e2, x1, x2⟩ := o2.no (by omega); exact RO.ofl (by rw [one_o (by omega) (by omega), e2, bnd_l]) (by omega) x1 x2) | (obtain ⟨f, e3, x1, x2⟩ := o3.no (by omega); exact RO.ofl (by rw [one_o (by omega) (by omega), e2, bnd_r, e3, bnd_l]) (by omega) x1 x2) | exact RO.ofr (by rw [one_o (by omega) (by omega), e2, bnd_r, e3, bnd_r]) (by omega) ⟨gCT, by omega, by omega⟩ | (rw [one_l (by omega) (by omega) (by omega) (by omega)]; exact o4.map (fun s es h => ⟨h.1, h.2.1, by have h2 := h.2.2; have hl := lea_up es; omega⟩)) | (rw [one_l (by omega) (by omega) (by omega) (by omega)]; exact o5.map (fun s es h => ⟨h.1, h.2.1, by have h2 := h.2.2; have hl := lea_up es; omega⟩)), gWH⟩)
        by_cases c51 : (σ0 1 9).toInt = 26
        · refine lv_tableIn (off := 177) (tgt := 249) hx hb dX7_readOne_72 (by omega) (by omega) (by rw [c51]; rfl) (by decide) ?_
          refine lv_aload_n hx hb dX7_readOne_249 rfl (lv_at hl 1 rfl) ?_
          refine fg_7_2 (k := 27) hx hb hts in_X7_readOne_7 hown hK hP (by decide) (by decide) (hts _ lk_X7_readOne_19) dX7_readOne_250 ?_
          refine lv_iload_n hx hb dX7_readOne_253 rfl (lv_at hl 0 rfl) ?_
          refine r_bipush hx hb dX7_readOne_254 (by decide) (fun z52 ez52 => ?_)
          refine r_iconst hx hb dX7_readOne_256 (by decide) (fun z53 ez53 => ?_)
          refine r_cVi (k := 24) (As := [.int (σ0 1 9), .int z52, .int z53]) (rest := []) ⟨hx, hb, hml, hown, hts⟩ hK hP hN hS (c_X6_add l D cA ad hI σ15 τ15 hR (σ0 1 9) z52 z53 (by omega)) (cwV 3 hts gX7_readOne_X6_add rfl rfl rfl (by decide +kernel) ⟨by decide, by decide⟩) (rv_Sent hK hP (by decide) (by decide)) rfl hl.1 rfl (Nat.le_of_ble_eq_true rfl) dX7_readOne_257 (Nat.zero_le _) (Nat.zero_le _) (fun r54 u54 H54 locs54 hp54 hP hS => ?_)
          obtain ⟨σ54, τ54⟩ := u54
          obtain ⟨hR, f54, fL54, hq54, hp54_0⟩ : P_X6_add σ15 τ15 (σ0 1 9) z52 z53 r54 σ54 τ54 := hp54
          have hP : va_P D vwCl (gw cA ad σ54 τ54) H54 := hP
          obtain rfl := FrL.nil fL54
          have hF := hF.step f54 (by decide)
          have gCT := gCT.ag (Agr.fr f54 (by decide))
          have gWH := gWH.ag (Agr.fr f54 (by decide))
          have t55 : (σ54 24 1).toInt = (σ15 24 1).toInt := congrArg Int32.toInt (f54.at 24 1 (by decide))
          have hr56 := rg_6_2 hR (k := 24) (by decide) (by decide)
          exact r_zret hx hb hr hK hP hS hk (by omega) dX7_readOne_260 (show P_X7_readOne_d5 σ0 τ0 a1 b N mo q nn nm hc r54 σ54 τ15 from ⟨hR, hF, hFL, by omega, by first | exact RO.ofr ((one_l (by omega) (by omega) (by omega) (by omega)).trans (lea_n (by omega) (by omega))) (by omega) ⟨gCT, by omega, by omega⟩ | (exfalso; omega) | exact RO.ofk (one_x (by omega)) (by omega) (by omega) (by omega) | exact RO.ofk (one_4 (by omega) (by omega)) (by omega) (by omega) (by omega) | (obtain ⟨f, e1, x1, x2⟩ := o1.no (by omega); exact RO.ofl ((one_n (by omega) (by omega)).trans e1) (by omega) x1 x2) | exact RO.ofr ((one_n (by omega) (by omega)).trans e1) (by omega) ⟨gCT, by omega, by omega⟩ | (obtain ⟨f, e2, x1, x2⟩ := o2.no (by omega); exact RO.ofl (by rw [one_o (by omega) (by omega), e2, bnd_l]) (by omega) x1 x2) | (obtain ⟨f, e3, x1, x2⟩ := o3.no (by omega); exact RO.ofl (by rw [one_o (by omega) (by omega), e2, bnd_r, e3, bnd_l]) (by omega) x1 x2) | exact RO.ofr (by rw [one_o (by omega) (by omega), e2, bnd_r, e3, bnd_r]) (by omega) ⟨gCT, by omega, by omega⟩ | (rw [one_l (by omega) (by omega) (by omega) (by omega)]; exact o4.map (fun s es h => ⟨h.1, h.2.1, by have h2 := h.2.2; have hl := lea_up es; omega⟩)) | (rw [one_l (by omega) (by omega) (by omega) (by omega)]; exact o5.map (fun s es h => ⟨h.1, h.2.1, by have h2 := h.2.2; have hl := lea_up es; omega⟩)), gWH⟩)
        by_cases c57 : (σ0 1 9).toInt = 27
        · refine lv_tableIn (off := 171) (tgt := 243) hx hb dX7_readOne_72 (by omega) (by omega) (by rw [c57]; rfl) (by decide) ?_
          refine lv_aload_n hx hb dX7_readOne_243 rfl (lv_at hl 1 rfl) ?_
          refine lv_iload_n hx hb dX7_readOne_244 rfl (lv_at hl 0 rfl) ?_
          refine r_cVi (k := 27) (As := [.int (σ0 1 9)]) (rest := []) ⟨hx, hb, hml, hown, hts⟩ hK hP hN hS (c_X7_readMeasure l D cA ad hI σ15 τ15 hR (σ0 1 9) b N mo _ (nn + 1) nm hc (tkq b N mo q) (by omega) (by omega) (by omega) (by omega) gCT gWH) (cwV 1 hts gX7_readOne_X7_readMeasure rfl rfl rfl (by decide +kernel) ⟨by decide, by decide⟩) (rv_SText hK hP (by decide) (by decide)) rfl hl.1 rfl (Nat.le_of_ble_eq_true rfl) dX7_readOne_245 (Nat.zero_le _) (Nat.zero_le _) (fun r58 u58 H58 locs58 hp58 hP hS => ?_)
          obtain ⟨σ58, τ58⟩ := u58
          obtain ⟨hR, f58, fL58, hq58, hp58_0, gnWH⟩ : P_X7_readMeasure σ15 τ15 (σ0 1 9) b N mo _ (nn + 1) nm hc (tkq b N mo q) r58 σ58 τ58 := hp58
          have o5 := hp58_0
          have hP : va_P D vwCl (gw cA ad σ58 τ58) H58 := hP
          have hFL := hFL.step fL58 (by decide)
          have gWH := gWH.agL (AgrL.fr fL58 (by decide))
          have hF := hF.step f58 (by decide)
          have gWH := gWH.ag (Agr.fr f58 (by decide))
          have t59 : (σ58 24 1).toInt = (σ15 24 1).toInt := congrArg Int32.toInt (f58.at 24 1 (by decide))
          have hr60 := rg_6_2 hR (k := 24) (by decide) (by decide)
          exact r_zret hx hb hr hK hP hS hk (by omega) dX7_readOne_248 (show P_X7_readOne_d5 σ0 τ0 a1 b N mo q nn nm hc r58 σ58 τ58 from ⟨hR, hF, hFL, by omega, by first | exact RO.ofr ((one_l (by omega) (by omega) (by omega) (by omega)).trans (lea_n (by omega) (by omega))) (by omega) ⟨gCT, by omega, by omega⟩ | (exfalso; omega) | exact RO.ofk (one_x (by omega)) (by omega) (by omega) (by omega) | exact RO.ofk (one_4 (by omega) (by omega)) (by omega) (by omega) (by omega) | (obtain ⟨f, e1, x1, x2⟩ := o1.no (by omega); exact RO.ofl ((one_n (by omega) (by omega)).trans e1) (by omega) x1 x2) | exact RO.ofr ((one_n (by omega) (by omega)).trans e1) (by omega) ⟨gCT, by omega, by omega⟩ | (obtain ⟨f, e2, x1, x2⟩ := o2.no (by omega); exact RO.ofl (by rw [one_o (by omega) (by omega), e2, bnd_l]) (by omega) x1 x2) | (obtain ⟨f, e3, x1, x2⟩ := o3.no (by omega); exact RO.ofl (by rw [one_o (by omega) (by omega), e2, bnd_r, e3, bnd_l]) (by omega) x1 x2) | exact RO.ofr (by rw [one_o (by omega) (by omega), e2, bnd_r, e3, bnd_r]) (by omega) ⟨gCT, by omega, by omega⟩ | (rw [one_l (by omega) (by omega) (by omega) (by omega)]; exact o4.map (fun s es h => ⟨h.1, h.2.1, by have h2 := h.2.2; have hl := lea_up es; omega⟩)) | (rw [one_l (by omega) (by omega) (by omega) (by omega)]; exact o5.map (fun s es h => ⟨h.1, h.2.1, by have h2 := h.2.2; have hl := lea_up es; omega⟩)), gWH⟩)
        by_cases c61 : (σ0 1 9).toInt = 28
        · refine lv_tableIn (off := 171) (tgt := 243) hx hb dX7_readOne_72 (by omega) (by omega) (by rw [c61]; rfl) (by decide) ?_
          refine lv_aload_n hx hb dX7_readOne_243 rfl (lv_at hl 1 rfl) ?_
          refine lv_iload_n hx hb dX7_readOne_244 rfl (lv_at hl 0 rfl) ?_
          refine r_cVi (k := 27) (As := [.int (σ0 1 9)]) (rest := []) ⟨hx, hb, hml, hown, hts⟩ hK hP hN hS (c_X7_readMeasure l D cA ad hI σ15 τ15 hR (σ0 1 9) b N mo _ (nn + 1) nm hc (tkq b N mo q) (by omega) (by omega) (by omega) (by omega) gCT gWH) (cwV 1 hts gX7_readOne_X7_readMeasure rfl rfl rfl (by decide +kernel) ⟨by decide, by decide⟩) (rv_SText hK hP (by decide) (by decide)) rfl hl.1 rfl (Nat.le_of_ble_eq_true rfl) dX7_readOne_245 (Nat.zero_le _) (Nat.zero_le _) (fun r62 u62 H62 locs62 hp62 hP hS => ?_)
          obtain ⟨σ62, τ62⟩ := u62
          obtain ⟨hR, f62, fL62, hq62, hp62_0, gnWH⟩ : P_X7_readMeasure σ15 τ15 (σ0 1 9) b N mo _ (nn + 1) nm hc (tkq b N mo q) r62 σ62 τ62 := hp62
          have o5 := hp62_0
          have hP : va_P D vwCl (gw cA ad σ62 τ62) H62 := hP
          have hFL := hFL.step fL62 (by decide)
          have gWH := gWH.agL (AgrL.fr fL62 (by decide))
          have hF := hF.step f62 (by decide)
          have gWH := gWH.ag (Agr.fr f62 (by decide))
          have t63 : (σ62 24 1).toInt = (σ15 24 1).toInt := congrArg Int32.toInt (f62.at 24 1 (by decide))
          have hr64 := rg_6_2 hR (k := 24) (by decide) (by decide)
          exact r_zret hx hb hr hK hP hS hk (by omega) dX7_readOne_248 (show P_X7_readOne_d5 σ0 τ0 a1 b N mo q nn nm hc r62 σ62 τ62 from ⟨hR, hF, hFL, by omega, by first | exact RO.ofr ((one_l (by omega) (by omega) (by omega) (by omega)).trans (lea_n (by omega) (by omega))) (by omega) ⟨gCT, by omega, by omega⟩ | (exfalso; omega) | exact RO.ofk (one_x (by omega)) (by omega) (by omega) (by omega) | exact RO.ofk (one_4 (by omega) (by omega)) (by omega) (by omega) (by omega) | (obtain ⟨f, e1, x1, x2⟩ := o1.no (by omega); exact RO.ofl ((one_n (by omega) (by omega)).trans e1) (by omega) x1 x2) | exact RO.ofr ((one_n (by omega) (by omega)).trans e1) (by omega) ⟨gCT, by omega, by omega⟩ | (obtain ⟨f, e2, x1, x2⟩ := o2.no (by omega); exact RO.ofl (by rw [one_o (by omega) (by omega), e2, bnd_l]) (by omega) x1 x2) | (obtain ⟨f, e3, x1, x2⟩ := o3.no (by omega); exact RO.ofl (by rw [one_o (by omega) (by omega), e2, bnd_r, e3, bnd_l]) (by omega) x1 x2) | exact RO.ofr (by rw [one_o (by omega) (by omega), e2, bnd_r, e3, bnd_r]) (by omega) ⟨gCT, by omega, by omega⟩ | (rw [one_l (by omega) (by omega) (by omega) (by omega)]; exact o4.map (fun s es h => ⟨h.1, h.2.1, by have h2 := h.2.2; have hl := lea_up es; omega⟩)) | (rw [one_l (by omega) (by omega) (by omega) (by omega)]; exact o5.map (fun s es h => ⟨h.1, h.2.1, by have h2 := h.2.2; have hl := lea_up es; omega⟩)), gWH⟩)
        by_cases c65 : (σ0 1 9).toInt = 29
        · refine lv_tableIn (off := 171) (tgt := 243) hx hb dX7_readOne_72 (by omega) (by omega) (by rw [c65]; rfl) (by decide) ?_
          refine lv_aload_n hx hb dX7_readOne_243 rfl (lv_at hl 1 rfl) ?_
          refine lv_iload_n hx hb dX7_readOne_244 rfl (lv_at hl 0 rfl) ?_
          refine r_cVi (k := 27) (As := [.int (σ0 1 9)]) (rest := []) ⟨hx, hb, hml, hown, hts⟩ hK hP hN hS (c_X7_readMeasure l D cA ad hI σ15 τ15 hR (σ0 1 9) b N mo _ (nn + 1) nm hc (tkq b N mo q) (by omega) (by omega) (by omega) (by omega) gCT gWH) (cwV 1 hts gX7_readOne_X7_readMeasure rfl rfl rfl (by decide +kernel) ⟨by decide, by decide⟩) (rv_SText hK hP (by decide) (by decide)) rfl hl.1 rfl (Nat.le_of_ble_eq_true rfl) dX7_readOne_245 (Nat.zero_le _) (Nat.zero_le _) (fun r66 u66 H66 locs66 hp66 hP hS => ?_)
          obtain ⟨σ66, τ66⟩ := u66
          obtain ⟨hR, f66, fL66, hq66, hp66_0, gnWH⟩ : P_X7_readMeasure σ15 τ15 (σ0 1 9) b N mo _ (nn + 1) nm hc (tkq b N mo q) r66 σ66 τ66 := hp66
          have o5 := hp66_0
          have hP : va_P D vwCl (gw cA ad σ66 τ66) H66 := hP
          have hFL := hFL.step fL66 (by decide)
          have gWH := gWH.agL (AgrL.fr fL66 (by decide))
          have hF := hF.step f66 (by decide)
          have gWH := gWH.ag (Agr.fr f66 (by decide))
          have t67 : (σ66 24 1).toInt = (σ15 24 1).toInt := congrArg Int32.toInt (f66.at 24 1 (by decide))
          have hr68 := rg_6_2 hR (k := 24) (by decide) (by decide)
          exact r_zret hx hb hr hK hP hS hk (by omega) dX7_readOne_248 (show P_X7_readOne_d5 σ0 τ0 a1 b N mo q nn nm hc r66 σ66 τ66 from ⟨hR, hF, hFL, by omega, by first | exact RO.ofr ((one_l (by omega) (by omega) (by omega) (by omega)).trans (lea_n (by omega) (by omega))) (by omega) ⟨gCT, by omega, by omega⟩ | (exfalso; omega) | exact RO.ofk (one_x (by omega)) (by omega) (by omega) (by omega) | exact RO.ofk (one_4 (by omega) (by omega)) (by omega) (by omega) (by omega) | (obtain ⟨f, e1, x1, x2⟩ := o1.no (by omega); exact RO.ofl ((one_n (by omega) (by omega)).trans e1) (by omega) x1 x2) | exact RO.ofr ((one_n (by omega) (by omega)).trans e1) (by omega) ⟨gCT, by omega, by omega⟩ | (obtain ⟨f, e2, x1, x2⟩ := o2.no (by omega); exact RO.ofl (by rw [one_o (by omega) (by omega), e2, bnd_l]) (by omega) x1 x2) | (obtain ⟨f, e3, x1, x2⟩ := o3.no (by omega); exact RO.ofl (by rw [one_o (by omega) (by omega), e2, bnd_r, e3, bnd_l]) (by omega) x1 x2) | exact RO.ofr (by rw [one_o (by omega) (by omega), e2, bnd_r, e3, bnd_r]) (by omega) ⟨gCT, by omega, by omega⟩ | (rw [one_l (by omega) (by omega) (by omega) (by omega)]; exact o4.map (fun s es h => ⟨h.1, h.2.1, by have h2 := h.2.2; have hl := lea_up es; omega⟩)) | (rw [one_l (by omega) (by omega) (by omega) (by omega)]; exact o5.map (fun s es h => ⟨h.1, h.2.1, by have h2 := h.2.2; have hl := lea_up es; omega⟩)), gWH⟩)
        by_cases c69 : (σ0 1 9).toInt = 30
        · refine lv_tableIn (off := 171) (tgt := 243) hx hb dX7_readOne_72 (by omega) (by omega) (by rw [c69]; rfl) (by decide) ?_
          refine lv_aload_n hx hb dX7_readOne_243 rfl (lv_at hl 1 rfl) ?_
          refine lv_iload_n hx hb dX7_readOne_244 rfl (lv_at hl 0 rfl) ?_
          refine r_cVi (k := 27) (As := [.int (σ0 1 9)]) (rest := []) ⟨hx, hb, hml, hown, hts⟩ hK hP hN hS (c_X7_readMeasure l D cA ad hI σ15 τ15 hR (σ0 1 9) b N mo _ (nn + 1) nm hc (tkq b N mo q) (by omega) (by omega) (by omega) (by omega) gCT gWH) (cwV 1 hts gX7_readOne_X7_readMeasure rfl rfl rfl (by decide +kernel) ⟨by decide, by decide⟩) (rv_SText hK hP (by decide) (by decide)) rfl hl.1 rfl (Nat.le_of_ble_eq_true rfl) dX7_readOne_245 (Nat.zero_le _) (Nat.zero_le _) (fun r70 u70 H70 locs70 hp70 hP hS => ?_)
          obtain ⟨σ70, τ70⟩ := u70
          obtain ⟨hR, f70, fL70, hq70, hp70_0, gnWH⟩ : P_X7_readMeasure σ15 τ15 (σ0 1 9) b N mo _ (nn + 1) nm hc (tkq b N mo q) r70 σ70 τ70 := hp70
          have o5 := hp70_0
          have hP : va_P D vwCl (gw cA ad σ70 τ70) H70 := hP
          have hFL := hFL.step fL70 (by decide)
          have gWH := gWH.agL (AgrL.fr fL70 (by decide))
          have hF := hF.step f70 (by decide)
          have gWH := gWH.ag (Agr.fr f70 (by decide))
          have t71 : (σ70 24 1).toInt = (σ15 24 1).toInt := congrArg Int32.toInt (f70.at 24 1 (by decide))
          have hr72 := rg_6_2 hR (k := 24) (by decide) (by decide)
          exact r_zret hx hb hr hK hP hS hk (by omega) dX7_readOne_248 (show P_X7_readOne_d5 σ0 τ0 a1 b N mo q nn nm hc r70 σ70 τ70 from ⟨hR, hF, hFL, by omega, by first | exact RO.ofr ((one_l (by omega) (by omega) (by omega) (by omega)).trans (lea_n (by omega) (by omega))) (by omega) ⟨gCT, by omega, by omega⟩ | (exfalso; omega) | exact RO.ofk (one_x (by omega)) (by omega) (by omega) (by omega) | exact RO.ofk (one_4 (by omega) (by omega)) (by omega) (by omega) (by omega) | (obtain ⟨f, e1, x1, x2⟩ := o1.no (by omega); exact RO.ofl ((one_n (by omega) (by omega)).trans e1) (by omega) x1 x2) | exact RO.ofr ((one_n (by omega) (by omega)).trans e1) (by omega) ⟨gCT, by omega, by omega⟩ | (obtain ⟨f, e2, x1, x2⟩ := o2.no (by omega); exact RO.ofl (by rw [one_o (by omega) (by omega), e2, bnd_l]) (by omega) x1 x2) | (obtain ⟨f, e3, x1, x2⟩ := o3.no (by omega); exact RO.ofl (by rw [one_o (by omega) (by omega), e2, bnd_r, e3, bnd_l]) (by omega) x1 x2) | exact RO.ofr (by rw [one_o (by omega) (by omega), e2, bnd_r, e3, bnd_r]) (by omega) ⟨gCT, by omega, by omega⟩ | (rw [one_l (by omega) (by omega) (by omega) (by omega)]; exact o4.map (fun s es h => ⟨h.1, h.2.1, by have h2 := h.2.2; have hl := lea_up es; omega⟩)) | (rw [one_l (by omega) (by omega) (by omega) (by omega)]; exact o5.map (fun s es h => ⟨h.1, h.2.1, by have h2 := h.2.2; have hl := lea_up es; omega⟩)), gWH⟩)
        by_cases c73 : (σ0 1 9).toInt = 31
        · refine lv_tableIn (off := 177) (tgt := 249) hx hb dX7_readOne_72 (by omega) (by omega) (by rw [c73]; rfl) (by decide) ?_
          refine lv_aload_n hx hb dX7_readOne_249 rfl (lv_at hl 1 rfl) ?_
          refine fg_7_2 (k := 27) hx hb hts in_X7_readOne_7 hown hK hP (by decide) (by decide) (hts _ lk_X7_readOne_19) dX7_readOne_250 ?_
          refine lv_iload_n hx hb dX7_readOne_253 rfl (lv_at hl 0 rfl) ?_
          refine r_bipush hx hb dX7_readOne_254 (by decide) (fun z74 ez74 => ?_)
          refine r_iconst hx hb dX7_readOne_256 (by decide) (fun z75 ez75 => ?_)
          refine r_cVi (k := 24) (As := [.int (σ0 1 9), .int z74, .int z75]) (rest := []) ⟨hx, hb, hml, hown, hts⟩ hK hP hN hS (c_X6_add l D cA ad hI σ15 τ15 hR (σ0 1 9) z74 z75 (by omega)) (cwV 3 hts gX7_readOne_X6_add rfl rfl rfl (by decide +kernel) ⟨by decide, by decide⟩) (rv_Sent hK hP (by decide) (by decide)) rfl hl.1 rfl (Nat.le_of_ble_eq_true rfl) dX7_readOne_257 (Nat.zero_le _) (Nat.zero_le _) (fun r76 u76 H76 locs76 hp76 hP hS => ?_)
          obtain ⟨σ76, τ76⟩ := u76
          obtain ⟨hR, f76, fL76, hq76, hp76_0⟩ : P_X6_add σ15 τ15 (σ0 1 9) z74 z75 r76 σ76 τ76 := hp76
          have hP : va_P D vwCl (gw cA ad σ76 τ76) H76 := hP
          obtain rfl := FrL.nil fL76
          have hF := hF.step f76 (by decide)
          have gCT := gCT.ag (Agr.fr f76 (by decide))
          have gWH := gWH.ag (Agr.fr f76 (by decide))
          have t77 : (σ76 24 1).toInt = (σ15 24 1).toInt := congrArg Int32.toInt (f76.at 24 1 (by decide))
          have hr78 := rg_6_2 hR (k := 24) (by decide) (by decide)
          exact r_zret hx hb hr hK hP hS hk (by omega) dX7_readOne_260 (show P_X7_readOne_d5 σ0 τ0 a1 b N mo q nn nm hc r76 σ76 τ15 from ⟨hR, hF, hFL, by omega, by first | exact RO.ofr ((one_l (by omega) (by omega) (by omega) (by omega)).trans (lea_n (by omega) (by omega))) (by omega) ⟨gCT, by omega, by omega⟩ | (exfalso; omega) | exact RO.ofk (one_x (by omega)) (by omega) (by omega) (by omega) | exact RO.ofk (one_4 (by omega) (by omega)) (by omega) (by omega) (by omega) | (obtain ⟨f, e1, x1, x2⟩ := o1.no (by omega); exact RO.ofl ((one_n (by omega) (by omega)).trans e1) (by omega) x1 x2) | exact RO.ofr ((one_n (by omega) (by omega)).trans e1) (by omega) ⟨gCT, by omega, by omega⟩ | (obtain ⟨f, e2, x1, x2⟩ := o2.no (by omega); exact RO.ofl (by rw [one_o (by omega) (by omega), e2, bnd_l]) (by omega) x1 x2) | (obtain ⟨f, e3, x1, x2⟩ := o3.no (by omega); exact RO.ofl (by rw [one_o (by omega) (by omega), e2, bnd_r, e3, bnd_l]) (by omega) x1 x2) | exact RO.ofr (by rw [one_o (by omega) (by omega), e2, bnd_r, e3, bnd_r]) (by omega) ⟨gCT, by omega, by omega⟩ | (rw [one_l (by omega) (by omega) (by omega) (by omega)]; exact o4.map (fun s es h => ⟨h.1, h.2.1, by have h2 := h.2.2; have hl := lea_up es; omega⟩)) | (rw [one_l (by omega) (by omega) (by omega) (by omega)]; exact o5.map (fun s es h => ⟨h.1, h.2.1, by have h2 := h.2.2; have hl := lea_up es; omega⟩)), gWH⟩)
        by_cases c79 : (σ0 1 9).toInt = 32
        · refine lv_tableIn (off := 177) (tgt := 249) hx hb dX7_readOne_72 (by omega) (by omega) (by rw [c79]; rfl) (by decide) ?_
          refine lv_aload_n hx hb dX7_readOne_249 rfl (lv_at hl 1 rfl) ?_
          refine fg_7_2 (k := 27) hx hb hts in_X7_readOne_7 hown hK hP (by decide) (by decide) (hts _ lk_X7_readOne_19) dX7_readOne_250 ?_
          refine lv_iload_n hx hb dX7_readOne_253 rfl (lv_at hl 0 rfl) ?_
          refine r_bipush hx hb dX7_readOne_254 (by decide) (fun z80 ez80 => ?_)
          refine r_iconst hx hb dX7_readOne_256 (by decide) (fun z81 ez81 => ?_)
          refine r_cVi (k := 24) (As := [.int (σ0 1 9), .int z80, .int z81]) (rest := []) ⟨hx, hb, hml, hown, hts⟩ hK hP hN hS (c_X6_add l D cA ad hI σ15 τ15 hR (σ0 1 9) z80 z81 (by omega)) (cwV 3 hts gX7_readOne_X6_add rfl rfl rfl (by decide +kernel) ⟨by decide, by decide⟩) (rv_Sent hK hP (by decide) (by decide)) rfl hl.1 rfl (Nat.le_of_ble_eq_true rfl) dX7_readOne_257 (Nat.zero_le _) (Nat.zero_le _) (fun r82 u82 H82 locs82 hp82 hP hS => ?_)
          obtain ⟨σ82, τ82⟩ := u82
          obtain ⟨hR, f82, fL82, hq82, hp82_0⟩ : P_X6_add σ15 τ15 (σ0 1 9) z80 z81 r82 σ82 τ82 := hp82
          have hP : va_P D vwCl (gw cA ad σ82 τ82) H82 := hP
          obtain rfl := FrL.nil fL82
          have hF := hF.step f82 (by decide)
          have gCT := gCT.ag (Agr.fr f82 (by decide))
          have gWH := gWH.ag (Agr.fr f82 (by decide))
          have t83 : (σ82 24 1).toInt = (σ15 24 1).toInt := congrArg Int32.toInt (f82.at 24 1 (by decide))
          have hr84 := rg_6_2 hR (k := 24) (by decide) (by decide)
          exact r_zret hx hb hr hK hP hS hk (by omega) dX7_readOne_260 (show P_X7_readOne_d5 σ0 τ0 a1 b N mo q nn nm hc r82 σ82 τ15 from ⟨hR, hF, hFL, by omega, by first | exact RO.ofr ((one_l (by omega) (by omega) (by omega) (by omega)).trans (lea_n (by omega) (by omega))) (by omega) ⟨gCT, by omega, by omega⟩ | (exfalso; omega) | exact RO.ofk (one_x (by omega)) (by omega) (by omega) (by omega) | exact RO.ofk (one_4 (by omega) (by omega)) (by omega) (by omega) (by omega) | (obtain ⟨f, e1, x1, x2⟩ := o1.no (by omega); exact RO.ofl ((one_n (by omega) (by omega)).trans e1) (by omega) x1 x2) | exact RO.ofr ((one_n (by omega) (by omega)).trans e1) (by omega) ⟨gCT, by omega, by omega⟩ | (obtain ⟨f, e2, x1, x2⟩ := o2.no (by omega); exact RO.ofl (by rw [one_o (by omega) (by omega), e2, bnd_l]) (by omega) x1 x2) | (obtain ⟨f, e3, x1, x2⟩ := o3.no (by omega); exact RO.ofl (by rw [one_o (by omega) (by omega), e2, bnd_r, e3, bnd_l]) (by omega) x1 x2) | exact RO.ofr (by rw [one_o (by omega) (by omega), e2, bnd_r, e3, bnd_r]) (by omega) ⟨gCT, by omega, by omega⟩ | (rw [one_l (by omega) (by omega) (by omega) (by omega)]; exact o4.map (fun s es h => ⟨h.1, h.2.1, by have h2 := h.2.2; have hl := lea_up es; omega⟩)) | (rw [one_l (by omega) (by omega) (by omega) (by omega)]; exact o5.map (fun s es h => ⟨h.1, h.2.1, by have h2 := h.2.2; have hl := lea_up es; omega⟩)), gWH⟩)
        by_cases c85 : (σ0 1 9).toInt = 33
        · refine lv_tableIn (off := 177) (tgt := 249) hx hb dX7_readOne_72 (by omega) (by omega) (by rw [c85]; rfl) (by decide) ?_
          refine lv_aload_n hx hb dX7_readOne_249 rfl (lv_at hl 1 rfl) ?_
          refine fg_7_2 (k := 27) hx hb hts in_X7_readOne_7 hown hK hP (by decide) (by decide) (hts _ lk_X7_readOne_19) dX7_readOne_250 ?_
          refine lv_iload_n hx hb dX7_readOne_253 rfl (lv_at hl 0 rfl) ?_
          refine r_bipush hx hb dX7_readOne_254 (by decide) (fun z86 ez86 => ?_)
          refine r_iconst hx hb dX7_readOne_256 (by decide) (fun z87 ez87 => ?_)
          refine r_cVi (k := 24) (As := [.int (σ0 1 9), .int z86, .int z87]) (rest := []) ⟨hx, hb, hml, hown, hts⟩ hK hP hN hS (c_X6_add l D cA ad hI σ15 τ15 hR (σ0 1 9) z86 z87 (by omega)) (cwV 3 hts gX7_readOne_X6_add rfl rfl rfl (by decide +kernel) ⟨by decide, by decide⟩) (rv_Sent hK hP (by decide) (by decide)) rfl hl.1 rfl (Nat.le_of_ble_eq_true rfl) dX7_readOne_257 (Nat.zero_le _) (Nat.zero_le _) (fun r88 u88 H88 locs88 hp88 hP hS => ?_)
          obtain ⟨σ88, τ88⟩ := u88
          obtain ⟨hR, f88, fL88, hq88, hp88_0⟩ : P_X6_add σ15 τ15 (σ0 1 9) z86 z87 r88 σ88 τ88 := hp88
          have hP : va_P D vwCl (gw cA ad σ88 τ88) H88 := hP
          obtain rfl := FrL.nil fL88
          have hF := hF.step f88 (by decide)
          have gCT := gCT.ag (Agr.fr f88 (by decide))
          have gWH := gWH.ag (Agr.fr f88 (by decide))
          have t89 : (σ88 24 1).toInt = (σ15 24 1).toInt := congrArg Int32.toInt (f88.at 24 1 (by decide))
          have hr90 := rg_6_2 hR (k := 24) (by decide) (by decide)
          exact r_zret hx hb hr hK hP hS hk (by omega) dX7_readOne_260 (show P_X7_readOne_d5 σ0 τ0 a1 b N mo q nn nm hc r88 σ88 τ15 from ⟨hR, hF, hFL, by omega, by first | exact RO.ofr ((one_l (by omega) (by omega) (by omega) (by omega)).trans (lea_n (by omega) (by omega))) (by omega) ⟨gCT, by omega, by omega⟩ | (exfalso; omega) | exact RO.ofk (one_x (by omega)) (by omega) (by omega) (by omega) | exact RO.ofk (one_4 (by omega) (by omega)) (by omega) (by omega) (by omega) | (obtain ⟨f, e1, x1, x2⟩ := o1.no (by omega); exact RO.ofl ((one_n (by omega) (by omega)).trans e1) (by omega) x1 x2) | exact RO.ofr ((one_n (by omega) (by omega)).trans e1) (by omega) ⟨gCT, by omega, by omega⟩ | (obtain ⟨f, e2, x1, x2⟩ := o2.no (by omega); exact RO.ofl (by rw [one_o (by omega) (by omega), e2, bnd_l]) (by omega) x1 x2) | (obtain ⟨f, e3, x1, x2⟩ := o3.no (by omega); exact RO.ofl (by rw [one_o (by omega) (by omega), e2, bnd_r, e3, bnd_l]) (by omega) x1 x2) | exact RO.ofr (by rw [one_o (by omega) (by omega), e2, bnd_r, e3, bnd_r]) (by omega) ⟨gCT, by omega, by omega⟩ | (rw [one_l (by omega) (by omega) (by omega) (by omega)]; exact o4.map (fun s es h => ⟨h.1, h.2.1, by have h2 := h.2.2; have hl := lea_up es; omega⟩)) | (rw [one_l (by omega) (by omega) (by omega) (by omega)]; exact o5.map (fun s es h => ⟨h.1, h.2.1, by have h2 := h.2.2; have hl := lea_up es; omega⟩)), gWH⟩)
        by_cases c91 : (σ0 1 9).toInt = 34
        · refine lv_tableIn (off := 177) (tgt := 249) hx hb dX7_readOne_72 (by omega) (by omega) (by rw [c91]; rfl) (by decide) ?_
          refine lv_aload_n hx hb dX7_readOne_249 rfl (lv_at hl 1 rfl) ?_
          refine fg_7_2 (k := 27) hx hb hts in_X7_readOne_7 hown hK hP (by decide) (by decide) (hts _ lk_X7_readOne_19) dX7_readOne_250 ?_
          refine lv_iload_n hx hb dX7_readOne_253 rfl (lv_at hl 0 rfl) ?_
          refine r_bipush hx hb dX7_readOne_254 (by decide) (fun z92 ez92 => ?_)
          refine r_iconst hx hb dX7_readOne_256 (by decide) (fun z93 ez93 => ?_)
          refine r_cVi (k := 24) (As := [.int (σ0 1 9), .int z92, .int z93]) (rest := []) ⟨hx, hb, hml, hown, hts⟩ hK hP hN hS (c_X6_add l D cA ad hI σ15 τ15 hR (σ0 1 9) z92 z93 (by omega)) (cwV 3 hts gX7_readOne_X6_add rfl rfl rfl (by decide +kernel) ⟨by decide, by decide⟩) (rv_Sent hK hP (by decide) (by decide)) rfl hl.1 rfl (Nat.le_of_ble_eq_true rfl) dX7_readOne_257 (Nat.zero_le _) (Nat.zero_le _) (fun r94 u94 H94 locs94 hp94 hP hS => ?_)
          obtain ⟨σ94, τ94⟩ := u94
          obtain ⟨hR, f94, fL94, hq94, hp94_0⟩ : P_X6_add σ15 τ15 (σ0 1 9) z92 z93 r94 σ94 τ94 := hp94
          have hP : va_P D vwCl (gw cA ad σ94 τ94) H94 := hP
          obtain rfl := FrL.nil fL94
          have hF := hF.step f94 (by decide)
          have gCT := gCT.ag (Agr.fr f94 (by decide))
          have gWH := gWH.ag (Agr.fr f94 (by decide))
          have t95 : (σ94 24 1).toInt = (σ15 24 1).toInt := congrArg Int32.toInt (f94.at 24 1 (by decide))
          have hr96 := rg_6_2 hR (k := 24) (by decide) (by decide)
          exact r_zret hx hb hr hK hP hS hk (by omega) dX7_readOne_260 (show P_X7_readOne_d5 σ0 τ0 a1 b N mo q nn nm hc r94 σ94 τ15 from ⟨hR, hF, hFL, by omega, by first | exact RO.ofr ((one_l (by omega) (by omega) (by omega) (by omega)).trans (lea_n (by omega) (by omega))) (by omega) ⟨gCT, by omega, by omega⟩ | (exfalso; omega) | exact RO.ofk (one_x (by omega)) (by omega) (by omega) (by omega) | exact RO.ofk (one_4 (by omega) (by omega)) (by omega) (by omega) (by omega) | (obtain ⟨f, e1, x1, x2⟩ := o1.no (by omega); exact RO.ofl ((one_n (by omega) (by omega)).trans e1) (by omega) x1 x2) | exact RO.ofr ((one_n (by omega) (by omega)).trans e1) (by omega) ⟨gCT, by omega, by omega⟩ | (obtain ⟨f, e2, x1, x2⟩ := o2.no (by omega); exact RO.ofl (by rw [one_o (by omega) (by omega), e2, bnd_l]) (by omega) x1 x2) | (obtain ⟨f, e3, x1, x2⟩ := o3.no (by omega); exact RO.ofl (by rw [one_o (by omega) (by omega), e2, bnd_r, e3, bnd_l]) (by omega) x1 x2) | exact RO.ofr (by rw [one_o (by omega) (by omega), e2, bnd_r, e3, bnd_r]) (by omega) ⟨gCT, by omega, by omega⟩ | (rw [one_l (by omega) (by omega) (by omega) (by omega)]; exact o4.map (fun s es h => ⟨h.1, h.2.1, by have h2 := h.2.2; have hl := lea_up es; omega⟩)) | (rw [one_l (by omega) (by omega) (by omega) (by omega)]; exact o5.map (fun s es h => ⟨h.1, h.2.1, by have h2 := h.2.2; have hl := lea_up es; omega⟩)), gWH⟩)
        by_cases c97 : (σ0 1 9).toInt = 35
        · refine lv_tableIn (off := 177) (tgt := 249) hx hb dX7_readOne_72 (by omega) (by omega) (by rw [c97]; rfl) (by decide) ?_
          refine lv_aload_n hx hb dX7_readOne_249 rfl (lv_at hl 1 rfl) ?_
          refine fg_7_2 (k := 27) hx hb hts in_X7_readOne_7 hown hK hP (by decide) (by decide) (hts _ lk_X7_readOne_19) dX7_readOne_250 ?_
          refine lv_iload_n hx hb dX7_readOne_253 rfl (lv_at hl 0 rfl) ?_
          refine r_bipush hx hb dX7_readOne_254 (by decide) (fun z98 ez98 => ?_)
          refine r_iconst hx hb dX7_readOne_256 (by decide) (fun z99 ez99 => ?_)
          refine r_cVi (k := 24) (As := [.int (σ0 1 9), .int z98, .int z99]) (rest := []) ⟨hx, hb, hml, hown, hts⟩ hK hP hN hS (c_X6_add l D cA ad hI σ15 τ15 hR (σ0 1 9) z98 z99 (by omega)) (cwV 3 hts gX7_readOne_X6_add rfl rfl rfl (by decide +kernel) ⟨by decide, by decide⟩) (rv_Sent hK hP (by decide) (by decide)) rfl hl.1 rfl (Nat.le_of_ble_eq_true rfl) dX7_readOne_257 (Nat.zero_le _) (Nat.zero_le _) (fun r100 u100 H100 locs100 hp100 hP hS => ?_)
          obtain ⟨σ100, τ100⟩ := u100
          obtain ⟨hR, f100, fL100, hq100, hp100_0⟩ : P_X6_add σ15 τ15 (σ0 1 9) z98 z99 r100 σ100 τ100 := hp100
          have hP : va_P D vwCl (gw cA ad σ100 τ100) H100 := hP
          obtain rfl := FrL.nil fL100
          have hF := hF.step f100 (by decide)
          have gCT := gCT.ag (Agr.fr f100 (by decide))
          have gWH := gWH.ag (Agr.fr f100 (by decide))
          have t101 : (σ100 24 1).toInt = (σ15 24 1).toInt := congrArg Int32.toInt (f100.at 24 1 (by decide))
          have hr102 := rg_6_2 hR (k := 24) (by decide) (by decide)
          exact r_zret hx hb hr hK hP hS hk (by omega) dX7_readOne_260 (show P_X7_readOne_d5 σ0 τ0 a1 b N mo q nn nm hc r100 σ100 τ15 from ⟨hR, hF, hFL, by omega, by first | exact RO.ofr ((one_l (by omega) (by omega) (by omega) (by omega)).trans (lea_n (by omega) (by omega))) (by omega) ⟨gCT, by omega, by omega⟩ | (exfalso; omega) | exact RO.ofk (one_x (by omega)) (by omega) (by omega) (by omega) | exact RO.ofk (one_4 (by omega) (by omega)) (by omega) (by omega) (by omega) | (obtain ⟨f, e1, x1, x2⟩ := o1.no (by omega); exact RO.ofl ((one_n (by omega) (by omega)).trans e1) (by omega) x1 x2) | exact RO.ofr ((one_n (by omega) (by omega)).trans e1) (by omega) ⟨gCT, by omega, by omega⟩ | (obtain ⟨f, e2, x1, x2⟩ := o2.no (by omega); exact RO.ofl (by rw [one_o (by omega) (by omega), e2, bnd_l]) (by omega) x1 x2) | (obtain ⟨f, e3, x1, x2⟩ := o3.no (by omega); exact RO.ofl (by rw [one_o (by omega) (by omega), e2, bnd_r, e3, bnd_l]) (by omega) x1 x2) | exact RO.ofr (by rw [one_o (by omega) (by omega), e2, bnd_r, e3, bnd_r]) (by omega) ⟨gCT, by omega, by omega⟩ | (rw [one_l (by omega) (by omega) (by omega) (by omega)]; exact o4.map (fun s es h => ⟨h.1, h.2.1, by have h2 := h.2.2; have hl := lea_up es; omega⟩)) | (rw [one_l (by omega) (by omega) (by omega) (by omega)]; exact o5.map (fun s es h => ⟨h.1, h.2.1, by have h2 := h.2.2; have hl := lea_up es; omega⟩)), gWH⟩)
        by_cases c103 : (σ0 1 9).toInt = 36
        · refine lv_tableIn (off := 177) (tgt := 249) hx hb dX7_readOne_72 (by omega) (by omega) (by rw [c103]; rfl) (by decide) ?_
          refine lv_aload_n hx hb dX7_readOne_249 rfl (lv_at hl 1 rfl) ?_
          refine fg_7_2 (k := 27) hx hb hts in_X7_readOne_7 hown hK hP (by decide) (by decide) (hts _ lk_X7_readOne_19) dX7_readOne_250 ?_
          refine lv_iload_n hx hb dX7_readOne_253 rfl (lv_at hl 0 rfl) ?_
          refine r_bipush hx hb dX7_readOne_254 (by decide) (fun z104 ez104 => ?_)
          refine r_iconst hx hb dX7_readOne_256 (by decide) (fun z105 ez105 => ?_)
          refine r_cVi (k := 24) (As := [.int (σ0 1 9), .int z104, .int z105]) (rest := []) ⟨hx, hb, hml, hown, hts⟩ hK hP hN hS (c_X6_add l D cA ad hI σ15 τ15 hR (σ0 1 9) z104 z105 (by omega)) (cwV 3 hts gX7_readOne_X6_add rfl rfl rfl (by decide +kernel) ⟨by decide, by decide⟩) (rv_Sent hK hP (by decide) (by decide)) rfl hl.1 rfl (Nat.le_of_ble_eq_true rfl) dX7_readOne_257 (Nat.zero_le _) (Nat.zero_le _) (fun r106 u106 H106 locs106 hp106 hP hS => ?_)
          obtain ⟨σ106, τ106⟩ := u106
          obtain ⟨hR, f106, fL106, hq106, hp106_0⟩ : P_X6_add σ15 τ15 (σ0 1 9) z104 z105 r106 σ106 τ106 := hp106
          have hP : va_P D vwCl (gw cA ad σ106 τ106) H106 := hP
          obtain rfl := FrL.nil fL106
          have hF := hF.step f106 (by decide)
          have gCT := gCT.ag (Agr.fr f106 (by decide))
          have gWH := gWH.ag (Agr.fr f106 (by decide))
          have t107 : (σ106 24 1).toInt = (σ15 24 1).toInt := congrArg Int32.toInt (f106.at 24 1 (by decide))
          have hr108 := rg_6_2 hR (k := 24) (by decide) (by decide)
          exact r_zret hx hb hr hK hP hS hk (by omega) dX7_readOne_260 (show P_X7_readOne_d5 σ0 τ0 a1 b N mo q nn nm hc r106 σ106 τ15 from ⟨hR, hF, hFL, by omega, by first | exact RO.ofr ((one_l (by omega) (by omega) (by omega) (by omega)).trans (lea_n (by omega) (by omega))) (by omega) ⟨gCT, by omega, by omega⟩ | (exfalso; omega) | exact RO.ofk (one_x (by omega)) (by omega) (by omega) (by omega) | exact RO.ofk (one_4 (by omega) (by omega)) (by omega) (by omega) (by omega) | (obtain ⟨f, e1, x1, x2⟩ := o1.no (by omega); exact RO.ofl ((one_n (by omega) (by omega)).trans e1) (by omega) x1 x2) | exact RO.ofr ((one_n (by omega) (by omega)).trans e1) (by omega) ⟨gCT, by omega, by omega⟩ | (obtain ⟨f, e2, x1, x2⟩ := o2.no (by omega); exact RO.ofl (by rw [one_o (by omega) (by omega), e2, bnd_l]) (by omega) x1 x2) | (obtain ⟨f, e3, x1, x2⟩ := o3.no (by omega); exact RO.ofl (by rw [one_o (by omega) (by omega), e2, bnd_r, e3, bnd_l]) (by omega) x1 x2) | exact RO.ofr (by rw [one_o (by omega) (by omega), e2, bnd_r, e3, bnd_r]) (by omega) ⟨gCT, by omega, by omega⟩ | (rw [one_l (by omega) (by omega) (by omega) (by omega)]; exact o4.map (fun s es h => ⟨h.1, h.2.1, by have h2 := h.2.2; have hl := lea_up es; omega⟩)) | (rw [one_l (by omega) (by omega) (by omega) (by omega)]; exact o5.map (fun s es h => ⟨h.1, h.2.1, by have h2 := h.2.2; have hl := lea_up es; omega⟩)), gWH⟩)
        by_cases c109 : (σ0 1 9).toInt = 37
        · refine lv_tableIn (off := 177) (tgt := 249) hx hb dX7_readOne_72 (by omega) (by omega) (by rw [c109]; rfl) (by decide) ?_
          refine lv_aload_n hx hb dX7_readOne_249 rfl (lv_at hl 1 rfl) ?_
          refine fg_7_2 (k := 27) hx hb hts in_X7_readOne_7 hown hK hP (by decide) (by decide) (hts _ lk_X7_readOne_19) dX7_readOne_250 ?_
          refine lv_iload_n hx hb dX7_readOne_253 rfl (lv_at hl 0 rfl) ?_
          refine r_bipush hx hb dX7_readOne_254 (by decide) (fun z110 ez110 => ?_)
          refine r_iconst hx hb dX7_readOne_256 (by decide) (fun z111 ez111 => ?_)
          refine r_cVi (k := 24) (As := [.int (σ0 1 9), .int z110, .int z111]) (rest := []) ⟨hx, hb, hml, hown, hts⟩ hK hP hN hS (c_X6_add l D cA ad hI σ15 τ15 hR (σ0 1 9) z110 z111 (by omega)) (cwV 3 hts gX7_readOne_X6_add rfl rfl rfl (by decide +kernel) ⟨by decide, by decide⟩) (rv_Sent hK hP (by decide) (by decide)) rfl hl.1 rfl (Nat.le_of_ble_eq_true rfl) dX7_readOne_257 (Nat.zero_le _) (Nat.zero_le _) (fun r112 u112 H112 locs112 hp112 hP hS => ?_)
          obtain ⟨σ112, τ112⟩ := u112
          obtain ⟨hR, f112, fL112, hq112, hp112_0⟩ : P_X6_add σ15 τ15 (σ0 1 9) z110 z111 r112 σ112 τ112 := hp112
          have hP : va_P D vwCl (gw cA ad σ112 τ112) H112 := hP
          obtain rfl := FrL.nil fL112
          have hF := hF.step f112 (by decide)
          have gCT := gCT.ag (Agr.fr f112 (by decide))
          have gWH := gWH.ag (Agr.fr f112 (by decide))
          have t113 : (σ112 24 1).toInt = (σ15 24 1).toInt := congrArg Int32.toInt (f112.at 24 1 (by decide))
          have hr114 := rg_6_2 hR (k := 24) (by decide) (by decide)
          exact r_zret hx hb hr hK hP hS hk (by omega) dX7_readOne_260 (show P_X7_readOne_d5 σ0 τ0 a1 b N mo q nn nm hc r112 σ112 τ15 from ⟨hR, hF, hFL, by omega, by first | exact RO.ofr ((one_l (by omega) (by omega) (by omega) (by omega)).trans (lea_n (by omega) (by omega))) (by omega) ⟨gCT, by omega, by omega⟩ | (exfalso; omega) | exact RO.ofk (one_x (by omega)) (by omega) (by omega) (by omega) | exact RO.ofk (one_4 (by omega) (by omega)) (by omega) (by omega) (by omega) | (obtain ⟨f, e1, x1, x2⟩ := o1.no (by omega); exact RO.ofl ((one_n (by omega) (by omega)).trans e1) (by omega) x1 x2) | exact RO.ofr ((one_n (by omega) (by omega)).trans e1) (by omega) ⟨gCT, by omega, by omega⟩ | (obtain ⟨f, e2, x1, x2⟩ := o2.no (by omega); exact RO.ofl (by rw [one_o (by omega) (by omega), e2, bnd_l]) (by omega) x1 x2) | (obtain ⟨f, e3, x1, x2⟩ := o3.no (by omega); exact RO.ofl (by rw [one_o (by omega) (by omega), e2, bnd_r, e3, bnd_l]) (by omega) x1 x2) | exact RO.ofr (by rw [one_o (by omega) (by omega), e2, bnd_r, e3, bnd_r]) (by omega) ⟨gCT, by omega, by omega⟩ | (rw [one_l (by omega) (by omega) (by omega) (by omega)]; exact o4.map (fun s es h => ⟨h.1, h.2.1, by have h2 := h.2.2; have hl := lea_up es; omega⟩)) | (rw [one_l (by omega) (by omega) (by omega) (by omega)]; exact o5.map (fun s es h => ⟨h.1, h.2.1, by have h2 := h.2.2; have hl := lea_up es; omega⟩)), gWH⟩)
        by_cases c115 : (σ0 1 9).toInt = 38
        · refine lv_tableIn (off := 177) (tgt := 249) hx hb dX7_readOne_72 (by omega) (by omega) (by rw [c115]; rfl) (by decide) ?_
          refine lv_aload_n hx hb dX7_readOne_249 rfl (lv_at hl 1 rfl) ?_
          refine fg_7_2 (k := 27) hx hb hts in_X7_readOne_7 hown hK hP (by decide) (by decide) (hts _ lk_X7_readOne_19) dX7_readOne_250 ?_
          refine lv_iload_n hx hb dX7_readOne_253 rfl (lv_at hl 0 rfl) ?_
          refine r_bipush hx hb dX7_readOne_254 (by decide) (fun z116 ez116 => ?_)
          refine r_iconst hx hb dX7_readOne_256 (by decide) (fun z117 ez117 => ?_)
          refine r_cVi (k := 24) (As := [.int (σ0 1 9), .int z116, .int z117]) (rest := []) ⟨hx, hb, hml, hown, hts⟩ hK hP hN hS (c_X6_add l D cA ad hI σ15 τ15 hR (σ0 1 9) z116 z117 (by omega)) (cwV 3 hts gX7_readOne_X6_add rfl rfl rfl (by decide +kernel) ⟨by decide, by decide⟩) (rv_Sent hK hP (by decide) (by decide)) rfl hl.1 rfl (Nat.le_of_ble_eq_true rfl) dX7_readOne_257 (Nat.zero_le _) (Nat.zero_le _) (fun r118 u118 H118 locs118 hp118 hP hS => ?_)
          obtain ⟨σ118, τ118⟩ := u118
          obtain ⟨hR, f118, fL118, hq118, hp118_0⟩ : P_X6_add σ15 τ15 (σ0 1 9) z116 z117 r118 σ118 τ118 := hp118
          have hP : va_P D vwCl (gw cA ad σ118 τ118) H118 := hP
          obtain rfl := FrL.nil fL118
          have hF := hF.step f118 (by decide)
          have gCT := gCT.ag (Agr.fr f118 (by decide))
          have gWH := gWH.ag (Agr.fr f118 (by decide))
          have t119 : (σ118 24 1).toInt = (σ15 24 1).toInt := congrArg Int32.toInt (f118.at 24 1 (by decide))
          have hr120 := rg_6_2 hR (k := 24) (by decide) (by decide)
          exact r_zret hx hb hr hK hP hS hk (by omega) dX7_readOne_260 (show P_X7_readOne_d5 σ0 τ0 a1 b N mo q nn nm hc r118 σ118 τ15 from ⟨hR, hF, hFL, by omega, by first | exact RO.ofr ((one_l (by omega) (by omega) (by omega) (by omega)).trans (lea_n (by omega) (by omega))) (by omega) ⟨gCT, by omega, by omega⟩ | (exfalso; omega) | exact RO.ofk (one_x (by omega)) (by omega) (by omega) (by omega) | exact RO.ofk (one_4 (by omega) (by omega)) (by omega) (by omega) (by omega) | (obtain ⟨f, e1, x1, x2⟩ := o1.no (by omega); exact RO.ofl ((one_n (by omega) (by omega)).trans e1) (by omega) x1 x2) | exact RO.ofr ((one_n (by omega) (by omega)).trans e1) (by omega) ⟨gCT, by omega, by omega⟩ | (obtain ⟨f, e2, x1, x2⟩ := o2.no (by omega); exact RO.ofl (by rw [one_o (by omega) (by omega), e2, bnd_l]) (by omega) x1 x2) | (obtain ⟨f, e3, x1, x2⟩ := o3.no (by omega); exact RO.ofl (by rw [one_o (by omega) (by omega), e2, bnd_r, e3, bnd_l]) (by omega) x1 x2) | exact RO.ofr (by rw [one_o (by omega) (by omega), e2, bnd_r, e3, bnd_r]) (by omega) ⟨gCT, by omega, by omega⟩ | (rw [one_l (by omega) (by omega) (by omega) (by omega)]; exact o4.map (fun s es h => ⟨h.1, h.2.1, by have h2 := h.2.2; have hl := lea_up es; omega⟩)) | (rw [one_l (by omega) (by omega) (by omega) (by omega)]; exact o5.map (fun s es h => ⟨h.1, h.2.1, by have h2 := h.2.2; have hl := lea_up es; omega⟩)), gWH⟩)
        by_cases c121 : (σ0 1 9).toInt = 39
        · refine lv_tableIn (off := 177) (tgt := 249) hx hb dX7_readOne_72 (by omega) (by omega) (by rw [c121]; rfl) (by decide) ?_
          refine lv_aload_n hx hb dX7_readOne_249 rfl (lv_at hl 1 rfl) ?_
          refine fg_7_2 (k := 27) hx hb hts in_X7_readOne_7 hown hK hP (by decide) (by decide) (hts _ lk_X7_readOne_19) dX7_readOne_250 ?_
          refine lv_iload_n hx hb dX7_readOne_253 rfl (lv_at hl 0 rfl) ?_
          refine r_bipush hx hb dX7_readOne_254 (by decide) (fun z122 ez122 => ?_)
          refine r_iconst hx hb dX7_readOne_256 (by decide) (fun z123 ez123 => ?_)
          refine r_cVi (k := 24) (As := [.int (σ0 1 9), .int z122, .int z123]) (rest := []) ⟨hx, hb, hml, hown, hts⟩ hK hP hN hS (c_X6_add l D cA ad hI σ15 τ15 hR (σ0 1 9) z122 z123 (by omega)) (cwV 3 hts gX7_readOne_X6_add rfl rfl rfl (by decide +kernel) ⟨by decide, by decide⟩) (rv_Sent hK hP (by decide) (by decide)) rfl hl.1 rfl (Nat.le_of_ble_eq_true rfl) dX7_readOne_257 (Nat.zero_le _) (Nat.zero_le _) (fun r124 u124 H124 locs124 hp124 hP hS => ?_)
          obtain ⟨σ124, τ124⟩ := u124
          obtain ⟨hR, f124, fL124, hq124, hp124_0⟩ : P_X6_add σ15 τ15 (σ0 1 9) z122 z123 r124 σ124 τ124 := hp124
          have hP : va_P D vwCl (gw cA ad σ124 τ124) H124 := hP
          obtain rfl := FrL.nil fL124
          have hF := hF.step f124 (by decide)
          have gCT := gCT.ag (Agr.fr f124 (by decide))
          have gWH := gWH.ag (Agr.fr f124 (by decide))
          have t125 : (σ124 24 1).toInt = (σ15 24 1).toInt := congrArg Int32.toInt (f124.at 24 1 (by decide))
          have hr126 := rg_6_2 hR (k := 24) (by decide) (by decide)
          exact r_zret hx hb hr hK hP hS hk (by omega) dX7_readOne_260 (show P_X7_readOne_d5 σ0 τ0 a1 b N mo q nn nm hc r124 σ124 τ15 from ⟨hR, hF, hFL, by omega, by first | exact RO.ofr ((one_l (by omega) (by omega) (by omega) (by omega)).trans (lea_n (by omega) (by omega))) (by omega) ⟨gCT, by omega, by omega⟩ | (exfalso; omega) | exact RO.ofk (one_x (by omega)) (by omega) (by omega) (by omega) | exact RO.ofk (one_4 (by omega) (by omega)) (by omega) (by omega) (by omega) | (obtain ⟨f, e1, x1, x2⟩ := o1.no (by omega); exact RO.ofl ((one_n (by omega) (by omega)).trans e1) (by omega) x1 x2) | exact RO.ofr ((one_n (by omega) (by omega)).trans e1) (by omega) ⟨gCT, by omega, by omega⟩ | (obtain ⟨f, e2, x1, x2⟩ := o2.no (by omega); exact RO.ofl (by rw [one_o (by omega) (by omega), e2, bnd_l]) (by omega) x1 x2) | (obtain ⟨f, e3, x1, x2⟩ := o3.no (by omega); exact RO.ofl (by rw [one_o (by omega) (by omega), e2, bnd_r, e3, bnd_l]) (by omega) x1 x2) | exact RO.ofr (by rw [one_o (by omega) (by omega), e2, bnd_r, e3, bnd_r]) (by omega) ⟨gCT, by omega, by omega⟩ | (rw [one_l (by omega) (by omega) (by omega) (by omega)]; exact o4.map (fun s es h => ⟨h.1, h.2.1, by have h2 := h.2.2; have hl := lea_up es; omega⟩)) | (rw [one_l (by omega) (by omega) (by omega) (by omega)]; exact o5.map (fun s es h => ⟨h.1, h.2.1, by have h2 := h.2.2; have hl := lea_up es; omega⟩)), gWH⟩)
        by_cases c127 : (σ0 1 9).toInt = 40
        · refine lv_tableIn (off := 177) (tgt := 249) hx hb dX7_readOne_72 (by omega) (by omega) (by rw [c127]; rfl) (by decide) ?_
          refine lv_aload_n hx hb dX7_readOne_249 rfl (lv_at hl 1 rfl) ?_
          refine fg_7_2 (k := 27) hx hb hts in_X7_readOne_7 hown hK hP (by decide) (by decide) (hts _ lk_X7_readOne_19) dX7_readOne_250 ?_
          refine lv_iload_n hx hb dX7_readOne_253 rfl (lv_at hl 0 rfl) ?_
          refine r_bipush hx hb dX7_readOne_254 (by decide) (fun z128 ez128 => ?_)
          refine r_iconst hx hb dX7_readOne_256 (by decide) (fun z129 ez129 => ?_)
          refine r_cVi (k := 24) (As := [.int (σ0 1 9), .int z128, .int z129]) (rest := []) ⟨hx, hb, hml, hown, hts⟩ hK hP hN hS (c_X6_add l D cA ad hI σ15 τ15 hR (σ0 1 9) z128 z129 (by omega)) (cwV 3 hts gX7_readOne_X6_add rfl rfl rfl (by decide +kernel) ⟨by decide, by decide⟩) (rv_Sent hK hP (by decide) (by decide)) rfl hl.1 rfl (Nat.le_of_ble_eq_true rfl) dX7_readOne_257 (Nat.zero_le _) (Nat.zero_le _) (fun r130 u130 H130 locs130 hp130 hP hS => ?_)
          obtain ⟨σ130, τ130⟩ := u130
          obtain ⟨hR, f130, fL130, hq130, hp130_0⟩ : P_X6_add σ15 τ15 (σ0 1 9) z128 z129 r130 σ130 τ130 := hp130
          have hP : va_P D vwCl (gw cA ad σ130 τ130) H130 := hP
          obtain rfl := FrL.nil fL130
          have hF := hF.step f130 (by decide)
          have gCT := gCT.ag (Agr.fr f130 (by decide))
          have gWH := gWH.ag (Agr.fr f130 (by decide))
          have t131 : (σ130 24 1).toInt = (σ15 24 1).toInt := congrArg Int32.toInt (f130.at 24 1 (by decide))
          have hr132 := rg_6_2 hR (k := 24) (by decide) (by decide)
          exact r_zret hx hb hr hK hP hS hk (by omega) dX7_readOne_260 (show P_X7_readOne_d5 σ0 τ0 a1 b N mo q nn nm hc r130 σ130 τ15 from ⟨hR, hF, hFL, by omega, by first | exact RO.ofr ((one_l (by omega) (by omega) (by omega) (by omega)).trans (lea_n (by omega) (by omega))) (by omega) ⟨gCT, by omega, by omega⟩ | (exfalso; omega) | exact RO.ofk (one_x (by omega)) (by omega) (by omega) (by omega) | exact RO.ofk (one_4 (by omega) (by omega)) (by omega) (by omega) (by omega) | (obtain ⟨f, e1, x1, x2⟩ := o1.no (by omega); exact RO.ofl ((one_n (by omega) (by omega)).trans e1) (by omega) x1 x2) | exact RO.ofr ((one_n (by omega) (by omega)).trans e1) (by omega) ⟨gCT, by omega, by omega⟩ | (obtain ⟨f, e2, x1, x2⟩ := o2.no (by omega); exact RO.ofl (by rw [one_o (by omega) (by omega), e2, bnd_l]) (by omega) x1 x2) | (obtain ⟨f, e3, x1, x2⟩ := o3.no (by omega); exact RO.ofl (by rw [one_o (by omega) (by omega), e2, bnd_r, e3, bnd_l]) (by omega) x1 x2) | exact RO.ofr (by rw [one_o (by omega) (by omega), e2, bnd_r, e3, bnd_r]) (by omega) ⟨gCT, by omega, by omega⟩ | (rw [one_l (by omega) (by omega) (by omega) (by omega)]; exact o4.map (fun s es h => ⟨h.1, h.2.1, by have h2 := h.2.2; have hl := lea_up es; omega⟩)) | (rw [one_l (by omega) (by omega) (by omega) (by omega)]; exact o5.map (fun s es h => ⟨h.1, h.2.1, by have h2 := h.2.2; have hl := lea_up es; omega⟩)), gWH⟩)
        by_cases c133 : (σ0 1 9).toInt = 41
        · refine lv_tableIn (off := 177) (tgt := 249) hx hb dX7_readOne_72 (by omega) (by omega) (by rw [c133]; rfl) (by decide) ?_
          refine lv_aload_n hx hb dX7_readOne_249 rfl (lv_at hl 1 rfl) ?_
          refine fg_7_2 (k := 27) hx hb hts in_X7_readOne_7 hown hK hP (by decide) (by decide) (hts _ lk_X7_readOne_19) dX7_readOne_250 ?_
          refine lv_iload_n hx hb dX7_readOne_253 rfl (lv_at hl 0 rfl) ?_
          refine r_bipush hx hb dX7_readOne_254 (by decide) (fun z134 ez134 => ?_)
          refine r_iconst hx hb dX7_readOne_256 (by decide) (fun z135 ez135 => ?_)
          refine r_cVi (k := 24) (As := [.int (σ0 1 9), .int z134, .int z135]) (rest := []) ⟨hx, hb, hml, hown, hts⟩ hK hP hN hS (c_X6_add l D cA ad hI σ15 τ15 hR (σ0 1 9) z134 z135 (by omega)) (cwV 3 hts gX7_readOne_X6_add rfl rfl rfl (by decide +kernel) ⟨by decide, by decide⟩) (rv_Sent hK hP (by decide) (by decide)) rfl hl.1 rfl (Nat.le_of_ble_eq_true rfl) dX7_readOne_257 (Nat.zero_le _) (Nat.zero_le _) (fun r136 u136 H136 locs136 hp136 hP hS => ?_)
          obtain ⟨σ136, τ136⟩ := u136
          obtain ⟨hR, f136, fL136, hq136, hp136_0⟩ : P_X6_add σ15 τ15 (σ0 1 9) z134 z135 r136 σ136 τ136 := hp136
          have hP : va_P D vwCl (gw cA ad σ136 τ136) H136 := hP
          obtain rfl := FrL.nil fL136
          have hF := hF.step f136 (by decide)
          have gCT := gCT.ag (Agr.fr f136 (by decide))
          have gWH := gWH.ag (Agr.fr f136 (by decide))
          have t137 : (σ136 24 1).toInt = (σ15 24 1).toInt := congrArg Int32.toInt (f136.at 24 1 (by decide))
          have hr138 := rg_6_2 hR (k := 24) (by decide) (by decide)
          exact r_zret hx hb hr hK hP hS hk (by omega) dX7_readOne_260 (show P_X7_readOne_d5 σ0 τ0 a1 b N mo q nn nm hc r136 σ136 τ15 from ⟨hR, hF, hFL, by omega, by first | exact RO.ofr ((one_l (by omega) (by omega) (by omega) (by omega)).trans (lea_n (by omega) (by omega))) (by omega) ⟨gCT, by omega, by omega⟩ | (exfalso; omega) | exact RO.ofk (one_x (by omega)) (by omega) (by omega) (by omega) | exact RO.ofk (one_4 (by omega) (by omega)) (by omega) (by omega) (by omega) | (obtain ⟨f, e1, x1, x2⟩ := o1.no (by omega); exact RO.ofl ((one_n (by omega) (by omega)).trans e1) (by omega) x1 x2) | exact RO.ofr ((one_n (by omega) (by omega)).trans e1) (by omega) ⟨gCT, by omega, by omega⟩ | (obtain ⟨f, e2, x1, x2⟩ := o2.no (by omega); exact RO.ofl (by rw [one_o (by omega) (by omega), e2, bnd_l]) (by omega) x1 x2) | (obtain ⟨f, e3, x1, x2⟩ := o3.no (by omega); exact RO.ofl (by rw [one_o (by omega) (by omega), e2, bnd_r, e3, bnd_l]) (by omega) x1 x2) | exact RO.ofr (by rw [one_o (by omega) (by omega), e2, bnd_r, e3, bnd_r]) (by omega) ⟨gCT, by omega, by omega⟩ | (rw [one_l (by omega) (by omega) (by omega) (by omega)]; exact o4.map (fun s es h => ⟨h.1, h.2.1, by have h2 := h.2.2; have hl := lea_up es; omega⟩)) | (rw [one_l (by omega) (by omega) (by omega) (by omega)]; exact o5.map (fun s es h => ⟨h.1, h.2.1, by have h2 := h.2.2; have hl := lea_up es; omega⟩)), gWH⟩)
        by_cases c139 : (σ0 1 9).toInt = 42
        · refine lv_tableIn (off := 177) (tgt := 249) hx hb dX7_readOne_72 (by omega) (by omega) (by rw [c139]; rfl) (by decide) ?_
          refine lv_aload_n hx hb dX7_readOne_249 rfl (lv_at hl 1 rfl) ?_
          refine fg_7_2 (k := 27) hx hb hts in_X7_readOne_7 hown hK hP (by decide) (by decide) (hts _ lk_X7_readOne_19) dX7_readOne_250 ?_
          refine lv_iload_n hx hb dX7_readOne_253 rfl (lv_at hl 0 rfl) ?_
          refine r_bipush hx hb dX7_readOne_254 (by decide) (fun z140 ez140 => ?_)
          refine r_iconst hx hb dX7_readOne_256 (by decide) (fun z141 ez141 => ?_)
          refine r_cVi (k := 24) (As := [.int (σ0 1 9), .int z140, .int z141]) (rest := []) ⟨hx, hb, hml, hown, hts⟩ hK hP hN hS (c_X6_add l D cA ad hI σ15 τ15 hR (σ0 1 9) z140 z141 (by omega)) (cwV 3 hts gX7_readOne_X6_add rfl rfl rfl (by decide +kernel) ⟨by decide, by decide⟩) (rv_Sent hK hP (by decide) (by decide)) rfl hl.1 rfl (Nat.le_of_ble_eq_true rfl) dX7_readOne_257 (Nat.zero_le _) (Nat.zero_le _) (fun r142 u142 H142 locs142 hp142 hP hS => ?_)
          obtain ⟨σ142, τ142⟩ := u142
          obtain ⟨hR, f142, fL142, hq142, hp142_0⟩ : P_X6_add σ15 τ15 (σ0 1 9) z140 z141 r142 σ142 τ142 := hp142
          have hP : va_P D vwCl (gw cA ad σ142 τ142) H142 := hP
          obtain rfl := FrL.nil fL142
          have hF := hF.step f142 (by decide)
          have gCT := gCT.ag (Agr.fr f142 (by decide))
          have gWH := gWH.ag (Agr.fr f142 (by decide))
          have t143 : (σ142 24 1).toInt = (σ15 24 1).toInt := congrArg Int32.toInt (f142.at 24 1 (by decide))
          have hr144 := rg_6_2 hR (k := 24) (by decide) (by decide)
          exact r_zret hx hb hr hK hP hS hk (by omega) dX7_readOne_260 (show P_X7_readOne_d5 σ0 τ0 a1 b N mo q nn nm hc r142 σ142 τ15 from ⟨hR, hF, hFL, by omega, by first | exact RO.ofr ((one_l (by omega) (by omega) (by omega) (by omega)).trans (lea_n (by omega) (by omega))) (by omega) ⟨gCT, by omega, by omega⟩ | (exfalso; omega) | exact RO.ofk (one_x (by omega)) (by omega) (by omega) (by omega) | exact RO.ofk (one_4 (by omega) (by omega)) (by omega) (by omega) (by omega) | (obtain ⟨f, e1, x1, x2⟩ := o1.no (by omega); exact RO.ofl ((one_n (by omega) (by omega)).trans e1) (by omega) x1 x2) | exact RO.ofr ((one_n (by omega) (by omega)).trans e1) (by omega) ⟨gCT, by omega, by omega⟩ | (obtain ⟨f, e2, x1, x2⟩ := o2.no (by omega); exact RO.ofl (by rw [one_o (by omega) (by omega), e2, bnd_l]) (by omega) x1 x2) | (obtain ⟨f, e3, x1, x2⟩ := o3.no (by omega); exact RO.ofl (by rw [one_o (by omega) (by omega), e2, bnd_r, e3, bnd_l]) (by omega) x1 x2) | exact RO.ofr (by rw [one_o (by omega) (by omega), e2, bnd_r, e3, bnd_r]) (by omega) ⟨gCT, by omega, by omega⟩ | (rw [one_l (by omega) (by omega) (by omega) (by omega)]; exact o4.map (fun s es h => ⟨h.1, h.2.1, by have h2 := h.2.2; have hl := lea_up es; omega⟩)) | (rw [one_l (by omega) (by omega) (by omega) (by omega)]; exact o5.map (fun s es h => ⟨h.1, h.2.1, by have h2 := h.2.2; have hl := lea_up es; omega⟩)), gWH⟩)
        by_cases c145 : (σ0 1 9).toInt = 43
        · refine lv_tableIn (off := 177) (tgt := 249) hx hb dX7_readOne_72 (by omega) (by omega) (by rw [c145]; rfl) (by decide) ?_
          refine lv_aload_n hx hb dX7_readOne_249 rfl (lv_at hl 1 rfl) ?_
          refine fg_7_2 (k := 27) hx hb hts in_X7_readOne_7 hown hK hP (by decide) (by decide) (hts _ lk_X7_readOne_19) dX7_readOne_250 ?_
          refine lv_iload_n hx hb dX7_readOne_253 rfl (lv_at hl 0 rfl) ?_
          refine r_bipush hx hb dX7_readOne_254 (by decide) (fun z146 ez146 => ?_)
          refine r_iconst hx hb dX7_readOne_256 (by decide) (fun z147 ez147 => ?_)
          refine r_cVi (k := 24) (As := [.int (σ0 1 9), .int z146, .int z147]) (rest := []) ⟨hx, hb, hml, hown, hts⟩ hK hP hN hS (c_X6_add l D cA ad hI σ15 τ15 hR (σ0 1 9) z146 z147 (by omega)) (cwV 3 hts gX7_readOne_X6_add rfl rfl rfl (by decide +kernel) ⟨by decide, by decide⟩) (rv_Sent hK hP (by decide) (by decide)) rfl hl.1 rfl (Nat.le_of_ble_eq_true rfl) dX7_readOne_257 (Nat.zero_le _) (Nat.zero_le _) (fun r148 u148 H148 locs148 hp148 hP hS => ?_)
          obtain ⟨σ148, τ148⟩ := u148
          obtain ⟨hR, f148, fL148, hq148, hp148_0⟩ : P_X6_add σ15 τ15 (σ0 1 9) z146 z147 r148 σ148 τ148 := hp148
          have hP : va_P D vwCl (gw cA ad σ148 τ148) H148 := hP
          obtain rfl := FrL.nil fL148
          have hF := hF.step f148 (by decide)
          have gCT := gCT.ag (Agr.fr f148 (by decide))
          have gWH := gWH.ag (Agr.fr f148 (by decide))
          have t149 : (σ148 24 1).toInt = (σ15 24 1).toInt := congrArg Int32.toInt (f148.at 24 1 (by decide))
          have hr150 := rg_6_2 hR (k := 24) (by decide) (by decide)
          exact r_zret hx hb hr hK hP hS hk (by omega) dX7_readOne_260 (show P_X7_readOne_d5 σ0 τ0 a1 b N mo q nn nm hc r148 σ148 τ15 from ⟨hR, hF, hFL, by omega, by first | exact RO.ofr ((one_l (by omega) (by omega) (by omega) (by omega)).trans (lea_n (by omega) (by omega))) (by omega) ⟨gCT, by omega, by omega⟩ | (exfalso; omega) | exact RO.ofk (one_x (by omega)) (by omega) (by omega) (by omega) | exact RO.ofk (one_4 (by omega) (by omega)) (by omega) (by omega) (by omega) | (obtain ⟨f, e1, x1, x2⟩ := o1.no (by omega); exact RO.ofl ((one_n (by omega) (by omega)).trans e1) (by omega) x1 x2) | exact RO.ofr ((one_n (by omega) (by omega)).trans e1) (by omega) ⟨gCT, by omega, by omega⟩ | (obtain ⟨f, e2, x1, x2⟩ := o2.no (by omega); exact RO.ofl (by rw [one_o (by omega) (by omega), e2, bnd_l]) (by omega) x1 x2) | (obtain ⟨f, e3, x1, x2⟩ := o3.no (by omega); exact RO.ofl (by rw [one_o (by omega) (by omega), e2, bnd_r, e3, bnd_l]) (by omega) x1 x2) | exact RO.ofr (by rw [one_o (by omega) (by omega), e2, bnd_r, e3, bnd_r]) (by omega) ⟨gCT, by omega, by omega⟩ | (rw [one_l (by omega) (by omega) (by omega) (by omega)]; exact o4.map (fun s es h => ⟨h.1, h.2.1, by have h2 := h.2.2; have hl := lea_up es; omega⟩)) | (rw [one_l (by omega) (by omega) (by omega) (by omega)]; exact o5.map (fun s es h => ⟨h.1, h.2.1, by have h2 := h.2.2; have hl := lea_up es; omega⟩)), gWH⟩)
        by_cases c151 : (σ0 1 9).toInt = 44
        · refine lv_tableIn (off := 138) (tgt := 210) hx hb dX7_readOne_72 (by omega) (by omega) (by rw [c151]; rfl) (by decide) ?_
          refine lv_aload_n hx hb dX7_readOne_210 rfl (lv_at hl 1 rfl) ?_
          refine lv_iload_n hx hb dX7_readOne_211 rfl (lv_at hl 2 rfl) ?_
          refine r_iconst hx hb dX7_readOne_212 (by decide) (fun z152 ez152 => ?_)
          refine r_iadd hx hb dX7_readOne_213 (by omega) (fun z153 ez153 => ?_)
          refine r_cVi (k := 27) (As := [.int z153]) (rest := []) ⟨hx, hb, hml, hown, hts⟩ hK hP hN hS (c_X7_readCond_d6 l D cA ad hI σ15 τ15 hR z153 b N mo _ (nn + 1) nm hc (by omega) (by omega) (by omega) (by omega) gCT gWH) (cwV 1 hts gX7_readOne_X7_readCond rfl rfl rfl (by decide +kernel) ⟨by decide, by decide⟩) (rv_SText hK hP (by decide) (by decide)) rfl hl.1 rfl (Nat.le_of_ble_eq_true rfl) dX7_readOne_214 (Nat.zero_le _) (Nat.zero_le _) (fun r154 u154 H154 locs154 hp154 hP hS => ?_)
          obtain ⟨σ154, τ154⟩ := u154
          obtain ⟨hR, f154, fL154, hq154, hp154_0, gnWH⟩ : P_X7_readCond_d6 σ15 τ15 z153 b N mo _ (nn + 1) nm hc r154 σ154 τ154 := hp154
          have o2 := hp154_0
          have hP : va_P D vwCl (gw cA ad σ154 τ154) H154 := hP
          have hFL := hFL.step fL154 (by decide)
          have gWH := gWH.agL (AgrL.fr fL154 (by decide))
          have hF := hF.step f154 (by decide)
          have gWH := gWH.ag (Agr.fr f154 (by decide))
          have hr155 := rg_6_1 hR (k := 24) (by decide) (by decide)
          have hr156 := rg_6_2 hR (k := 24) (by decide) (by decide)
          refine r_if_eq (tgt := 236) hx hb dX7_readOne_217 (by decide) (fun c157 => ?_) (fun c157 => ?_)
          · refine r_iconst hx hb dX7_readOne_236 (by decide) (fun z158 ez158 => ?_)
            exact r_zret hx hb hr hK hP hS hk (by omega) dX7_readOne_237 (show P_X7_readOne_d5 σ0 τ0 a1 b N mo q nn nm hc z158 σ154 τ154 from ⟨hR, hF, hFL, by omega, by first | exact RO.ofr ((one_l (by omega) (by omega) (by omega) (by omega)).trans (lea_n (by omega) (by omega))) (by omega) ⟨gCT, by omega, by omega⟩ | (exfalso; omega) | exact RO.ofk (one_x (by omega)) (by omega) (by omega) (by omega) | exact RO.ofk (one_4 (by omega) (by omega)) (by omega) (by omega) (by omega) | (obtain ⟨f, e1, x1, x2⟩ := o1.no (by omega); exact RO.ofl ((one_n (by omega) (by omega)).trans e1) (by omega) x1 x2) | exact RO.ofr ((one_n (by omega) (by omega)).trans e1) (by omega) ⟨gCT, by omega, by omega⟩ | (obtain ⟨f, e2, x1, x2⟩ := o2.no (by omega); exact RO.ofl (by rw [one_o (by omega) (by omega), e2, bnd_l]) (by omega) x1 x2) | (obtain ⟨f, e3, x1, x2⟩ := o3.no (by omega); exact RO.ofl (by rw [one_o (by omega) (by omega), e2, bnd_r, e3, bnd_l]) (by omega) x1 x2) | exact RO.ofr (by rw [one_o (by omega) (by omega), e2, bnd_r, e3, bnd_r]) (by omega) ⟨gCT, by omega, by omega⟩ | (rw [one_l (by omega) (by omega) (by omega) (by omega)]; exact o4.map (fun s es h => ⟨h.1, h.2.1, by have h2 := h.2.2; have hl := lea_up es; omega⟩)) | (rw [one_l (by omega) (by omega) (by omega) (by omega)]; exact o5.map (fun s es h => ⟨h.1, h.2.1, by have h2 := h.2.2; have hl := lea_up es; omega⟩)), gWH⟩)
          · obtain ⟨s2, e2, gCT, hs1, hs2⟩ := o2.ye (by omega)
            have hu2 := con_up (one_up _) _ _ _ e2
            refine lv_aload_n hx hb dX7_readOne_220 rfl (lv_at hl 1 rfl) ?_
            refine fg_7_0 (k := 27) hx hb hts in_X7_readOne_7 hown hK hP (by decide) (by decide) (hts _ lk_X7_readOne_9) dX7_readOne_221 ?_
            refine r_bipush hx hb dX7_readOne_224 (by decide) (fun z159 ez159 => ?_)
            refine r_cVi (k := 1) (As := [.int z159]) (rest := []) ⟨hx, hb, hml, hown, hts⟩ hK hP hN hS (c_X8_take_v l D cA ad hI σ154 τ154 hR z159 b N mo _ 45 (by omega) (by omega) gCT) (cwV 1 hts gX7_readOne_X8_take rfl rfl rfl (by decide +kernel) ⟨by decide, by decide⟩) (rv_Tape hK hP (by decide) (by decide)) rfl hl.1 rfl (Nat.le_of_ble_eq_true rfl) dX7_readOne_226 (Nat.zero_le _) (Nat.zero_le _) (fun r160 u160 H160 locs160 hp160 hP hS => ?_)
            obtain ⟨σ160, τ160⟩ := u160
            obtain ⟨hR, f160, fL160, hq160, hp160_0⟩ : P_X8_take_v σ154 τ154 z159 b N mo _ 45 r160 σ160 τ160 := hp160
            have o3 := hp160_0
            have hP : va_P D vwCl (gw cA ad σ160 τ160) H160 := hP
            have hFL := hFL.step fL160 (by decide)
            have gWH := gWH.agL (AgrL.fr fL160 (by decide))
            have hF := hF.step f160 (by decide)
            have gWH := gWH.ag (Agr.fr f160 (by decide))
            have t161 : (σ160 24 1).toInt = (σ154 24 1).toInt := congrArg Int32.toInt (f160.at 24 1 (by decide))
            have t162 : (σ160 24 2).toInt = (σ154 24 2).toInt := congrArg Int32.toInt (f160.at 24 2 (by decide))
            refine r_if_eq (tgt := 236) hx hb dX7_readOne_229 (by decide) (fun c163 => ?_) (fun c163 => ?_)
            · refine r_iconst hx hb dX7_readOne_236 (by decide) (fun z164 ez164 => ?_)
              exact r_zret hx hb hr hK hP hS hk (by omega) dX7_readOne_237 (show P_X7_readOne_d5 σ0 τ0 a1 b N mo q nn nm hc z164 σ160 τ160 from ⟨hR, hF, hFL, by omega, by first | exact RO.ofr ((one_l (by omega) (by omega) (by omega) (by omega)).trans (lea_n (by omega) (by omega))) (by omega) ⟨gCT, by omega, by omega⟩ | (exfalso; omega) | exact RO.ofk (one_x (by omega)) (by omega) (by omega) (by omega) | exact RO.ofk (one_4 (by omega) (by omega)) (by omega) (by omega) (by omega) | (obtain ⟨f, e1, x1, x2⟩ := o1.no (by omega); exact RO.ofl ((one_n (by omega) (by omega)).trans e1) (by omega) x1 x2) | exact RO.ofr ((one_n (by omega) (by omega)).trans e1) (by omega) ⟨gCT, by omega, by omega⟩ | (obtain ⟨f, e2, x1, x2⟩ := o2.no (by omega); exact RO.ofl (by rw [one_o (by omega) (by omega), e2, bnd_l]) (by omega) x1 x2) | (obtain ⟨f, e3, x1, x2⟩ := o3.no (by omega); exact RO.ofl (by rw [one_o (by omega) (by omega), e2, bnd_r, e3, bnd_l]) (by omega) x1 x2) | exact RO.ofr (by rw [one_o (by omega) (by omega), e2, bnd_r, e3, bnd_r]) (by omega) ⟨gCT, by omega, by omega⟩ | (rw [one_l (by omega) (by omega) (by omega) (by omega)]; exact o4.map (fun s es h => ⟨h.1, h.2.1, by have h2 := h.2.2; have hl := lea_up es; omega⟩)) | (rw [one_l (by omega) (by omega) (by omega) (by omega)]; exact o5.map (fun s es h => ⟨h.1, h.2.1, by have h2 := h.2.2; have hl := lea_up es; omega⟩)), gWH⟩)
            · obtain ⟨q3, e3, gCT⟩ := o3.ye (by omega)
              refine r_iconst hx hb dX7_readOne_232 (by decide) (fun z165 ez165 => ?_)
              refine lv_goto (tgt := 237) hx hb dX7_readOne_233 (by decide) ?_
              exact r_zret hx hb hr hK hP hS hk (by omega) dX7_readOne_237 (show P_X7_readOne_d5 σ0 τ0 a1 b N mo q nn nm hc z165 σ160 τ160 from ⟨hR, hF, hFL, by omega, by first | exact RO.ofr ((one_l (by omega) (by omega) (by omega) (by omega)).trans (lea_n (by omega) (by omega))) (by omega) ⟨gCT, by omega, by omega⟩ | (exfalso; omega) | exact RO.ofk (one_x (by omega)) (by omega) (by omega) (by omega) | exact RO.ofk (one_4 (by omega) (by omega)) (by omega) (by omega) (by omega) | (obtain ⟨f, e1, x1, x2⟩ := o1.no (by omega); exact RO.ofl ((one_n (by omega) (by omega)).trans e1) (by omega) x1 x2) | exact RO.ofr ((one_n (by omega) (by omega)).trans e1) (by omega) ⟨gCT, by omega, by omega⟩ | (obtain ⟨f, e2, x1, x2⟩ := o2.no (by omega); exact RO.ofl (by rw [one_o (by omega) (by omega), e2, bnd_l]) (by omega) x1 x2) | (obtain ⟨f, e3, x1, x2⟩ := o3.no (by omega); exact RO.ofl (by rw [one_o (by omega) (by omega), e2, bnd_r, e3, bnd_l]) (by omega) x1 x2) | exact RO.ofr (by rw [one_o (by omega) (by omega), e2, bnd_r, e3, bnd_r]) (by omega) ⟨gCT, by omega, by omega⟩ | (rw [one_l (by omega) (by omega) (by omega) (by omega)]; exact o4.map (fun s es h => ⟨h.1, h.2.1, by have h2 := h.2.2; have hl := lea_up es; omega⟩)) | (rw [one_l (by omega) (by omega) (by omega) (by omega)]; exact o5.map (fun s es h => ⟨h.1, h.2.1, by have h2 := h.2.2; have hl := lea_up es; omega⟩)), gWH⟩)
        refine lv_tableOut (tgt := 249) hx hb dX7_readOne_72 (by omega) (by decide) ?_
        refine lv_aload_n hx hb dX7_readOne_249 rfl (lv_at hl 1 rfl) ?_
        refine fg_7_2 (k := 27) hx hb hts in_X7_readOne_7 hown hK hP (by decide) (by decide) (hts _ lk_X7_readOne_19) dX7_readOne_250 ?_
        refine lv_iload_n hx hb dX7_readOne_253 rfl (lv_at hl 0 rfl) ?_
        refine r_bipush hx hb dX7_readOne_254 (by decide) (fun z166 ez166 => ?_)
        refine r_iconst hx hb dX7_readOne_256 (by decide) (fun z167 ez167 => ?_)
        refine r_cVi (k := 24) (As := [.int (σ0 1 9), .int z166, .int z167]) (rest := []) ⟨hx, hb, hml, hown, hts⟩ hK hP hN hS (c_X6_add l D cA ad hI σ15 τ15 hR (σ0 1 9) z166 z167 (by omega)) (cwV 3 hts gX7_readOne_X6_add rfl rfl rfl (by decide +kernel) ⟨by decide, by decide⟩) (rv_Sent hK hP (by decide) (by decide)) rfl hl.1 rfl (Nat.le_of_ble_eq_true rfl) dX7_readOne_257 (Nat.zero_le _) (Nat.zero_le _) (fun r168 u168 H168 locs168 hp168 hP hS => ?_)
        obtain ⟨σ168, τ168⟩ := u168
        obtain ⟨hR, f168, fL168, hq168, hp168_0⟩ : P_X6_add σ15 τ15 (σ0 1 9) z166 z167 r168 σ168 τ168 := hp168
        have hP : va_P D vwCl (gw cA ad σ168 τ168) H168 := hP
        obtain rfl := FrL.nil fL168
        have hF := hF.step f168 (by decide)
        have gCT := gCT.ag (Agr.fr f168 (by decide))
        have gWH := gWH.ag (Agr.fr f168 (by decide))
        have t169 : (σ168 24 1).toInt = (σ15 24 1).toInt := congrArg Int32.toInt (f168.at 24 1 (by decide))
        have hr170 := rg_6_2 hR (k := 24) (by decide) (by decide)
        exact r_zret hx hb hr hK hP hS hk (by omega) dX7_readOne_260 (show P_X7_readOne_d5 σ0 τ0 a1 b N mo q nn nm hc r168 σ168 τ15 from ⟨hR, hF, hFL, by omega, by first | exact RO.ofr ((one_l (by omega) (by omega) (by omega) (by omega)).trans (lea_n (by omega) (by omega))) (by omega) ⟨gCT, by omega, by omega⟩ | (exfalso; omega) | exact RO.ofk (one_x (by omega)) (by omega) (by omega) (by omega) | exact RO.ofk (one_4 (by omega) (by omega)) (by omega) (by omega) (by omega) | (obtain ⟨f, e1, x1, x2⟩ := o1.no (by omega); exact RO.ofl ((one_n (by omega) (by omega)).trans e1) (by omega) x1 x2) | exact RO.ofr ((one_n (by omega) (by omega)).trans e1) (by omega) ⟨gCT, by omega, by omega⟩ | (obtain ⟨f, e2, x1, x2⟩ := o2.no (by omega); exact RO.ofl (by rw [one_o (by omega) (by omega), e2, bnd_l]) (by omega) x1 x2) | (obtain ⟨f, e3, x1, x2⟩ := o3.no (by omega); exact RO.ofl (by rw [one_o (by omega) (by omega), e2, bnd_r, e3, bnd_l]) (by omega) x1 x2) | exact RO.ofr (by rw [one_o (by omega) (by omega), e2, bnd_r, e3, bnd_r]) (by omega) ⟨gCT, by omega, by omega⟩ | (rw [one_l (by omega) (by omega) (by omega) (by omega)]; exact o4.map (fun s es h => ⟨h.1, h.2.1, by have h2 := h.2.2; have hl := lea_up es; omega⟩)) | (rw [one_l (by omega) (by omega) (by omega) (by omega)]; exact o5.map (fun s es h => ⟨h.1, h.2.1, by have h2 := h.2.2; have hl := lea_up es; omega⟩)), gWH⟩)
      · exfalso; omega
  · refine lv_aload_n hx hb dX7_readOne_15 rfl (lv_at hl 1 rfl) ?_
    refine fg_7_0 (k := 27) hx hb hts in_X7_readOne_7 hown hK hP (by decide) (by decide) (hts _ lk_X7_readOne_9) dX7_readOne_16 ?_
    refine r_iconst hx hb dX7_readOne_19 (by decide) (fun z171 ez171 => ?_)
    refine r_cVi (k := 1) (As := [.int z171]) (rest := []) ⟨hx, hb, hml, hown, hts⟩ hK hP hN hS (c_X8_blame_v l D cA ad hI σ0 τ0 hR z171 _ _ _ _ (by omega) gCT) (cwV 1 hts gX7_readOne_X8_blame rfl rfl rfl (by decide +kernel) ⟨by decide, by decide⟩) (rv_Tape hK hP (by decide) (by decide)) rfl hl.1 rfl (Nat.le_of_ble_eq_true rfl) dX7_readOne_20 (Nat.zero_le _) (Nat.zero_le _) (fun r172 u172 H172 locs172 hp172 hP hS => ?_)
    obtain ⟨σ172, τ172⟩ := u172
    obtain ⟨hR, f172, fL172, hq172, hp172_0, hp172_1, hp172_2, gnCT⟩ : P_X8_blame_v σ0 τ0 z171 _ _ _ _ r172 σ172 τ172 := hp172
    have hP : va_P D vwCl (gw cA ad σ172 τ172) H172 := hP
    obtain rfl := FrL.nil fL172
    have hF := hF.step f172 (by decide)
    have gCT := gCT.ag (Agr.fr f172 (by decide))
    have gWH := gWH.ag (Agr.fr f172 (by decide))
    have t173 : (σ172 24 1).toInt = (σ0 24 1).toInt := congrArg Int32.toInt (f172.at 24 1 (by decide))
    have t174 : (σ172 24 2).toInt = (σ0 24 2).toInt := congrArg Int32.toInt (f172.at 24 2 (by decide))
    exact r_zret hx hb hr hK hP hS hk (by omega) dX7_readOne_23 (show P_X7_readOne_d5 σ0 τ0 a1 b N mo q nn nm hc r172 σ172 τ0 from ⟨hR, hF, hFL, by omega, by first | exact RO.ofr ((one_l (by omega) (by omega) (by omega) (by omega)).trans (lea_n (by omega) (by omega))) (by omega) ⟨gCT, by omega, by omega⟩ | (exfalso; omega) | exact RO.ofk (one_x (by omega)) (by omega) (by omega) (by omega) | exact RO.ofk (one_4 (by omega) (by omega)) (by omega) (by omega) (by omega) | (obtain ⟨f, e1, x1, x2⟩ := o1.no (by omega); exact RO.ofl ((one_n (by omega) (by omega)).trans e1) (by omega) x1 x2) | exact RO.ofr ((one_n (by omega) (by omega)).trans e1) (by omega) ⟨gCT, by omega, by omega⟩ | (obtain ⟨f, e2, x1, x2⟩ := o2.no (by omega); exact RO.ofl (by rw [one_o (by omega) (by omega), e2, bnd_l]) (by omega) x1 x2) | (obtain ⟨f, e3, x1, x2⟩ := o3.no (by omega); exact RO.ofl (by rw [one_o (by omega) (by omega), e2, bnd_r, e3, bnd_l]) (by omega) x1 x2) | exact RO.ofr (by rw [one_o (by omega) (by omega), e2, bnd_r, e3, bnd_r]) (by omega) ⟨gCT, by omega, by omega⟩ | (rw [one_l (by omega) (by omega) (by omega) (by omega)]; exact o4.map (fun s es h => ⟨h.1, h.2.1, by have h2 := h.2.2; have hl := lea_up es; omega⟩)) | (rw [one_l (by omega) (by omega) (by omega) (by omega)]; exact o5.map (fun s es h => ⟨h.1, h.2.1, by have h2 := h.2.2; have hl := lea_up es; omega⟩)), gWH⟩)
abbrev L_X7_readAll_d5 : List Rc := [(1, 1, 7, 10), (372, 372, 0, 39), (376, 376, 0, 39), (380, 380, 0, 39), (24, 24, 1, 2), (1, 1, 12, 14)]
abbrev LL_X7_readAll_d5 : List Rc := [(1, 1, 11, 11)]
def P_X7_readAll_d5 (σ0 : Nat → Nat → Int32) (τ0 : Nat → Nat → Int64) (a1 : Int32) (b : Nat → Int) (N : Nat) (mo : Nat) (q : Nat) (nn : Nat) (nm : Nat → Int) (hc : Nat) (r : Int32) (σ : Nat → Nat → Int32) (τ : Nat → Nat → Int64) : Prop := Rg σ ∧ Fr L_X7_readAll_d5 σ0 σ ∧ FrL LL_X7_readAll_d5 τ0 τ ∧ (0 ≤ r.toInt ∧ r.toInt ≤ 1) ∧ (RO r σ (allP b N mo (fun q nn => oneP b N mo nm hc 4 q nn) q nn) (fun s => CT σ τ b N mo s.1 ∧ (σ 24 1).toInt = (s.2 : Int) ∧ (σ 24 2).toInt + 2 * (nn : Int) + 1 ≤ (σ0 24 2).toInt + 2 * (s.2 : Int))) ∧ WH σ τ nm hc
def J_X7_readAll_d5_12 (p : Program) (l : Launch) (e : Env) (s : State) (m : MethodId) (args : Array Value) (below : List Frame) (meth : Method) (c : Code) (D : va_G) (cA : Nat → ClassId) (ad : Nat → Nat) (σ0 : Nat → Nat → Int32) (τ0 : Nat → Nat → Int64) (a1 : Int32) (b : Nat → Int) (N : Nat) (mo : Nat) (q : Nat) (nn : Nat) (nm : Nat → Int) (hc : Nat) (n : Nat) : Prop := ∀ (σ : Nat → Nat → Int32) (τ : Nat → Nat → Int64) (H : Heap) (locs : List Loc) (x2 : Int32) (fu : Nat) (q1 : Nat) (n1 : Nat) (ls : Array Slot), Rg σ → Fr L_X7_readAll_d5 σ0 σ → FrL LL_X7_readAll_d5 τ0 τ → va_P D vwCl (gw cA ad σ τ) H → va_S (AA ad) s.heap H locs → (0 ≤ x2.toInt ∧ x2.toInt ≤ 200) → (0 ≤ (σ 24 1).toInt ∧ (σ 24 1).toInt ≤ 20) → (0 ≤ (σ 24 2).toInt ∧ (σ 24 2).toInt ≤ 40) → (allP b N mo (fun q nn => oneP b N mo nm hc 4 q nn) q nn = lopP b N mo 21 (fun q nn => oneP b N mo nm hc 4 q nn) fu q1 n1) → ((σ 24 1).toInt = (n1 : Int)) → (0 ≤ (σ 24 2).toInt ∧ (σ 24 2).toInt + 2 * (nn : Int) + 1 ≤ (σ0 24 2).toInt + 2 * (n1 : Int)) → ((fu : Int) + x2.toInt = 200) → (n1 ≤ 20) → (CT σ τ b N mo q1) → (WH σ τ nm hc) → (CT σ τ b N mo q1) → lv_has ls 3 [(0, .ref (ad 27)), (1, .int a1), (2, .int x2)] → 2 * (200 - x2.toInt) + 1 < (n : Int) → W p l e ({ frames := 14, cells := 0, slots := 0, locals := 307 } : Room) s m args below meth c H locs 0 0 (MQ below (va_Qi (fun (r : Int32) (u : SS) => P_X7_readAll_d5 σ0 τ0 a1 b N mo q nn nm hc r u.1 u.2) (WB D cA ad) (AA ad)) args s 0 0 (AA ad)) (F0 m 12 ls [])
set_option maxHeartbeats 4000000 in
theorem B_X7_readAll_d5_12 (p : Program) (l : Launch) (e : Env) (s : State) (m : MethodId) (args : Array Value) (below : List Frame) (meth : Method) (c : Code) (D : va_G) (cA : Nat → ClassId) (ad : Nat → Nat) (σ0 : Nat → Nat → Int32) (τ0 : Nat → Nat → Int64) (a1 : Int32) (b : Nat → Int) (N : Nat) (mo : Nat) (q : Nat) (nn : Nat) (nm : Nat → Int) (hc : Nat) (n : Nat) (C : Cy p s m args meth c cX7_readAll 3 wsX7_readAll RX7 D cA ad (some .boolean)) (ha1 : 5 ≤ a1.toInt ∧ a1.toInt ≤ 5) (hpre0 : (σ0 24 1).toInt = (nn : Int)) (hpre1 : 0 ≤ (σ0 24 2).toInt ∧ (σ0 24 2).toInt ≤ 2 * (nn : Int)) (hpre2 : nn ≤ 20) (gCT0 : CT σ0 τ0 b N mo q) (gWH0 : WH σ0 τ0 nm hc) (K12 : J_X7_readAll_d5_12 p l e s m args below meth c D cA ad σ0 τ0 a1 b N mo q nn nm hc n) : J_X7_readAll_d5_12 p l e s m args below meth c D cA ad σ0 τ0 a1 b N mo q nn nm hc (n + 1) := by
  obtain ⟨hx, hb, hml, hown, hts, hK, hk, hr, hI, hN⟩ := C
  intro σ τ H locs x2 fu q1 n1 ls hR hF hFL hP hS hc0 hc1 hc2 iv ib2 ib3 ifu in20 gCT gWH gCT hl hm
  refine lv_iload_n hx hb dX7_readAll_12 rfl (lv_at hl 2 rfl) ?_
  refine r_sipush hx hb dX7_readAll_13 (by decide) (fun z1 ez1 => ?_)
  refine r_icmp_ge (tgt := 68) hx hb dX7_readAll_16 (by decide) (fun c2 => ?_) (fun c2 => ?_)
  · refine r_iconst hx hb dX7_readAll_68 (by decide) (fun z3 ez3 => ?_)
    exact r_zret hx hb hr hK hP hS hk (by omega) dX7_readAll_69 (show P_X7_readAll_d5 σ0 τ0 a1 b N mo q nn nm hc z3 σ τ from ⟨hR, hF, hFL, by omega, by first | (exfalso; omega) | (obtain ⟨f, e1, x1, x2⟩ := o1.no (by omega); exact RO.ofl (all_f e1) (by omega) x1 x2) | exact RO.ofr (by rw [iv, lop_e (by omega)]) (by omega) ⟨gCT, by omega, by omega⟩ | (obtain ⟨f, e2, x1, x2⟩ := o2.no (by omega); exact RO.ofl (by rw [iv, lop_f (f := (fun q nn => oneP b N mo nm hc 4 q nn)) (by omega) (by omega) e2]) (by omega) x1 x2) | (exfalso; omega), gWH⟩)
  · have htk := gCT.tk
    refine lv_aload_n hx hb dX7_readAll_19 rfl (lv_at hl 0 rfl) ?_
    refine fg_7_0 (k := 27) hx hb hts in_X7_readAll_7 hown hK hP (by decide) (by decide) (hts _ lk_X7_readAll_9) dX7_readAll_20 ?_
    refine fgN_8_9 (k := 1) hx hb hts in_X7_readAll_8 hown hK hP (by decide) (by decide) (hN.use nw_7_32) dX7_readAll_23 ?_
    refine r_bipush hx hb dX7_readAll_26 (by decide) (fun z4 ez4 => ?_)
    refine r_icmp_ne (tgt := 68) hx hb dX7_readAll_28 (by decide) (fun c5 => ?_) (fun c5 => ?_)
    · refine r_iconst hx hb dX7_readAll_68 (by decide) (fun z6 ez6 => ?_)
      exact r_zret hx hb hr hK hP hS hk (by omega) dX7_readAll_69 (show P_X7_readAll_d5 σ0 τ0 a1 b N mo q nn nm hc z6 σ τ from ⟨hR, hF, hFL, by omega, by first | (exfalso; omega) | (obtain ⟨f, e1, x1, x2⟩ := o1.no (by omega); exact RO.ofl (all_f e1) (by omega) x1 x2) | exact RO.ofr (by rw [iv, lop_e (by omega)]) (by omega) ⟨gCT, by omega, by omega⟩ | (obtain ⟨f, e2, x1, x2⟩ := o2.no (by omega); exact RO.ofl (by rw [iv, lop_f (f := (fun q nn => oneP b N mo nm hc 4 q nn)) (by omega) (by omega) e2]) (by omega) x1 x2) | (exfalso; omega), gWH⟩)
    · refine lv_aload_n hx hb dX7_readAll_31 rfl (lv_at hl 0 rfl) ?_
      refine fg_7_0 (k := 27) hx hb hts in_X7_readAll_7 hown hK hP (by decide) (by decide) (hts _ lk_X7_readAll_9) dX7_readAll_32 ?_
      refine r_cVv (k := 1) (As := []) (rest := []) ⟨hx, hb, hml, hown, hts⟩ hK hP hN hS (c_X8_next_v l D cA ad hI σ τ hR _ _ _ _ gCT) (cwV 0 hts gX7_readAll_X8_next rfl rfl rfl (by decide +kernel) ⟨by decide, by decide⟩) (rv_Tape hK hP (by decide) (by decide)) rfl hl.1 rfl (Nat.le_of_ble_eq_true rfl) dX7_readAll_35 (Nat.zero_le _) (Nat.zero_le _) (fun u7 H7 locs7 hp7 hP hS => ?_)
      obtain ⟨σ7, τ7⟩ := u7
      obtain ⟨hR, f7, fL7, hp7_0⟩ : P_X8_next_v σ τ _ _ _ _ σ7 τ7 := hp7
      have hP : va_P D vwCl (gw cA ad σ7 τ7) H7 := hP
      have hFL := hFL.step fL7 (by decide)
      have gWH := gWH.agL (AgrL.fr fL7 (by decide))
      have hF := hF.step f7 (by decide)
      have gWH := gWH.ag (Agr.fr f7 (by decide))
      have t8 : (σ7 24 1).toInt = (σ 24 1).toInt := congrArg Int32.toInt (f7.at 24 1 (by decide))
      have t9 : (σ7 24 2).toInt = (σ 24 2).toInt := congrArg Int32.toInt (f7.at 24 2 (by decide))
      have gCT := hp7_0
      refine lv_aload_n hx hb dX7_readAll_38 rfl (lv_at hl 0 rfl) ?_
      refine lv_iload_n hx hb dX7_readAll_39 rfl (lv_at hl 1 rfl) ?_
      refine r_cVi (k := 27) (As := [.int a1]) (rest := []) ⟨hx, hb, hml, hown, hts⟩ hK hP hN hS (c_X7_readOne_d5 l D cA ad hI σ7 τ7 hR a1 b N mo _ n1 nm hc (by omega) (by omega) (by omega) (by omega) gCT gWH) (cwV 1 hts gX7_readAll_X7_readOne rfl rfl rfl (by decide +kernel) ⟨by decide, by decide⟩) (rv_SText hK hP (by decide) (by decide)) rfl hl.1 rfl (Nat.le_of_ble_eq_true rfl) dX7_readAll_40 (Nat.zero_le _) (Nat.zero_le _) (fun r10 u10 H10 locs10 hp10 hP hS => ?_)
      obtain ⟨σ10, τ10⟩ := u10
      obtain ⟨hR, f10, fL10, hq10, hp10_0, gnWH⟩ : P_X7_readOne_d5 σ7 τ7 a1 b N mo _ n1 nm hc r10 σ10 τ10 := hp10
      have o2 := hp10_0
      have hP : va_P D vwCl (gw cA ad σ10 τ10) H10 := hP
      have hFL := hFL.step fL10 (by decide)
      have gWH := gWH.agL (AgrL.fr fL10 (by decide))
      have hF := hF.step f10 (by decide)
      have gWH := gWH.ag (Agr.fr f10 (by decide))
      have hr11 := rg_6_1 hR (k := 24) (by decide) (by decide)
      have hr12 := rg_6_2 hR (k := 24) (by decide) (by decide)
      refine r_if_eq (tgt := 60) hx hb dX7_readAll_43 (by decide) (fun c13 => ?_) (fun c13 => ?_)
      · refine r_iconst hx hb dX7_readAll_60 (by decide) (fun z14 ez14 => ?_)
        exact r_zret hx hb hr hK hP hS hk (by omega) dX7_readAll_61 (show P_X7_readAll_d5 σ0 τ0 a1 b N mo q nn nm hc z14 σ10 τ10 from ⟨hR, hF, hFL, by omega, by first | (exfalso; omega) | (obtain ⟨f, e1, x1, x2⟩ := o1.no (by omega); exact RO.ofl (all_f e1) (by omega) x1 x2) | exact RO.ofr (by rw [iv, lop_e (by omega)]) (by omega) ⟨gCT, by omega, by omega⟩ | (obtain ⟨f, e2, x1, x2⟩ := o2.no (by omega); exact RO.ofl (by rw [iv, lop_f (f := (fun q nn => oneP b N mo nm hc 4 q nn)) (by omega) (by omega) e2]) (by omega) x1 x2) | (exfalso; omega), gWH⟩)
      · obtain ⟨s2, e2, gCT, hs3, hs4⟩ := o2.ye (by omega)
        have hu2 := one_up _ _ _ _ e2
        refine lv_aload_n hx hb dX7_readAll_46 rfl (lv_at hl 0 rfl) ?_
        refine fg_7_2 (k := 27) hx hb hts in_X7_readAll_7 hown hK hP (by decide) (by decide) (hts _ lk_X7_readAll_19) dX7_readAll_47 ?_
        refine r_bipush hx hb dX7_readAll_50 (by decide) (fun z15 ez15 => ?_)
        refine r_iconst hx hb dX7_readAll_52 (by decide) (fun z16 ez16 => ?_)
        refine r_iconst hx hb dX7_readAll_53 (by decide) (fun z17 ez17 => ?_)
        refine r_cVi (k := 24) (As := [.int z15, .int z16, .int z17]) (rest := []) ⟨hx, hb, hml, hown, hts⟩ hK hP hN hS (c_X6_add l D cA ad hI σ10 τ10 hR z15 z16 z17 (by omega)) (cwV 3 hts gX7_readAll_X6_add rfl rfl rfl (by decide +kernel) ⟨by decide, by decide⟩) (rv_Sent hK hP (by decide) (by decide)) rfl hl.1 rfl (Nat.le_of_ble_eq_true rfl) dX7_readAll_54 (Nat.zero_le _) (Nat.zero_le _) (fun r18 u18 H18 locs18 hp18 hP hS => ?_)
        obtain ⟨σ18, τ18⟩ := u18
        obtain ⟨hR, f18, fL18, hq18, hp18_0⟩ : P_X6_add σ10 τ10 z15 z16 z17 r18 σ18 τ18 := hp18
        have hP : va_P D vwCl (gw cA ad σ18 τ18) H18 := hP
        obtain rfl := FrL.nil fL18
        have hF := hF.step f18 (by decide)
        have gCT := gCT.ag (Agr.fr f18 (by decide))
        have gWH := gWH.ag (Agr.fr f18 (by decide))
        have t19 : (σ18 24 1).toInt = (σ10 24 1).toInt := congrArg Int32.toInt (f18.at 24 1 (by decide))
        have hr20 := rg_6_2 hR (k := 24) (by decide) (by decide)
        refine r_if_ne (tgt := 62) hx hb dX7_readAll_57 (by decide) (fun c21 => ?_) (fun c21 => ?_)
        · refine r_iinc (k := 2) (lv1 := fun z22 => [(2, .int z22), (0, .ref (ad 27)), (1, .int a1)]) hx hb dX7_readAll_62 hl rfl (by decide) (fun _ => rfl) (by decide) (by omega) (fun z22 ls ez22 hl => ?_)
          refine lv_goto (tgt := 12) hx hb dX7_readAll_65 (by decide) ?_
          exact K12 σ18 τ10 H18 locs18 z22 (fu - 1) _ _ ls hR hF hFL hP hS (by omega) (by omega) (by omega) (by first | exact all_s e1 | rw [iv, lop_s (f := (fun q nn => oneP b N mo nm hc 4 q nn)) (by omega) (by omega) e2]) (by omega) (by omega) (by omega) (by omega) gCT gWH gCT (lv_sub hl [1, 2, 0] rfl) (by omega)
        · refine r_iconst hx hb dX7_readAll_60 (by decide) (fun z23 ez23 => ?_)
          exact r_zret hx hb hr hK hP hS hk (by omega) dX7_readAll_61 (show P_X7_readAll_d5 σ0 τ0 a1 b N mo q nn nm hc z23 σ18 τ10 from ⟨hR, hF, hFL, by omega, by first | (exfalso; omega) | (obtain ⟨f, e1, x1, x2⟩ := o1.no (by omega); exact RO.ofl (all_f e1) (by omega) x1 x2) | exact RO.ofr (by rw [iv, lop_e (by omega)]) (by omega) ⟨gCT, by omega, by omega⟩ | (obtain ⟨f, e2, x1, x2⟩ := o2.no (by omega); exact RO.ofl (by rw [iv, lop_f (f := (fun q nn => oneP b N mo nm hc 4 q nn)) (by omega) (by omega) e2]) (by omega) x1 x2) | (exfalso; omega), gWH⟩)
theorem A_X7_readAll_d5 (p : Program) (l : Launch) (e : Env) (s : State) (m : MethodId) (args : Array Value) (below : List Frame) (meth : Method) (c : Code) (D : va_G) (cA : Nat → ClassId) (ad : Nat → Nat) (σ0 : Nat → Nat → Int32) (τ0 : Nat → Nat → Int64) (a1 : Int32) (b : Nat → Int) (N : Nat) (mo : Nat) (q : Nat) (nn : Nat) (nm : Nat → Int) (hc : Nat) (C : Cy p s m args meth c cX7_readAll 3 wsX7_readAll RX7 D cA ad (some .boolean)) (ha1 : 5 ≤ a1.toInt ∧ a1.toInt ≤ 5) (hpre0 : (σ0 24 1).toInt = (nn : Int)) (hpre1 : 0 ≤ (σ0 24 2).toInt ∧ (σ0 24 2).toInt ≤ 2 * (nn : Int)) (hpre2 : nn ≤ 20) (gCT0 : CT σ0 τ0 b N mo q) (gWH0 : WH σ0 τ0 nm hc) : ∀ n : Nat, J_X7_readAll_d5_12 p l e s m args below meth c D cA ad σ0 τ0 a1 b N mo q nn nm hc n := by
  intro n
  induction n with
  | zero =>
    exact (by intro σ τ H locs x2 fu q1 n1 ls hR hF hFL hP hS hc0 hc1 hc2 iv ib2 ib3 ifu in20 gCT gWH gCT hl hm; exfalso; omega)
  | succ n ih =>
    exact B_X7_readAll_d5_12 p l e s m args below meth c D cA ad σ0 τ0 a1 b N mo q nn nm hc n C ha1 hpre0 hpre1 hpre2 gCT0 gWH0 ih
set_option maxHeartbeats 4000000 in
theorem c_X7_readAll_d5 (l : Launch) (D : va_G) (cA : Nat → ClassId) (ad : Nat → Nat) (hI : Inj ad) (σ0 : Nat → Nat → Int32) (τ0 : Nat → Nat → Int64) (hR : Rg σ0) (a1 : Int32) (b : Nat → Int) (N : Nat) (mo : Nat) (q : Nat) (nn : Nat) (nm : Nat → Int) (hc : Nat) (ha1 : 5 ≤ a1.toInt ∧ a1.toInt ≤ 5) (hpre0 : (σ0 24 1).toInt = (nn : Int)) (hpre1 : 0 ≤ (σ0 24 2).toInt ∧ (σ0 24 2).toInt ≤ 2 * (nn : Int)) (hpre2 : nn ≤ 20) (gCT0 : CT σ0 τ0 b N mo q) (gWH0 : WH σ0 τ0 nm hc) : Met l yX7_readAll wsX7_readAll ({ frames := 14, cells := 0, slots := 0, locals := 307 } : Room) (WQc D cA ad [.ref (ad 27), .int a1] σ0 τ0) (va_Qi (fun (r : Int32) (u : SS) => P_X7_readAll_d5 σ0 τ0 a1 b N mo q nn nm hc r u.1 u.2) (WB D cA ad) (AA ad)) 0 0 (AA ad) := by
  refine Met.ofW (cc := cX7_readAll) (maxL := 3) (ret := (some .boolean)) (by decide) rfl ?_
  intro p e s m args below meth c s₁ B hml hv
  obtain ⟨rfl, hP, hK, hN⟩ := hv
  have C : Cy p s m _ meth c cX7_readAll 3 wsX7_readAll RX7 D cA ad (some .boolean) := ⟨B.exec, B.bytes, hml, findClass_of_methodNamed B.named, atoms_spec (ws := wsX7_readAll) B.pre, hK, B.notSynchronized, B.returns, hI, hN⟩
  have hl := lv_entry ([.ref (ad 27), .int a1]) (n := 3) (Nat.le_of_ble_eq_true rfl)
  rw [lg_entry_eq]
  generalize (lg_sl ([.ref (ad 27), .int a1]) ++ List.replicate (3 - (lg_sl ([.ref (ad 27), .int a1])).length) Slot.unset).toArray = ls at hl ⊢
  have hl : lv_has ls 3 [(0, .ref (ad 27)), (1, .int a1)] := hl
  have hS : va_S (AA ad) s.heap s.heap [] := va_S.rf
  have hF : Fr L_X7_readAll_d5 σ0 σ0 := Fr.rf
  have hFL : FrL LL_X7_readAll_d5 τ0 τ0 := FrL.rf
  have gCT := gCT0
  have gWH := gWH0
  have hA := A_X7_readAll_d5 p l e s m _ below meth c D cA ad σ0 τ0 a1 b N mo q nn nm hc C ha1 hpre0 hpre1 hpre2 gCT0 gWH0 810
  have K12 := hA
  clear hA
  obtain ⟨hx, hb, _, hown, hts, _, hk, hr, _, _⟩ := C
  refine lv_aload_n hx hb dX7_readAll_0 rfl (lv_at hl 0 rfl) ?_
  refine lv_iload_n hx hb dX7_readAll_1 rfl (lv_at hl 1 rfl) ?_
  refine r_cVi (k := 27) (As := [.int a1]) (rest := []) ⟨hx, hb, hml, hown, hts⟩ hK hP hN hS (c_X7_readOne_d5 l D cA ad hI σ0 τ0 hR a1 b N mo q nn nm hc (by omega) (by omega) (by omega) (by omega) gCT gWH) (cwV 1 hts gX7_readAll_X7_readOne rfl rfl rfl (by decide +kernel) ⟨by decide, by decide⟩) (rv_SText hK hP (by decide) (by decide)) rfl hl.1 rfl (Nat.le_of_ble_eq_true rfl) dX7_readAll_2 (Nat.zero_le _) (Nat.zero_le _) (fun r1 u1 H1 locs1 hp1 hP hS => ?_)
  obtain ⟨σ1, τ1⟩ := u1
  obtain ⟨hR, f1, fL1, hq1, hp1_0, gnWH⟩ : P_X7_readOne_d5 σ0 τ0 a1 b N mo q nn nm hc r1 σ1 τ1 := hp1
  have o1 := hp1_0
  have hP : va_P D vwCl (gw cA ad σ1 τ1) H1 := hP
  have hFL := hFL.step fL1 (by decide)
  have gWH := gWH.agL (AgrL.fr fL1 (by decide))
  have hF := hF.step f1 (by decide)
  have gWH := gWH.ag (Agr.fr f1 (by decide))
  have hr2 := rg_6_1 hR (k := 24) (by decide) (by decide)
  have hr3 := rg_6_2 hR (k := 24) (by decide) (by decide)
  refine r_if_ne (tgt := 10) hx hb dX7_readAll_5 (by decide) (fun c4 => ?_) (fun c4 => ?_)
  · obtain ⟨s1, e1, gCT, hs1, hs2⟩ := o1.ye (by omega)
    have hu1 := one_up _ _ _ _ e1
    refine r_iconst hx hb dX7_readAll_10 (by decide) (fun z5 ez5 => ?_)
    refine lv_istore_n (lv' := [(2, .int z5), (0, .ref (ad 27)), (1, .int a1)]) hx hb dX7_readAll_11 rfl hl (by decide) rfl (fun ls hl => ?_)
    exact K12 σ1 τ1 H1 locs1 z5 200 _ _ ls hR hF hFL hP hS (by omega) (by omega) (by omega) (by first | exact all_s e1 | rw [iv, lop_s (f := (fun q nn => oneP b N mo nm hc 4 q nn)) (by omega) (by omega) e2]) (by omega) (by omega) (by omega) (by omega) gCT gWH gCT (lv_sub hl [1, 2, 0] rfl) (by omega)
  · refine r_iconst hx hb dX7_readAll_8 (by decide) (fun z6 ez6 => ?_)
    exact r_zret hx hb hr hK hP hS hk (by omega) dX7_readAll_9 (show P_X7_readAll_d5 σ0 τ0 a1 b N mo q nn nm hc z6 σ1 τ1 from ⟨hR, hF, hFL, by omega, by first | (exfalso; omega) | (obtain ⟨f, e1, x1, x2⟩ := o1.no (by omega); exact RO.ofl (all_f e1) (by omega) x1 x2) | exact RO.ofr (by rw [iv, lop_e (by omega)]) (by omega) ⟨gCT, by omega, by omega⟩ | (obtain ⟨f, e2, x1, x2⟩ := o2.no (by omega); exact RO.ofl (by rw [iv, lop_f (f := (fun q nn => oneP b N mo nm hc 4 q nn)) (by omega) (by omega) e2]) (by omega) x1 x2) | (exfalso; omega), gWH⟩)
abbrev L_X7_readCond_d5 : List Rc := [(1, 1, 7, 10), (372, 372, 0, 39), (376, 376, 0, 39), (380, 380, 0, 39), (24, 24, 1, 2), (1, 1, 12, 14)]
abbrev LL_X7_readCond_d5 : List Rc := [(1, 1, 11, 11)]
def P_X7_readCond_d5 (σ0 : Nat → Nat → Int32) (τ0 : Nat → Nat → Int64) (a1 : Int32) (b : Nat → Int) (N : Nat) (mo : Nat) (q : Nat) (nn : Nat) (nm : Nat → Int) (hc : Nat) (r : Int32) (σ : Nat → Nat → Int32) (τ : Nat → Nat → Int64) : Prop := Rg σ ∧ Fr L_X7_readCond_d5 σ0 σ ∧ FrL LL_X7_readCond_d5 τ0 τ ∧ (0 ≤ r.toInt ∧ r.toInt ≤ 1) ∧ (RO r σ (conP b N mo (fun q nn => oneP b N mo nm hc 4 q nn) q nn) (fun s => CT σ τ b N mo s.1 ∧ (σ 24 1).toInt = (s.2 : Int) ∧ (σ 24 2).toInt + 2 * (nn : Int) + 1 ≤ (σ0 24 2).toInt + 2 * (s.2 : Int))) ∧ WH σ τ nm hc
def J_X7_readCond_d5_12 (p : Program) (l : Launch) (e : Env) (s : State) (m : MethodId) (args : Array Value) (below : List Frame) (meth : Method) (c : Code) (D : va_G) (cA : Nat → ClassId) (ad : Nat → Nat) (σ0 : Nat → Nat → Int32) (τ0 : Nat → Nat → Int64) (a1 : Int32) (b : Nat → Int) (N : Nat) (mo : Nat) (q : Nat) (nn : Nat) (nm : Nat → Int) (hc : Nat) (n : Nat) : Prop := ∀ (σ : Nat → Nat → Int32) (τ : Nat → Nat → Int64) (H : Heap) (locs : List Loc) (x2 : Int32) (fu : Nat) (q1 : Nat) (n1 : Nat) (ls : Array Slot), Rg σ → Fr L_X7_readCond_d5 σ0 σ → FrL LL_X7_readCond_d5 τ0 τ → va_P D vwCl (gw cA ad σ τ) H → va_S (AA ad) s.heap H locs → (0 ≤ x2.toInt ∧ x2.toInt ≤ 200) → (0 ≤ (σ 24 1).toInt ∧ (σ 24 1).toInt ≤ 20) → (0 ≤ (σ 24 2).toInt ∧ (σ 24 2).toInt ≤ 40) → (conP b N mo (fun q nn => oneP b N mo nm hc 4 q nn) q nn = lopP b N mo 20 (allP b N mo (fun q nn => oneP b N mo nm hc 4 q nn)) fu q1 n1) → ((σ 24 1).toInt = (n1 : Int)) → (0 ≤ (σ 24 2).toInt ∧ (σ 24 2).toInt + 2 * (nn : Int) + 1 ≤ (σ0 24 2).toInt + 2 * (n1 : Int)) → ((fu : Int) + x2.toInt = 200) → (n1 ≤ 20) → (CT σ τ b N mo q1) → (WH σ τ nm hc) → (CT σ τ b N mo q1) → lv_has ls 3 [(0, .ref (ad 27)), (1, .int a1), (2, .int x2)] → 2 * (200 - x2.toInt) + 1 < (n : Int) → W p l e ({ frames := 15, cells := 0, slots := 0, locals := 329 } : Room) s m args below meth c H locs 0 0 (MQ below (va_Qi (fun (r : Int32) (u : SS) => P_X7_readCond_d5 σ0 τ0 a1 b N mo q nn nm hc r u.1 u.2) (WB D cA ad) (AA ad)) args s 0 0 (AA ad)) (F0 m 12 ls [])
set_option maxHeartbeats 4000000 in
theorem B_X7_readCond_d5_12 (p : Program) (l : Launch) (e : Env) (s : State) (m : MethodId) (args : Array Value) (below : List Frame) (meth : Method) (c : Code) (D : va_G) (cA : Nat → ClassId) (ad : Nat → Nat) (σ0 : Nat → Nat → Int32) (τ0 : Nat → Nat → Int64) (a1 : Int32) (b : Nat → Int) (N : Nat) (mo : Nat) (q : Nat) (nn : Nat) (nm : Nat → Int) (hc : Nat) (n : Nat) (C : Cy p s m args meth c cX7_readCond 3 wsX7_readCond RX7 D cA ad (some .boolean)) (ha1 : 5 ≤ a1.toInt ∧ a1.toInt ≤ 5) (hpre0 : (σ0 24 1).toInt = (nn : Int)) (hpre1 : 0 ≤ (σ0 24 2).toInt ∧ (σ0 24 2).toInt ≤ 2 * (nn : Int)) (hpre2 : nn ≤ 20) (gCT0 : CT σ0 τ0 b N mo q) (gWH0 : WH σ0 τ0 nm hc) (K12 : J_X7_readCond_d5_12 p l e s m args below meth c D cA ad σ0 τ0 a1 b N mo q nn nm hc n) : J_X7_readCond_d5_12 p l e s m args below meth c D cA ad σ0 τ0 a1 b N mo q nn nm hc (n + 1) := by
  obtain ⟨hx, hb, hml, hown, hts, hK, hk, hr, hI, hN⟩ := C
  intro σ τ H locs x2 fu q1 n1 ls hR hF hFL hP hS hc0 hc1 hc2 iv ib2 ib3 ifu in20 gCT gWH gCT hl hm
  refine lv_iload_n hx hb dX7_readCond_12 rfl (lv_at hl 2 rfl) ?_
  refine r_sipush hx hb dX7_readCond_13 (by decide) (fun z1 ez1 => ?_)
  refine r_icmp_ge (tgt := 68) hx hb dX7_readCond_16 (by decide) (fun c2 => ?_) (fun c2 => ?_)
  · refine r_iconst hx hb dX7_readCond_68 (by decide) (fun z3 ez3 => ?_)
    exact r_zret hx hb hr hK hP hS hk (by omega) dX7_readCond_69 (show P_X7_readCond_d5 σ0 τ0 a1 b N mo q nn nm hc z3 σ τ from ⟨hR, hF, hFL, by omega, by first | (exfalso; omega) | (obtain ⟨f, e1, x1, x2⟩ := o1.no (by omega); exact RO.ofl (con_f e1) (by omega) x1 x2) | exact RO.ofr (by rw [iv, lop_e (by omega)]) (by omega) ⟨gCT, by omega, by omega⟩ | (obtain ⟨f, e2, x1, x2⟩ := o2.no (by omega); exact RO.ofl (by rw [iv, lop_f (f := (allP b N mo (fun q nn => oneP b N mo nm hc 4 q nn))) (by omega) (by omega) e2]) (by omega) x1 x2) | (exfalso; omega), gWH⟩)
  · have htk := gCT.tk
    refine lv_aload_n hx hb dX7_readCond_19 rfl (lv_at hl 0 rfl) ?_
    refine fg_7_0 (k := 27) hx hb hts in_X7_readCond_7 hown hK hP (by decide) (by decide) (hts _ lk_X7_readCond_9) dX7_readCond_20 ?_
    refine fgN_8_9 (k := 1) hx hb hts in_X7_readCond_8 hown hK hP (by decide) (by decide) (hN.use nw_7_32) dX7_readCond_23 ?_
    refine r_bipush hx hb dX7_readCond_26 (by decide) (fun z4 ez4 => ?_)
    refine r_icmp_ne (tgt := 68) hx hb dX7_readCond_28 (by decide) (fun c5 => ?_) (fun c5 => ?_)
    · refine r_iconst hx hb dX7_readCond_68 (by decide) (fun z6 ez6 => ?_)
      exact r_zret hx hb hr hK hP hS hk (by omega) dX7_readCond_69 (show P_X7_readCond_d5 σ0 τ0 a1 b N mo q nn nm hc z6 σ τ from ⟨hR, hF, hFL, by omega, by first | (exfalso; omega) | (obtain ⟨f, e1, x1, x2⟩ := o1.no (by omega); exact RO.ofl (con_f e1) (by omega) x1 x2) | exact RO.ofr (by rw [iv, lop_e (by omega)]) (by omega) ⟨gCT, by omega, by omega⟩ | (obtain ⟨f, e2, x1, x2⟩ := o2.no (by omega); exact RO.ofl (by rw [iv, lop_f (f := (allP b N mo (fun q nn => oneP b N mo nm hc 4 q nn))) (by omega) (by omega) e2]) (by omega) x1 x2) | (exfalso; omega), gWH⟩)
    · refine lv_aload_n hx hb dX7_readCond_31 rfl (lv_at hl 0 rfl) ?_
      refine fg_7_0 (k := 27) hx hb hts in_X7_readCond_7 hown hK hP (by decide) (by decide) (hts _ lk_X7_readCond_9) dX7_readCond_32 ?_
      refine r_cVv (k := 1) (As := []) (rest := []) ⟨hx, hb, hml, hown, hts⟩ hK hP hN hS (c_X8_next_v l D cA ad hI σ τ hR _ _ _ _ gCT) (cwV 0 hts gX7_readCond_X8_next rfl rfl rfl (by decide +kernel) ⟨by decide, by decide⟩) (rv_Tape hK hP (by decide) (by decide)) rfl hl.1 rfl (Nat.le_of_ble_eq_true rfl) dX7_readCond_35 (Nat.zero_le _) (Nat.zero_le _) (fun u7 H7 locs7 hp7 hP hS => ?_)
      obtain ⟨σ7, τ7⟩ := u7
      obtain ⟨hR, f7, fL7, hp7_0⟩ : P_X8_next_v σ τ _ _ _ _ σ7 τ7 := hp7
      have hP : va_P D vwCl (gw cA ad σ7 τ7) H7 := hP
      have hFL := hFL.step fL7 (by decide)
      have gWH := gWH.agL (AgrL.fr fL7 (by decide))
      have hF := hF.step f7 (by decide)
      have gWH := gWH.ag (Agr.fr f7 (by decide))
      have t8 : (σ7 24 1).toInt = (σ 24 1).toInt := congrArg Int32.toInt (f7.at 24 1 (by decide))
      have t9 : (σ7 24 2).toInt = (σ 24 2).toInt := congrArg Int32.toInt (f7.at 24 2 (by decide))
      have gCT := hp7_0
      refine lv_aload_n hx hb dX7_readCond_38 rfl (lv_at hl 0 rfl) ?_
      refine lv_iload_n hx hb dX7_readCond_39 rfl (lv_at hl 1 rfl) ?_
      refine r_cVi (k := 27) (As := [.int a1]) (rest := []) ⟨hx, hb, hml, hown, hts⟩ hK hP hN hS (c_X7_readAll_d5 l D cA ad hI σ7 τ7 hR a1 b N mo _ n1 nm hc (by omega) (by omega) (by omega) (by omega) gCT gWH) (cwV 1 hts gX7_readCond_X7_readAll rfl rfl rfl (by decide +kernel) ⟨by decide, by decide⟩) (rv_SText hK hP (by decide) (by decide)) rfl hl.1 rfl (Nat.le_of_ble_eq_true rfl) dX7_readCond_40 (Nat.zero_le _) (Nat.zero_le _) (fun r10 u10 H10 locs10 hp10 hP hS => ?_)
      obtain ⟨σ10, τ10⟩ := u10
      obtain ⟨hR, f10, fL10, hq10, hp10_0, gnWH⟩ : P_X7_readAll_d5 σ7 τ7 a1 b N mo _ n1 nm hc r10 σ10 τ10 := hp10
      have o2 := hp10_0
      have hP : va_P D vwCl (gw cA ad σ10 τ10) H10 := hP
      have hFL := hFL.step fL10 (by decide)
      have gWH := gWH.agL (AgrL.fr fL10 (by decide))
      have hF := hF.step f10 (by decide)
      have gWH := gWH.ag (Agr.fr f10 (by decide))
      have hr11 := rg_6_1 hR (k := 24) (by decide) (by decide)
      have hr12 := rg_6_2 hR (k := 24) (by decide) (by decide)
      refine r_if_eq (tgt := 60) hx hb dX7_readCond_43 (by decide) (fun c13 => ?_) (fun c13 => ?_)
      · refine r_iconst hx hb dX7_readCond_60 (by decide) (fun z14 ez14 => ?_)
        exact r_zret hx hb hr hK hP hS hk (by omega) dX7_readCond_61 (show P_X7_readCond_d5 σ0 τ0 a1 b N mo q nn nm hc z14 σ10 τ10 from ⟨hR, hF, hFL, by omega, by first | (exfalso; omega) | (obtain ⟨f, e1, x1, x2⟩ := o1.no (by omega); exact RO.ofl (con_f e1) (by omega) x1 x2) | exact RO.ofr (by rw [iv, lop_e (by omega)]) (by omega) ⟨gCT, by omega, by omega⟩ | (obtain ⟨f, e2, x1, x2⟩ := o2.no (by omega); exact RO.ofl (by rw [iv, lop_f (f := (allP b N mo (fun q nn => oneP b N mo nm hc 4 q nn))) (by omega) (by omega) e2]) (by omega) x1 x2) | (exfalso; omega), gWH⟩)
      · obtain ⟨s2, e2, gCT, hs3, hs4⟩ := o2.ye (by omega)
        have hu2 := all_up (one_up _) _ _ _ e2
        refine lv_aload_n hx hb dX7_readCond_46 rfl (lv_at hl 0 rfl) ?_
        refine fg_7_2 (k := 27) hx hb hts in_X7_readCond_7 hown hK hP (by decide) (by decide) (hts _ lk_X7_readCond_19) dX7_readCond_47 ?_
        refine r_bipush hx hb dX7_readCond_50 (by decide) (fun z15 ez15 => ?_)
        refine r_iconst hx hb dX7_readCond_52 (by decide) (fun z16 ez16 => ?_)
        refine r_iconst hx hb dX7_readCond_53 (by decide) (fun z17 ez17 => ?_)
        refine r_cVi (k := 24) (As := [.int z15, .int z16, .int z17]) (rest := []) ⟨hx, hb, hml, hown, hts⟩ hK hP hN hS (c_X6_add l D cA ad hI σ10 τ10 hR z15 z16 z17 (by omega)) (cwV 3 hts gX7_readCond_X6_add rfl rfl rfl (by decide +kernel) ⟨by decide, by decide⟩) (rv_Sent hK hP (by decide) (by decide)) rfl hl.1 rfl (Nat.le_of_ble_eq_true rfl) dX7_readCond_54 (Nat.zero_le _) (Nat.zero_le _) (fun r18 u18 H18 locs18 hp18 hP hS => ?_)
        obtain ⟨σ18, τ18⟩ := u18
        obtain ⟨hR, f18, fL18, hq18, hp18_0⟩ : P_X6_add σ10 τ10 z15 z16 z17 r18 σ18 τ18 := hp18
        have hP : va_P D vwCl (gw cA ad σ18 τ18) H18 := hP
        obtain rfl := FrL.nil fL18
        have hF := hF.step f18 (by decide)
        have gCT := gCT.ag (Agr.fr f18 (by decide))
        have gWH := gWH.ag (Agr.fr f18 (by decide))
        have t19 : (σ18 24 1).toInt = (σ10 24 1).toInt := congrArg Int32.toInt (f18.at 24 1 (by decide))
        have hr20 := rg_6_2 hR (k := 24) (by decide) (by decide)
        refine r_if_ne (tgt := 62) hx hb dX7_readCond_57 (by decide) (fun c21 => ?_) (fun c21 => ?_)
        · refine r_iinc (k := 2) (lv1 := fun z22 => [(2, .int z22), (0, .ref (ad 27)), (1, .int a1)]) hx hb dX7_readCond_62 hl rfl (by decide) (fun _ => rfl) (by decide) (by omega) (fun z22 ls ez22 hl => ?_)
          refine lv_goto (tgt := 12) hx hb dX7_readCond_65 (by decide) ?_
          exact K12 σ18 τ10 H18 locs18 z22 (fu - 1) _ _ ls hR hF hFL hP hS (by omega) (by omega) (by omega) (by first | exact con_s e1 | rw [iv, lop_s (f := (allP b N mo (fun q nn => oneP b N mo nm hc 4 q nn))) (by omega) (by omega) e2]) (by omega) (by omega) (by omega) (by omega) gCT gWH gCT (lv_sub hl [1, 2, 0] rfl) (by omega)
        · refine r_iconst hx hb dX7_readCond_60 (by decide) (fun z23 ez23 => ?_)
          exact r_zret hx hb hr hK hP hS hk (by omega) dX7_readCond_61 (show P_X7_readCond_d5 σ0 τ0 a1 b N mo q nn nm hc z23 σ18 τ10 from ⟨hR, hF, hFL, by omega, by first | (exfalso; omega) | (obtain ⟨f, e1, x1, x2⟩ := o1.no (by omega); exact RO.ofl (con_f e1) (by omega) x1 x2) | exact RO.ofr (by rw [iv, lop_e (by omega)]) (by omega) ⟨gCT, by omega, by omega⟩ | (obtain ⟨f, e2, x1, x2⟩ := o2.no (by omega); exact RO.ofl (by rw [iv, lop_f (f := (allP b N mo (fun q nn => oneP b N mo nm hc 4 q nn))) (by omega) (by omega) e2]) (by omega) x1 x2) | (exfalso; omega), gWH⟩)
theorem A_X7_readCond_d5 (p : Program) (l : Launch) (e : Env) (s : State) (m : MethodId) (args : Array Value) (below : List Frame) (meth : Method) (c : Code) (D : va_G) (cA : Nat → ClassId) (ad : Nat → Nat) (σ0 : Nat → Nat → Int32) (τ0 : Nat → Nat → Int64) (a1 : Int32) (b : Nat → Int) (N : Nat) (mo : Nat) (q : Nat) (nn : Nat) (nm : Nat → Int) (hc : Nat) (C : Cy p s m args meth c cX7_readCond 3 wsX7_readCond RX7 D cA ad (some .boolean)) (ha1 : 5 ≤ a1.toInt ∧ a1.toInt ≤ 5) (hpre0 : (σ0 24 1).toInt = (nn : Int)) (hpre1 : 0 ≤ (σ0 24 2).toInt ∧ (σ0 24 2).toInt ≤ 2 * (nn : Int)) (hpre2 : nn ≤ 20) (gCT0 : CT σ0 τ0 b N mo q) (gWH0 : WH σ0 τ0 nm hc) : ∀ n : Nat, J_X7_readCond_d5_12 p l e s m args below meth c D cA ad σ0 τ0 a1 b N mo q nn nm hc n := by
  intro n
  induction n with
  | zero =>
    exact (by intro σ τ H locs x2 fu q1 n1 ls hR hF hFL hP hS hc0 hc1 hc2 iv ib2 ib3 ifu in20 gCT gWH gCT hl hm; exfalso; omega)
  | succ n ih =>
    exact B_X7_readCond_d5_12 p l e s m args below meth c D cA ad σ0 τ0 a1 b N mo q nn nm hc n C ha1 hpre0 hpre1 hpre2 gCT0 gWH0 ih
set_option maxHeartbeats 4000000 in
theorem c_X7_readCond_d5 (l : Launch) (D : va_G) (cA : Nat → ClassId) (ad : Nat → Nat) (hI : Inj ad) (σ0 : Nat → Nat → Int32) (τ0 : Nat → Nat → Int64) (hR : Rg σ0) (a1 : Int32) (b : Nat → Int) (N : Nat) (mo : Nat) (q : Nat) (nn : Nat) (nm : Nat → Int) (hc : Nat) (ha1 : 5 ≤ a1.toInt ∧ a1.toInt ≤ 5) (hpre0 : (σ0 24 1).toInt = (nn : Int)) (hpre1 : 0 ≤ (σ0 24 2).toInt ∧ (σ0 24 2).toInt ≤ 2 * (nn : Int)) (hpre2 : nn ≤ 20) (gCT0 : CT σ0 τ0 b N mo q) (gWH0 : WH σ0 τ0 nm hc) : Met l yX7_readCond wsX7_readCond ({ frames := 15, cells := 0, slots := 0, locals := 329 } : Room) (WQc D cA ad [.ref (ad 27), .int a1] σ0 τ0) (va_Qi (fun (r : Int32) (u : SS) => P_X7_readCond_d5 σ0 τ0 a1 b N mo q nn nm hc r u.1 u.2) (WB D cA ad) (AA ad)) 0 0 (AA ad) := by
  refine Met.ofW (cc := cX7_readCond) (maxL := 3) (ret := (some .boolean)) (by decide) rfl ?_
  intro p e s m args below meth c s₁ B hml hv
  obtain ⟨rfl, hP, hK, hN⟩ := hv
  have C : Cy p s m _ meth c cX7_readCond 3 wsX7_readCond RX7 D cA ad (some .boolean) := ⟨B.exec, B.bytes, hml, findClass_of_methodNamed B.named, atoms_spec (ws := wsX7_readCond) B.pre, hK, B.notSynchronized, B.returns, hI, hN⟩
  have hl := lv_entry ([.ref (ad 27), .int a1]) (n := 3) (Nat.le_of_ble_eq_true rfl)
  rw [lg_entry_eq]
  generalize (lg_sl ([.ref (ad 27), .int a1]) ++ List.replicate (3 - (lg_sl ([.ref (ad 27), .int a1])).length) Slot.unset).toArray = ls at hl ⊢
  have hl : lv_has ls 3 [(0, .ref (ad 27)), (1, .int a1)] := hl
  have hS : va_S (AA ad) s.heap s.heap [] := va_S.rf
  have hF : Fr L_X7_readCond_d5 σ0 σ0 := Fr.rf
  have hFL : FrL LL_X7_readCond_d5 τ0 τ0 := FrL.rf
  have gCT := gCT0
  have gWH := gWH0
  have hA := A_X7_readCond_d5 p l e s m _ below meth c D cA ad σ0 τ0 a1 b N mo q nn nm hc C ha1 hpre0 hpre1 hpre2 gCT0 gWH0 810
  have K12 := hA
  clear hA
  obtain ⟨hx, hb, _, hown, hts, _, hk, hr, _, _⟩ := C
  refine lv_aload_n hx hb dX7_readCond_0 rfl (lv_at hl 0 rfl) ?_
  refine lv_iload_n hx hb dX7_readCond_1 rfl (lv_at hl 1 rfl) ?_
  refine r_cVi (k := 27) (As := [.int a1]) (rest := []) ⟨hx, hb, hml, hown, hts⟩ hK hP hN hS (c_X7_readAll_d5 l D cA ad hI σ0 τ0 hR a1 b N mo q nn nm hc (by omega) (by omega) (by omega) (by omega) gCT gWH) (cwV 1 hts gX7_readCond_X7_readAll rfl rfl rfl (by decide +kernel) ⟨by decide, by decide⟩) (rv_SText hK hP (by decide) (by decide)) rfl hl.1 rfl (Nat.le_of_ble_eq_true rfl) dX7_readCond_2 (Nat.zero_le _) (Nat.zero_le _) (fun r1 u1 H1 locs1 hp1 hP hS => ?_)
  obtain ⟨σ1, τ1⟩ := u1
  obtain ⟨hR, f1, fL1, hq1, hp1_0, gnWH⟩ : P_X7_readAll_d5 σ0 τ0 a1 b N mo q nn nm hc r1 σ1 τ1 := hp1
  have o1 := hp1_0
  have hP : va_P D vwCl (gw cA ad σ1 τ1) H1 := hP
  have hFL := hFL.step fL1 (by decide)
  have gWH := gWH.agL (AgrL.fr fL1 (by decide))
  have hF := hF.step f1 (by decide)
  have gWH := gWH.ag (Agr.fr f1 (by decide))
  have hr2 := rg_6_1 hR (k := 24) (by decide) (by decide)
  have hr3 := rg_6_2 hR (k := 24) (by decide) (by decide)
  refine r_if_ne (tgt := 10) hx hb dX7_readCond_5 (by decide) (fun c4 => ?_) (fun c4 => ?_)
  · obtain ⟨s1, e1, gCT, hs1, hs2⟩ := o1.ye (by omega)
    have hu1 := all_up (one_up _) _ _ _ e1
    refine r_iconst hx hb dX7_readCond_10 (by decide) (fun z5 ez5 => ?_)
    refine lv_istore_n (lv' := [(2, .int z5), (0, .ref (ad 27)), (1, .int a1)]) hx hb dX7_readCond_11 rfl hl (by decide) rfl (fun ls hl => ?_)
    exact K12 σ1 τ1 H1 locs1 z5 200 _ _ ls hR hF hFL hP hS (by omega) (by omega) (by omega) (by first | exact con_s e1 | rw [iv, lop_s (f := (allP b N mo (fun q nn => oneP b N mo nm hc 4 q nn))) (by omega) (by omega) e2]) (by omega) (by omega) (by omega) (by omega) gCT gWH gCT (lv_sub hl [1, 2, 0] rfl) (by omega)
  · refine r_iconst hx hb dX7_readCond_8 (by decide) (fun z6 ez6 => ?_)
    exact r_zret hx hb hr hK hP hS hk (by omega) dX7_readCond_9 (show P_X7_readCond_d5 σ0 τ0 a1 b N mo q nn nm hc z6 σ1 τ1 from ⟨hR, hF, hFL, by omega, by first | (exfalso; omega) | (obtain ⟨f, e1, x1, x2⟩ := o1.no (by omega); exact RO.ofl (con_f e1) (by omega) x1 x2) | exact RO.ofr (by rw [iv, lop_e (by omega)]) (by omega) ⟨gCT, by omega, by omega⟩ | (obtain ⟨f, e2, x1, x2⟩ := o2.no (by omega); exact RO.ofl (by rw [iv, lop_f (f := (allP b N mo (fun q nn => oneP b N mo nm hc 4 q nn))) (by omega) (by omega) e2]) (by omega) x1 x2) | (exfalso; omega), gWH⟩)
abbrev L_X7_readOne_d4 : List Rc := [(1, 1, 7, 10), (372, 372, 0, 39), (376, 376, 0, 39), (380, 380, 0, 39), (24, 24, 1, 2), (1, 1, 12, 14)]
abbrev LL_X7_readOne_d4 : List Rc := [(1, 1, 11, 11)]
def P_X7_readOne_d4 (σ0 : Nat → Nat → Int32) (τ0 : Nat → Nat → Int64) (a1 : Int32) (b : Nat → Int) (N : Nat) (mo : Nat) (q : Nat) (nn : Nat) (nm : Nat → Int) (hc : Nat) (r : Int32) (σ : Nat → Nat → Int32) (τ : Nat → Nat → Int64) : Prop := Rg σ ∧ Fr L_X7_readOne_d4 σ0 σ ∧ FrL LL_X7_readOne_d4 τ0 τ ∧ (0 ≤ r.toInt ∧ r.toInt ≤ 1) ∧ (RO r σ (oneP b N mo nm hc 5 q nn) (fun s => CT σ τ b N mo s.1 ∧ (σ 24 1).toInt = (s.2 : Int) ∧ (σ 24 2).toInt + 2 * (nn : Int) + 1 ≤ (σ0 24 2).toInt + 2 * (s.2 : Int))) ∧ WH σ τ nm hc
set_option maxHeartbeats 4000000 in
theorem c_X7_readOne_d4 (l : Launch) (D : va_G) (cA : Nat → ClassId) (ad : Nat → Nat) (hI : Inj ad) (σ0 : Nat → Nat → Int32) (τ0 : Nat → Nat → Int64) (hR : Rg σ0) (a1 : Int32) (b : Nat → Int) (N : Nat) (mo : Nat) (q : Nat) (nn : Nat) (nm : Nat → Int) (hc : Nat) (ha1 : 4 ≤ a1.toInt ∧ a1.toInt ≤ 4) (hpre0 : (σ0 24 1).toInt = (nn : Int)) (hpre1 : 0 ≤ (σ0 24 2).toInt ∧ (σ0 24 2).toInt ≤ 2 * (nn : Int)) (hpre2 : nn ≤ 20) (gCT0 : CT σ0 τ0 b N mo q) (gWH0 : WH σ0 τ0 nm hc) : Met l yX7_readOne wsX7_readOne ({ frames := 16, cells := 0, slots := 0, locals := 351 } : Room) (WQc D cA ad [.ref (ad 27), .int a1] σ0 τ0) (va_Qi (fun (r : Int32) (u : SS) => P_X7_readOne_d4 σ0 τ0 a1 b N mo q nn nm hc r u.1 u.2) (WB D cA ad) (AA ad)) 0 0 (AA ad) := by
  refine Met.ofW (cc := cX7_readOne) (maxL := 3) (ret := (some .boolean)) (by decide) rfl ?_
  intro p e s m args below meth c s₁ B hml hv
  obtain ⟨rfl, hP, hK, hN⟩ := hv
  have C : Cy p s m _ meth c cX7_readOne 3 wsX7_readOne RX7 D cA ad (some .boolean) := ⟨B.exec, B.bytes, hml, findClass_of_methodNamed B.named, atoms_spec (ws := wsX7_readOne) B.pre, hK, B.notSynchronized, B.returns, hI, hN⟩
  have hl := lv_entry ([.ref (ad 27), .int a1]) (n := 3) (Nat.le_of_ble_eq_true rfl)
  rw [lg_entry_eq]
  generalize (lg_sl ([.ref (ad 27), .int a1]) ++ List.replicate (3 - (lg_sl ([.ref (ad 27), .int a1])).length) Slot.unset).toArray = ls at hl ⊢
  have hl : lv_has ls 3 [(0, .ref (ad 27)), (1, .int a1)] := hl
  have hS : va_S (AA ad) s.heap s.heap [] := va_S.rf
  have hF : Fr L_X7_readOne_d4 σ0 σ0 := Fr.rf
  have hFL : FrL LL_X7_readOne_d4 τ0 τ0 := FrL.rf
  have gCT := gCT0
  have gWH := gWH0
  obtain ⟨hx, hb, _, hown, hts, _, hk, hr, _, _⟩ := C
  have htk := gCT.tk
  refine lv_aload_n hx hb dX7_readOne_0 rfl (lv_at hl 0 rfl) ?_
  refine fg_7_0 (k := 27) hx hb hts in_X7_readOne_7 hown hK hP (by decide) (by decide) (hts _ lk_X7_readOne_9) dX7_readOne_1 ?_
  refine fgN_8_9 (k := 1) hx hb hts in_X7_readOne_8 hown hK hP (by decide) (by decide) (hN.use nw_7_32) dX7_readOne_4 ?_
  refine lv_istore_n (lv' := [(2, .int (σ0 1 9)), (0, .ref (ad 27)), (1, .int a1)]) hx hb dX7_readOne_7 rfl hl (by decide) rfl (fun ls hl => ?_)
  refine lv_iload_n hx hb dX7_readOne_8 rfl (lv_at hl 0 rfl) ?_
  refine r_cSi (As := [.int (σ0 1 9)]) (rest := []) ⟨hx, hb, hml, hown, hts⟩ hK hP hN hS (c_X7_beginsOne l D cA ad hI σ0 τ0 hR (σ0 1 9)) (va_cwS 1 hts gX7_readOne_X7_beginsOne rfl rfl rfl (by decide +kernel) ⟨by decide, by decide⟩) rfl hl.1 rfl (Nat.le_of_ble_eq_true rfl) dX7_readOne_9 (Nat.zero_le _) (Nat.zero_le _) (fun r1 u1 H1 locs1 hp1 hP hS => ?_)
  obtain ⟨σ1, τ1⟩ := u1
  obtain ⟨hR, f1, fL1, hq1, hp1_0⟩ : P_X7_beginsOne σ0 τ0 (σ0 1 9) r1 σ1 τ1 := hp1
  have hP : va_P D vwCl (gw cA ad σ1 τ1) H1 := hP
  obtain rfl := FrL.nil fL1
  obtain rfl := Fr.nil f1
  refine r_if_ne (tgt := 24) hx hb dX7_readOne_12 (by decide) (fun c2 => ?_) (fun c2 => ?_)
  · refine lv_aload_n hx hb dX7_readOne_24 rfl (lv_at hl 1 rfl) ?_
    refine fg_7_2 (k := 27) hx hb hts in_X7_readOne_7 hown hK hP (by decide) (by decide) (hts _ lk_X7_readOne_19) dX7_readOne_25 ?_
    refine fgN_6_1 (k := 24) hx hb hts in_X7_readOne_6 hown hK hP (by decide) (by decide) (hN.use nw_7_61) dX7_readOne_28 ?_
    refine r_bipush hx hb dX7_readOne_31 (by decide) (fun z3 ez3 => ?_)
    refine r_icmp_ge (tgt := 42) hx hb dX7_readOne_33 (by decide) (fun c4 => ?_) (fun c4 => ?_)
    · refine lv_aload_n hx hb dX7_readOne_42 rfl (lv_at hl 1 rfl) ?_
      refine fg_7_0 (k := 27) hx hb hts in_X7_readOne_7 hown hK hP (by decide) (by decide) (hts _ lk_X7_readOne_9) dX7_readOne_43 ?_
      refine r_iconst hx hb dX7_readOne_46 (by decide) (fun z5 ez5 => ?_)
      refine r_cVi (k := 1) (As := [.int z5]) (rest := []) ⟨hx, hb, hml, hown, hts⟩ hK hP hN hS (c_X8_blame_v l D cA ad hI σ0 τ0 hR z5 _ _ _ _ (by omega) gCT) (cwV 1 hts gX7_readOne_X8_blame rfl rfl rfl (by decide +kernel) ⟨by decide, by decide⟩) (rv_Tape hK hP (by decide) (by decide)) rfl hl.1 rfl (Nat.le_of_ble_eq_true rfl) dX7_readOne_47 (Nat.zero_le _) (Nat.zero_le _) (fun r6 u6 H6 locs6 hp6 hP hS => ?_)
      obtain ⟨σ6, τ6⟩ := u6
      obtain ⟨hR, f6, fL6, hq6, hp6_0, hp6_1, hp6_2, gnCT⟩ : P_X8_blame_v σ0 τ0 z5 _ _ _ _ r6 σ6 τ6 := hp6
      have hP : va_P D vwCl (gw cA ad σ6 τ6) H6 := hP
      obtain rfl := FrL.nil fL6
      have hF := hF.step f6 (by decide)
      have gCT := gCT.ag (Agr.fr f6 (by decide))
      have gWH := gWH.ag (Agr.fr f6 (by decide))
      have t7 : (σ6 24 1).toInt = (σ0 24 1).toInt := congrArg Int32.toInt (f6.at 24 1 (by decide))
      have t8 : (σ6 24 2).toInt = (σ0 24 2).toInt := congrArg Int32.toInt (f6.at 24 2 (by decide))
      exact r_zret hx hb hr hK hP hS hk (by omega) dX7_readOne_50 (show P_X7_readOne_d4 σ0 τ0 a1 b N mo q nn nm hc r6 σ6 τ0 from ⟨hR, hF, hFL, by omega, by first | exact RO.ofr ((one_l (by omega) (by omega) (by omega) (by omega)).trans (lea_n (by omega) (by omega))) (by omega) ⟨gCT, by omega, by omega⟩ | (exfalso; omega) | exact RO.ofk (one_x (by omega)) (by omega) (by omega) (by omega) | exact RO.ofk (one_4 (by omega) (by omega)) (by omega) (by omega) (by omega) | (obtain ⟨f, e1, x1, x2⟩ := o1.no (by omega); exact RO.ofl ((one_n (by omega) (by omega)).trans e1) (by omega) x1 x2) | exact RO.ofr ((one_n (by omega) (by omega)).trans e1) (by omega) ⟨gCT, by omega, by omega⟩ | (obtain ⟨f, e2, x1, x2⟩ := o2.no (by omega); exact RO.ofl (by rw [one_o (by omega) (by omega), e2, bnd_l]) (by omega) x1 x2) | (obtain ⟨f, e3, x1, x2⟩ := o3.no (by omega); exact RO.ofl (by rw [one_o (by omega) (by omega), e2, bnd_r, e3, bnd_l]) (by omega) x1 x2) | exact RO.ofr (by rw [one_o (by omega) (by omega), e2, bnd_r, e3, bnd_r]) (by omega) ⟨gCT, by omega, by omega⟩ | (rw [one_l (by omega) (by omega) (by omega) (by omega)]; exact o4.map (fun s es h => ⟨h.1, h.2.1, by have h2 := h.2.2; have hl := lea_up es; omega⟩)) | (rw [one_l (by omega) (by omega) (by omega) (by omega)]; exact o5.map (fun s es h => ⟨h.1, h.2.1, by have h2 := h.2.2; have hl := lea_up es; omega⟩)), gWH⟩)
    · refine lv_iload_n hx hb dX7_readOne_36 rfl (lv_at hl 2 rfl) ?_
      refine r_bipush hx hb dX7_readOne_37 (by decide) (fun z9 ez9 => ?_)
      refine r_icmp_le (tgt := 51) hx hb dX7_readOne_39 (by decide) (fun c10 => ?_) (fun c10 => ?_)
      · refine lv_aload_n hx hb dX7_readOne_51 rfl (lv_at hl 1 rfl) ?_
        refine fg_7_2 (k := 27) hx hb hts in_X7_readOne_7 hown hK hP (by decide) (by decide) (hts _ lk_X7_readOne_19) dX7_readOne_52 ?_
        refine lv_dup hx hb dX7_readOne_55 rfl ?_
        refine fgN_6_1 (k := 24) hx hb hts in_X7_readOne_6 hown hK hP (by decide) (by decide) (hN.use nw_7_61) dX7_readOne_56 ?_
        refine r_iconst hx hb dX7_readOne_59 (by decide) (fun z11 ez11 => ?_)
        refine r_iadd hx hb dX7_readOne_60 (by omega) (fun z12 ez12 => ?_)
        refine fpN_6_1 (k := 24) hx hb hts in_X7_readOne_6 hown hK hP (by decide) (by decide) (hN.use nw_7_61) hI hR hS (by omega) dX7_readOne_61 (fun σ13 H13 locs13 u13 v13 hR hP hS => ?_)
        have hF := hF.puts u13 4 rfl (by decide) (by decide) (by decide) (by decide)
        have gCT := gCT.ag (Agr.put u13 (by decide))
        have gWH := gWH.ag (Agr.put u13 (by decide))
        have t14 : (σ13 24 2).toInt = (σ0 24 2).toInt := congrArg Int32.toInt (u13 24 2 (by omega))
        refine lv_aload_n hx hb dX7_readOne_64 rfl (lv_at hl 1 rfl) ?_
        refine fg_7_0 (k := 27) hx hb hts in_X7_readOne_7 hown hK hP (by decide) (by decide) (hts _ lk_X7_readOne_9) dX7_readOne_65 ?_
        refine r_cVv (k := 1) (As := []) (rest := []) ⟨hx, hb, hml, hown, hts⟩ hK hP hN hS (c_X8_next_v l D cA ad hI σ13 τ0 hR _ _ _ _ gCT) (cwV 0 hts gX7_readOne_X8_next rfl rfl rfl (by decide +kernel) ⟨by decide, by decide⟩) (rv_Tape hK hP (by decide) (by decide)) rfl hl.1 rfl (Nat.le_of_ble_eq_true rfl) dX7_readOne_68 (Nat.zero_le _) (Nat.zero_le _) (fun u15 H15 locs15 hp15 hP hS => ?_)
        obtain ⟨σ15, τ15⟩ := u15
        obtain ⟨hR, f15, fL15, hp15_0⟩ : P_X8_next_v σ13 τ0 _ _ _ _ σ15 τ15 := hp15
        have hP : va_P D vwCl (gw cA ad σ15 τ15) H15 := hP
        have hFL := hFL.step fL15 (by decide)
        have gWH := gWH.agL (AgrL.fr fL15 (by decide))
        have hF := hF.step f15 (by decide)
        have gWH := gWH.ag (Agr.fr f15 (by decide))
        have t16 : (σ15 24 2).toInt = (σ13 24 2).toInt := congrArg Int32.toInt (f15.at 24 2 (by decide))
        have t17 : (σ15 24 1).toInt = (σ13 24 1).toInt := congrArg Int32.toInt (f15.at 24 1 (by decide))
        have gCT := hp15_0
        refine lv_iload_n hx hb dX7_readOne_71 rfl (lv_at hl 0 rfl) ?_
        by_cases c18 : (σ0 1 9).toInt = 22
        · refine lv_tableIn (off := 108) (tgt := 180) hx hb dX7_readOne_72 (by omega) (by omega) (by rw [c18]; rfl) (by decide) ?_
          refine lv_aload_n hx hb dX7_readOne_180 rfl (lv_at hl 1 rfl) ?_
          refine lv_iload_n hx hb dX7_readOne_181 rfl (lv_at hl 2 rfl) ?_
          refine r_iconst hx hb dX7_readOne_182 (by decide) (fun z19 ez19 => ?_)
          refine r_iadd hx hb dX7_readOne_183 (by omega) (fun z20 ez20 => ?_)
          refine r_cVi (k := 27) (As := [.int z20]) (rest := []) ⟨hx, hb, hml, hown, hts⟩ hK hP hN hS (c_X7_readOne_d5 l D cA ad hI σ15 τ15 hR z20 b N mo _ (nn + 1) nm hc (by omega) (by omega) (by omega) (by omega) gCT gWH) (cwV 1 hts gX7_readOne_X7_readOne rfl rfl rfl (by decide +kernel) ⟨by decide, by decide⟩) (rv_SText hK hP (by decide) (by decide)) rfl hl.1 rfl (Nat.le_of_ble_eq_true rfl) dX7_readOne_184 (Nat.zero_le _) (Nat.zero_le _) (fun r21 u21 H21 locs21 hp21 hP hS => ?_)
          obtain ⟨σ21, τ21⟩ := u21
          obtain ⟨hR, f21, fL21, hq21, hp21_0, gnWH⟩ : P_X7_readOne_d5 σ15 τ15 z20 b N mo _ (nn + 1) nm hc r21 σ21 τ21 := hp21
          have o1 := hp21_0
          have hP : va_P D vwCl (gw cA ad σ21 τ21) H21 := hP
          have hFL := hFL.step fL21 (by decide)
          have gWH := gWH.agL (AgrL.fr fL21 (by decide))
          have hF := hF.step f21 (by decide)
          have gWH := gWH.ag (Agr.fr f21 (by decide))
          have hr22 := rg_6_1 hR (k := 24) (by decide) (by decide)
          have hr23 := rg_6_2 hR (k := 24) (by decide) (by decide)
          refine r_if_eq (tgt := 208) hx hb dX7_readOne_187 (by decide) (fun c24 => ?_) (fun c24 => ?_)
          · refine r_iconst hx hb dX7_readOne_208 (by decide) (fun z25 ez25 => ?_)
            exact r_zret hx hb hr hK hP hS hk (by omega) dX7_readOne_209 (show P_X7_readOne_d4 σ0 τ0 a1 b N mo q nn nm hc z25 σ21 τ21 from ⟨hR, hF, hFL, by omega, by first | exact RO.ofr ((one_l (by omega) (by omega) (by omega) (by omega)).trans (lea_n (by omega) (by omega))) (by omega) ⟨gCT, by omega, by omega⟩ | (exfalso; omega) | exact RO.ofk (one_x (by omega)) (by omega) (by omega) (by omega) | exact RO.ofk (one_4 (by omega) (by omega)) (by omega) (by omega) (by omega) | (obtain ⟨f, e1, x1, x2⟩ := o1.no (by omega); exact RO.ofl ((one_n (by omega) (by omega)).trans e1) (by omega) x1 x2) | exact RO.ofr ((one_n (by omega) (by omega)).trans e1) (by omega) ⟨gCT, by omega, by omega⟩ | (obtain ⟨f, e2, x1, x2⟩ := o2.no (by omega); exact RO.ofl (by rw [one_o (by omega) (by omega), e2, bnd_l]) (by omega) x1 x2) | (obtain ⟨f, e3, x1, x2⟩ := o3.no (by omega); exact RO.ofl (by rw [one_o (by omega) (by omega), e2, bnd_r, e3, bnd_l]) (by omega) x1 x2) | exact RO.ofr (by rw [one_o (by omega) (by omega), e2, bnd_r, e3, bnd_r]) (by omega) ⟨gCT, by omega, by omega⟩ | (rw [one_l (by omega) (by omega) (by omega) (by omega)]; exact o4.map (fun s es h => ⟨h.1, h.2.1, by have h2 := h.2.2; have hl := lea_up es; omega⟩)) | (rw [one_l (by omega) (by omega) (by omega) (by omega)]; exact o5.map (fun s es h => ⟨h.1, h.2.1, by have h2 := h.2.2; have hl := lea_up es; omega⟩)), gWH⟩)
          · obtain ⟨s1, e1, gCT, hs1, hs2⟩ := o1.ye (by omega)
            have hu1 := one_up _ _ _ _ e1
            refine lv_aload_n hx hb dX7_readOne_190 rfl (lv_at hl 1 rfl) ?_
            refine fg_7_2 (k := 27) hx hb hts in_X7_readOne_7 hown hK hP (by decide) (by decide) (hts _ lk_X7_readOne_19) dX7_readOne_191 ?_
            refine r_bipush hx hb dX7_readOne_194 (by decide) (fun z26 ez26 => ?_)
            refine r_iconst hx hb dX7_readOne_196 (by decide) (fun z27 ez27 => ?_)
            refine r_iconst hx hb dX7_readOne_197 (by decide) (fun z28 ez28 => ?_)
            refine r_cVi (k := 24) (As := [.int z26, .int z27, .int z28]) (rest := []) ⟨hx, hb, hml, hown, hts⟩ hK hP hN hS (c_X6_add l D cA ad hI σ21 τ21 hR z26 z27 z28 (by omega)) (cwV 3 hts gX7_readOne_X6_add rfl rfl rfl (by decide +kernel) ⟨by decide, by decide⟩) (rv_Sent hK hP (by decide) (by decide)) rfl hl.1 rfl (Nat.le_of_ble_eq_true rfl) dX7_readOne_198 (Nat.zero_le _) (Nat.zero_le _) (fun r29 u29 H29 locs29 hp29 hP hS => ?_)
            obtain ⟨σ29, τ29⟩ := u29
            obtain ⟨hR, f29, fL29, hq29, hp29_0⟩ : P_X6_add σ21 τ21 z26 z27 z28 r29 σ29 τ29 := hp29
            have hP : va_P D vwCl (gw cA ad σ29 τ29) H29 := hP
            obtain rfl := FrL.nil fL29
            have hF := hF.step f29 (by decide)
            have gCT := gCT.ag (Agr.fr f29 (by decide))
            have gWH := gWH.ag (Agr.fr f29 (by decide))
            have t30 : (σ29 24 1).toInt = (σ21 24 1).toInt := congrArg Int32.toInt (f29.at 24 1 (by decide))
            have hr31 := rg_6_2 hR (k := 24) (by decide) (by decide)
            refine r_if_eq (tgt := 208) hx hb dX7_readOne_201 (by decide) (fun c32 => ?_) (fun c32 => ?_)
            · refine r_iconst hx hb dX7_readOne_208 (by decide) (fun z33 ez33 => ?_)
              exact r_zret hx hb hr hK hP hS hk (by omega) dX7_readOne_209 (show P_X7_readOne_d4 σ0 τ0 a1 b N mo q nn nm hc z33 σ29 τ21 from ⟨hR, hF, hFL, by omega, by first | exact RO.ofr ((one_l (by omega) (by omega) (by omega) (by omega)).trans (lea_n (by omega) (by omega))) (by omega) ⟨gCT, by omega, by omega⟩ | (exfalso; omega) | exact RO.ofk (one_x (by omega)) (by omega) (by omega) (by omega) | exact RO.ofk (one_4 (by omega) (by omega)) (by omega) (by omega) (by omega) | (obtain ⟨f, e1, x1, x2⟩ := o1.no (by omega); exact RO.ofl ((one_n (by omega) (by omega)).trans e1) (by omega) x1 x2) | exact RO.ofr ((one_n (by omega) (by omega)).trans e1) (by omega) ⟨gCT, by omega, by omega⟩ | (obtain ⟨f, e2, x1, x2⟩ := o2.no (by omega); exact RO.ofl (by rw [one_o (by omega) (by omega), e2, bnd_l]) (by omega) x1 x2) | (obtain ⟨f, e3, x1, x2⟩ := o3.no (by omega); exact RO.ofl (by rw [one_o (by omega) (by omega), e2, bnd_r, e3, bnd_l]) (by omega) x1 x2) | exact RO.ofr (by rw [one_o (by omega) (by omega), e2, bnd_r, e3, bnd_r]) (by omega) ⟨gCT, by omega, by omega⟩ | (rw [one_l (by omega) (by omega) (by omega) (by omega)]; exact o4.map (fun s es h => ⟨h.1, h.2.1, by have h2 := h.2.2; have hl := lea_up es; omega⟩)) | (rw [one_l (by omega) (by omega) (by omega) (by omega)]; exact o5.map (fun s es h => ⟨h.1, h.2.1, by have h2 := h.2.2; have hl := lea_up es; omega⟩)), gWH⟩)
            · refine r_iconst hx hb dX7_readOne_204 (by decide) (fun z34 ez34 => ?_)
              refine lv_goto (tgt := 209) hx hb dX7_readOne_205 (by decide) ?_
              exact r_zret hx hb hr hK hP hS hk (by omega) dX7_readOne_209 (show P_X7_readOne_d4 σ0 τ0 a1 b N mo q nn nm hc z34 σ29 τ21 from ⟨hR, hF, hFL, by omega, by first | exact RO.ofr ((one_l (by omega) (by omega) (by omega) (by omega)).trans (lea_n (by omega) (by omega))) (by omega) ⟨gCT, by omega, by omega⟩ | (exfalso; omega) | exact RO.ofk (one_x (by omega)) (by omega) (by omega) (by omega) | exact RO.ofk (one_4 (by omega) (by omega)) (by omega) (by omega) (by omega) | (obtain ⟨f, e1, x1, x2⟩ := o1.no (by omega); exact RO.ofl ((one_n (by omega) (by omega)).trans e1) (by omega) x1 x2) | exact RO.ofr ((one_n (by omega) (by omega)).trans e1) (by omega) ⟨gCT, by omega, by omega⟩ | (obtain ⟨f, e2, x1, x2⟩ := o2.no (by omega); exact RO.ofl (by rw [one_o (by omega) (by omega), e2, bnd_l]) (by omega) x1 x2) | (obtain ⟨f, e3, x1, x2⟩ := o3.no (by omega); exact RO.ofl (by rw [one_o (by omega) (by omega), e2, bnd_r, e3, bnd_l]) (by omega) x1 x2) | exact RO.ofr (by rw [one_o (by omega) (by omega), e2, bnd_r, e3, bnd_r]) (by omega) ⟨gCT, by omega, by omega⟩ | (rw [one_l (by omega) (by omega) (by omega) (by omega)]; exact o4.map (fun s es h => ⟨h.1, h.2.1, by have h2 := h.2.2; have hl := lea_up es; omega⟩)) | (rw [one_l (by omega) (by omega) (by omega) (by omega)]; exact o5.map (fun s es h => ⟨h.1, h.2.1, by have h2 := h.2.2; have hl := lea_up es; omega⟩)), gWH⟩)
        by_cases c35 : (σ0 1 9).toInt = 23
        · refine lv_tableIn (off := 177) (tgt := 249) hx hb dX7_readOne_72 (by omega) (by omega) (by rw [c35]; rfl) (by decide) ?_
          refine lv_aload_n hx hb dX7_readOne_249 rfl (lv_at hl 1 rfl) ?_
          refine fg_7_2 (k := 27) hx hb hts in_X7_readOne_7 hown hK hP (by decide) (by decide) (hts _ lk_X7_readOne_19) dX7_readOne_250 ?_
          refine lv_iload_n hx hb dX7_readOne_253 rfl (lv_at hl 0 rfl) ?_
          refine r_bipush hx hb dX7_readOne_254 (by decide) (fun z36 ez36 => ?_)
          refine r_iconst hx hb dX7_readOne_256 (by decide) (fun z37 ez37 => ?_)
          refine r_cVi (k := 24) (As := [.int (σ0 1 9), .int z36, .int z37]) (rest := []) ⟨hx, hb, hml, hown, hts⟩ hK hP hN hS (c_X6_add l D cA ad hI σ15 τ15 hR (σ0 1 9) z36 z37 (by omega)) (cwV 3 hts gX7_readOne_X6_add rfl rfl rfl (by decide +kernel) ⟨by decide, by decide⟩) (rv_Sent hK hP (by decide) (by decide)) rfl hl.1 rfl (Nat.le_of_ble_eq_true rfl) dX7_readOne_257 (Nat.zero_le _) (Nat.zero_le _) (fun r38 u38 H38 locs38 hp38 hP hS => ?_)
          obtain ⟨σ38, τ38⟩ := u38
          obtain ⟨hR, f38, fL38, hq38, hp38_0⟩ : P_X6_add σ15 τ15 (σ0 1 9) z36 z37 r38 σ38 τ38 := hp38
          have hP : va_P D vwCl (gw cA ad σ38 τ38) H38 := hP
          obtain rfl := FrL.nil fL38
          have hF := hF.step f38 (by decide)
          have gCT := gCT.ag (Agr.fr f38 (by decide))
          have gWH := gWH.ag (Agr.fr f38 (by decide))
          have t39 : (σ38 24 1).toInt = (σ15 24 1).toInt := congrArg Int32.toInt (f38.at 24 1 (by decide))
          have hr40 := rg_6_2 hR (k := 24) (by decide) (by decide)
          exact r_zret hx hb hr hK hP hS hk (by omega) dX7_readOne_260 (show P_X7_readOne_d4 σ0 τ0 a1 b N mo q nn nm hc r38 σ38 τ15 from ⟨hR, hF, hFL, by omega, by first | exact RO.ofr ((one_l (by omega) (by omega) (by omega) (by omega)).trans (lea_n (by omega) (by omega))) (by omega) ⟨gCT, by omega, by omega⟩ | (exfalso; omega) | exact RO.ofk (one_x (by omega)) (by omega) (by omega) (by omega) | exact RO.ofk (one_4 (by omega) (by omega)) (by omega) (by omega) (by omega) | (obtain ⟨f, e1, x1, x2⟩ := o1.no (by omega); exact RO.ofl ((one_n (by omega) (by omega)).trans e1) (by omega) x1 x2) | exact RO.ofr ((one_n (by omega) (by omega)).trans e1) (by omega) ⟨gCT, by omega, by omega⟩ | (obtain ⟨f, e2, x1, x2⟩ := o2.no (by omega); exact RO.ofl (by rw [one_o (by omega) (by omega), e2, bnd_l]) (by omega) x1 x2) | (obtain ⟨f, e3, x1, x2⟩ := o3.no (by omega); exact RO.ofl (by rw [one_o (by omega) (by omega), e2, bnd_r, e3, bnd_l]) (by omega) x1 x2) | exact RO.ofr (by rw [one_o (by omega) (by omega), e2, bnd_r, e3, bnd_r]) (by omega) ⟨gCT, by omega, by omega⟩ | (rw [one_l (by omega) (by omega) (by omega) (by omega)]; exact o4.map (fun s es h => ⟨h.1, h.2.1, by have h2 := h.2.2; have hl := lea_up es; omega⟩)) | (rw [one_l (by omega) (by omega) (by omega) (by omega)]; exact o5.map (fun s es h => ⟨h.1, h.2.1, by have h2 := h.2.2; have hl := lea_up es; omega⟩)), gWH⟩)
        by_cases c41 : (σ0 1 9).toInt = 24
        · refine lv_tableIn (off := 177) (tgt := 249) hx hb dX7_readOne_72 (by omega) (by omega) (by rw [c41]; rfl) (by decide) ?_
          refine lv_aload_n hx hb dX7_readOne_249 rfl (lv_at hl 1 rfl) ?_
          refine fg_7_2 (k := 27) hx hb hts in_X7_readOne_7 hown hK hP (by decide) (by decide) (hts _ lk_X7_readOne_19) dX7_readOne_250 ?_
          refine lv_iload_n hx hb dX7_readOne_253 rfl (lv_at hl 0 rfl) ?_
          refine r_bipush hx hb dX7_readOne_254 (by decide) (fun z42 ez42 => ?_)
          refine r_iconst hx hb dX7_readOne_256 (by decide) (fun z43 ez43 => ?_)
          refine r_cVi (k := 24) (As := [.int (σ0 1 9), .int z42, .int z43]) (rest := []) ⟨hx, hb, hml, hown, hts⟩ hK hP hN hS (c_X6_add l D cA ad hI σ15 τ15 hR (σ0 1 9) z42 z43 (by omega)) (cwV 3 hts gX7_readOne_X6_add rfl rfl rfl (by decide +kernel) ⟨by decide, by decide⟩) (rv_Sent hK hP (by decide) (by decide)) rfl hl.1 rfl (Nat.le_of_ble_eq_true rfl) dX7_readOne_257 (Nat.zero_le _) (Nat.zero_le _) (fun r44 u44 H44 locs44 hp44 hP hS => ?_)
          obtain ⟨σ44, τ44⟩ := u44
          obtain ⟨hR, f44, fL44, hq44, hp44_0⟩ : P_X6_add σ15 τ15 (σ0 1 9) z42 z43 r44 σ44 τ44 := hp44
          have hP : va_P D vwCl (gw cA ad σ44 τ44) H44 := hP
          obtain rfl := FrL.nil fL44
          have hF := hF.step f44 (by decide)
          have gCT := gCT.ag (Agr.fr f44 (by decide))
          have gWH := gWH.ag (Agr.fr f44 (by decide))
          have t45 : (σ44 24 1).toInt = (σ15 24 1).toInt := congrArg Int32.toInt (f44.at 24 1 (by decide))
          have hr46 := rg_6_2 hR (k := 24) (by decide) (by decide)
          exact r_zret hx hb hr hK hP hS hk (by omega) dX7_readOne_260 (show P_X7_readOne_d4 σ0 τ0 a1 b N mo q nn nm hc r44 σ44 τ15 from ⟨hR, hF, hFL, by omega, by first | exact RO.ofr ((one_l (by omega) (by omega) (by omega) (by omega)).trans (lea_n (by omega) (by omega))) (by omega) ⟨gCT, by omega, by omega⟩ | (exfalso; omega) | exact RO.ofk (one_x (by omega)) (by omega) (by omega) (by omega) | exact RO.ofk (one_4 (by omega) (by omega)) (by omega) (by omega) (by omega) | (obtain ⟨f, e1, x1, x2⟩ := o1.no (by omega); exact RO.ofl ((one_n (by omega) (by omega)).trans e1) (by omega) x1 x2) | exact RO.ofr ((one_n (by omega) (by omega)).trans e1) (by omega) ⟨gCT, by omega, by omega⟩ | (obtain ⟨f, e2, x1, x2⟩ := o2.no (by omega); exact RO.ofl (by rw [one_o (by omega) (by omega), e2, bnd_l]) (by omega) x1 x2) | (obtain ⟨f, e3, x1, x2⟩ := o3.no (by omega); exact RO.ofl (by rw [one_o (by omega) (by omega), e2, bnd_r, e3, bnd_l]) (by omega) x1 x2) | exact RO.ofr (by rw [one_o (by omega) (by omega), e2, bnd_r, e3, bnd_r]) (by omega) ⟨gCT, by omega, by omega⟩ | (rw [one_l (by omega) (by omega) (by omega) (by omega)]; exact o4.map (fun s es h => ⟨h.1, h.2.1, by have h2 := h.2.2; have hl := lea_up es; omega⟩)) | (rw [one_l (by omega) (by omega) (by omega) (by omega)]; exact o5.map (fun s es h => ⟨h.1, h.2.1, by have h2 := h.2.2; have hl := lea_up es; omega⟩)), gWH⟩)
        by_cases c47 : (σ0 1 9).toInt = 25
        · refine lv_tableIn (off := 166) (tgt := 238) hx hb dX7_readOne_72 (by omega) (by omega) (by rw [c47]; rfl) (by decide) ?_
          refine lv_aload_n hx hb dX7_readOne_238 rfl (lv_at hl 1 rfl) ?_
          refine r_cVi (k := 27) (As := []) (rest := []) ⟨hx, hb, hml, hown, hts⟩ hK hP hN hS (c_X7_readOn l D cA ad hI σ15 τ15 hR b N mo _ (nn + 1) nm hc (tkq b N mo q) (by omega) (by omega) (by omega) gCT gWH) (cwV 0 hts gX7_readOne_X7_readOn rfl rfl rfl (by decide +kernel) ⟨by decide, by decide⟩) (rv_SText hK hP (by decide) (by decide)) rfl hl.1 rfl (Nat.le_of_ble_eq_true rfl) dX7_readOne_239 (Nat.zero_le _) (Nat.zero_le _) (fun r48 u48 H48 locs48 hp48 hP hS => ?_)
          obtain ⟨σ48, τ48⟩ := u48
          obtain ⟨hR, f48, fL48, hq48, hp48_0, gnWH⟩ : P_X7_readOn σ15 τ15 b N mo _ (nn + 1) nm hc (tkq b N mo q) r48 σ48 τ48 := hp48
          have o4 := hp48_0
          have hP : va_P D vwCl (gw cA ad σ48 τ48) H48 := hP
          have hFL := hFL.step fL48 (by decide)
          have gWH := gWH.agL (AgrL.fr fL48 (by decide))
          have hF := hF.step f48 (by decide)
          have gWH := gWH.ag (Agr.fr f48 (by decide))
          have t49 : (σ48 24 1).toInt = (σ15 24 1).toInt := congrArg Int32.toInt (f48.at 24 1 (by decide))
          have hr50 := rg_6_2 hR (k := 24) (by decide) (by decide)
          exact r_zret hx hb hr hK hP hS hk (by omega) dX7_readOne_242 (show P_X7_readOne_d4 σ0 τ0 a1 b N mo q nn nm hc r48 σ48 τ48 from ⟨hR, hF, hFL, by omega, by first | exact RO.ofr ((one_l (by omega) (by omega) (by omega) (by omega)).trans (lea_n (by omega) (by omega))) (by omega) ⟨gCT, by omega, by omega⟩ | (exfalso; omega) | exact RO.ofk (one_x (by omega)) (by omega) (by omega) (by omega) | exact RO.ofk (one_4 (by omega) (by omega)) (by omega) (by omega) (by omega) | (obtain ⟨f, e1, x1, x2⟩ := o1.no (by omega); exact RO.ofl ((one_n (by omega) (by omega)).trans e1) (by omega) x1 x2) | exact RO.ofr ((one_n (by omega) (by omega)).trans e1) (by omega) ⟨gCT, by omega, by omega⟩ | (obtain ⟨f, e2, x1, x2⟩ := o2.no (by omega); exact RO.ofl (by rw [one_o (by omega) (by omega), e2, bnd_l]) (by omega) x1 x2) | (obtain ⟨f, e3, x1, x2⟩ := o3.no (by omega); exact RO.ofl (by rw [one_o (by omega) (by omega), e2, bnd_r, e3, bnd_l]) (by omega) x1 x2) | exact RO.ofr (by rw [one_o (by omega) (by omega), e2, bnd_r, e3, bnd_r]) (by omega) ⟨gCT, by omega, by omega⟩ | (rw [one_l (by omega) (by omega) (by omega) (by omega)]; exact o4.map (fun s es h => ⟨h.1, h.2.1, by have h2 := h.2.2; have hl := lea_up es; omega⟩)) | (rw [one_l (by omega) (by omega) (by omega) (by omega)]; exact o5.map (fun s es h => ⟨h.1, h.2.1, by have h2 := h.2.2; have hl := lea_up es; omega⟩)), gWH⟩)
        by_cases c51 : (σ0 1 9).toInt = 26
        · refine lv_tableIn (off := 177) (tgt := 249) hx hb dX7_readOne_72 (by omega) (by omega) (by rw [c51]; rfl) (by decide) ?_
          refine lv_aload_n hx hb dX7_readOne_249 rfl (lv_at hl 1 rfl) ?_
          refine fg_7_2 (k := 27) hx hb hts in_X7_readOne_7 hown hK hP (by decide) (by decide) (hts _ lk_X7_readOne_19) dX7_readOne_250 ?_
          refine lv_iload_n hx hb dX7_readOne_253 rfl (lv_at hl 0 rfl) ?_
          refine r_bipush hx hb dX7_readOne_254 (by decide) (fun z52 ez52 => ?_)
          refine r_iconst hx hb dX7_readOne_256 (by decide) (fun z53 ez53 => ?_)
          refine r_cVi (k := 24) (As := [.int (σ0 1 9), .int z52, .int z53]) (rest := []) ⟨hx, hb, hml, hown, hts⟩ hK hP hN hS (c_X6_add l D cA ad hI σ15 τ15 hR (σ0 1 9) z52 z53 (by omega)) (cwV 3 hts gX7_readOne_X6_add rfl rfl rfl (by decide +kernel) ⟨by decide, by decide⟩) (rv_Sent hK hP (by decide) (by decide)) rfl hl.1 rfl (Nat.le_of_ble_eq_true rfl) dX7_readOne_257 (Nat.zero_le _) (Nat.zero_le _) (fun r54 u54 H54 locs54 hp54 hP hS => ?_)
          obtain ⟨σ54, τ54⟩ := u54
          obtain ⟨hR, f54, fL54, hq54, hp54_0⟩ : P_X6_add σ15 τ15 (σ0 1 9) z52 z53 r54 σ54 τ54 := hp54
          have hP : va_P D vwCl (gw cA ad σ54 τ54) H54 := hP
          obtain rfl := FrL.nil fL54
          have hF := hF.step f54 (by decide)
          have gCT := gCT.ag (Agr.fr f54 (by decide))
          have gWH := gWH.ag (Agr.fr f54 (by decide))
          have t55 : (σ54 24 1).toInt = (σ15 24 1).toInt := congrArg Int32.toInt (f54.at 24 1 (by decide))
          have hr56 := rg_6_2 hR (k := 24) (by decide) (by decide)
          exact r_zret hx hb hr hK hP hS hk (by omega) dX7_readOne_260 (show P_X7_readOne_d4 σ0 τ0 a1 b N mo q nn nm hc r54 σ54 τ15 from ⟨hR, hF, hFL, by omega, by first | exact RO.ofr ((one_l (by omega) (by omega) (by omega) (by omega)).trans (lea_n (by omega) (by omega))) (by omega) ⟨gCT, by omega, by omega⟩ | (exfalso; omega) | exact RO.ofk (one_x (by omega)) (by omega) (by omega) (by omega) | exact RO.ofk (one_4 (by omega) (by omega)) (by omega) (by omega) (by omega) | (obtain ⟨f, e1, x1, x2⟩ := o1.no (by omega); exact RO.ofl ((one_n (by omega) (by omega)).trans e1) (by omega) x1 x2) | exact RO.ofr ((one_n (by omega) (by omega)).trans e1) (by omega) ⟨gCT, by omega, by omega⟩ | (obtain ⟨f, e2, x1, x2⟩ := o2.no (by omega); exact RO.ofl (by rw [one_o (by omega) (by omega), e2, bnd_l]) (by omega) x1 x2) | (obtain ⟨f, e3, x1, x2⟩ := o3.no (by omega); exact RO.ofl (by rw [one_o (by omega) (by omega), e2, bnd_r, e3, bnd_l]) (by omega) x1 x2) | exact RO.ofr (by rw [one_o (by omega) (by omega), e2, bnd_r, e3, bnd_r]) (by omega) ⟨gCT, by omega, by omega⟩ | (rw [one_l (by omega) (by omega) (by omega) (by omega)]; exact o4.map (fun s es h => ⟨h.1, h.2.1, by have h2 := h.2.2; have hl := lea_up es; omega⟩)) | (rw [one_l (by omega) (by omega) (by omega) (by omega)]; exact o5.map (fun s es h => ⟨h.1, h.2.1, by have h2 := h.2.2; have hl := lea_up es; omega⟩)), gWH⟩)
        by_cases c57 : (σ0 1 9).toInt = 27
        · refine lv_tableIn (off := 171) (tgt := 243) hx hb dX7_readOne_72 (by omega) (by omega) (by rw [c57]; rfl) (by decide) ?_
          refine lv_aload_n hx hb dX7_readOne_243 rfl (lv_at hl 1 rfl) ?_
          refine lv_iload_n hx hb dX7_readOne_244 rfl (lv_at hl 0 rfl) ?_
          refine r_cVi (k := 27) (As := [.int (σ0 1 9)]) (rest := []) ⟨hx, hb, hml, hown, hts⟩ hK hP hN hS (c_X7_readMeasure l D cA ad hI σ15 τ15 hR (σ0 1 9) b N mo _ (nn + 1) nm hc (tkq b N mo q) (by omega) (by omega) (by omega) (by omega) gCT gWH) (cwV 1 hts gX7_readOne_X7_readMeasure rfl rfl rfl (by decide +kernel) ⟨by decide, by decide⟩) (rv_SText hK hP (by decide) (by decide)) rfl hl.1 rfl (Nat.le_of_ble_eq_true rfl) dX7_readOne_245 (Nat.zero_le _) (Nat.zero_le _) (fun r58 u58 H58 locs58 hp58 hP hS => ?_)
          obtain ⟨σ58, τ58⟩ := u58
          obtain ⟨hR, f58, fL58, hq58, hp58_0, gnWH⟩ : P_X7_readMeasure σ15 τ15 (σ0 1 9) b N mo _ (nn + 1) nm hc (tkq b N mo q) r58 σ58 τ58 := hp58
          have o5 := hp58_0
          have hP : va_P D vwCl (gw cA ad σ58 τ58) H58 := hP
          have hFL := hFL.step fL58 (by decide)
          have gWH := gWH.agL (AgrL.fr fL58 (by decide))
          have hF := hF.step f58 (by decide)
          have gWH := gWH.ag (Agr.fr f58 (by decide))
          have t59 : (σ58 24 1).toInt = (σ15 24 1).toInt := congrArg Int32.toInt (f58.at 24 1 (by decide))
          have hr60 := rg_6_2 hR (k := 24) (by decide) (by decide)
          exact r_zret hx hb hr hK hP hS hk (by omega) dX7_readOne_248 (show P_X7_readOne_d4 σ0 τ0 a1 b N mo q nn nm hc r58 σ58 τ58 from ⟨hR, hF, hFL, by omega, by first | exact RO.ofr ((one_l (by omega) (by omega) (by omega) (by omega)).trans (lea_n (by omega) (by omega))) (by omega) ⟨gCT, by omega, by omega⟩ | (exfalso; omega) | exact RO.ofk (one_x (by omega)) (by omega) (by omega) (by omega) | exact RO.ofk (one_4 (by omega) (by omega)) (by omega) (by omega) (by omega) | (obtain ⟨f, e1, x1, x2⟩ := o1.no (by omega); exact RO.ofl ((one_n (by omega) (by omega)).trans e1) (by omega) x1 x2) | exact RO.ofr ((one_n (by omega) (by omega)).trans e1) (by omega) ⟨gCT, by omega, by omega⟩ | (obtain ⟨f, e2, x1, x2⟩ := o2.no (by omega); exact RO.ofl (by rw [one_o (by omega) (by omega), e2, bnd_l]) (by omega) x1 x2) | (obtain ⟨f, e3, x1, x2⟩ := o3.no (by omega); exact RO.ofl (by rw [one_o (by omega) (by omega), e2, bnd_r, e3, bnd_l]) (by omega) x1 x2) | exact RO.ofr (by rw [one_o (by omega) (by omega), e2, bnd_r, e3, bnd_r]) (by omega) ⟨gCT, by omega, by omega⟩ | (rw [one_l (by omega) (by omega) (by omega) (by omega)]; exact o4.map (fun s es h => ⟨h.1, h.2.1, by have h2 := h.2.2; have hl := lea_up es; omega⟩)) | (rw [one_l (by omega) (by omega) (by omega) (by omega)]; exact o5.map (fun s es h => ⟨h.1, h.2.1, by have h2 := h.2.2; have hl := lea_up es; omega⟩)), gWH⟩)
        by_cases c61 : (σ0 1 9).toInt = 28
        · refine lv_tableIn (off := 171) (tgt := 243) hx hb dX7_readOne_72 (by omega) (by omega) (by rw [c61]; rfl) (by decide) ?_
          refine lv_aload_n hx hb dX7_readOne_243 rfl (lv_at hl 1 rfl) ?_
          refine lv_iload_n hx hb dX7_readOne_244 rfl (lv_at hl 0 rfl) ?_
          refine r_cVi (k := 27) (As := [.int (σ0 1 9)]) (rest := []) ⟨hx, hb, hml, hown, hts⟩ hK hP hN hS (c_X7_readMeasure l D cA ad hI σ15 τ15 hR (σ0 1 9) b N mo _ (nn + 1) nm hc (tkq b N mo q) (by omega) (by omega) (by omega) (by omega) gCT gWH) (cwV 1 hts gX7_readOne_X7_readMeasure rfl rfl rfl (by decide +kernel) ⟨by decide, by decide⟩) (rv_SText hK hP (by decide) (by decide)) rfl hl.1 rfl (Nat.le_of_ble_eq_true rfl) dX7_readOne_245 (Nat.zero_le _) (Nat.zero_le _) (fun r62 u62 H62 locs62 hp62 hP hS => ?_)
          obtain ⟨σ62, τ62⟩ := u62
          obtain ⟨hR, f62, fL62, hq62, hp62_0, gnWH⟩ : P_X7_readMeasure σ15 τ15 (σ0 1 9) b N mo _ (nn + 1) nm hc (tkq b N mo q) r62 σ62 τ62 := hp62
          have o5 := hp62_0
          have hP : va_P D vwCl (gw cA ad σ62 τ62) H62 := hP
          have hFL := hFL.step fL62 (by decide)
          have gWH := gWH.agL (AgrL.fr fL62 (by decide))
          have hF := hF.step f62 (by decide)
          have gWH := gWH.ag (Agr.fr f62 (by decide))
          have t63 : (σ62 24 1).toInt = (σ15 24 1).toInt := congrArg Int32.toInt (f62.at 24 1 (by decide))
          have hr64 := rg_6_2 hR (k := 24) (by decide) (by decide)
          exact r_zret hx hb hr hK hP hS hk (by omega) dX7_readOne_248 (show P_X7_readOne_d4 σ0 τ0 a1 b N mo q nn nm hc r62 σ62 τ62 from ⟨hR, hF, hFL, by omega, by first | exact RO.ofr ((one_l (by omega) (by omega) (by omega) (by omega)).trans (lea_n (by omega) (by omega))) (by omega) ⟨gCT, by omega, by omega⟩ | (exfalso; omega) | exact RO.ofk (one_x (by omega)) (by omega) (by omega) (by omega) | exact RO.ofk (one_4 (by omega) (by omega)) (by omega) (by omega) (by omega) | (obtain ⟨f, e1, x1, x2⟩ := o1.no (by omega); exact RO.ofl ((one_n (by omega) (by omega)).trans e1) (by omega) x1 x2) | exact RO.ofr ((one_n (by omega) (by omega)).trans e1) (by omega) ⟨gCT, by omega, by omega⟩ | (obtain ⟨f, e2, x1, x2⟩ := o2.no (by omega); exact RO.ofl (by rw [one_o (by omega) (by omega), e2, bnd_l]) (by omega) x1 x2) | (obtain ⟨f, e3, x1, x2⟩ := o3.no (by omega); exact RO.ofl (by rw [one_o (by omega) (by omega), e2, bnd_r, e3, bnd_l]) (by omega) x1 x2) | exact RO.ofr (by rw [one_o (by omega) (by omega), e2, bnd_r, e3, bnd_r]) (by omega) ⟨gCT, by omega, by omega⟩ | (rw [one_l (by omega) (by omega) (by omega) (by omega)]; exact o4.map (fun s es h => ⟨h.1, h.2.1, by have h2 := h.2.2; have hl := lea_up es; omega⟩)) | (rw [one_l (by omega) (by omega) (by omega) (by omega)]; exact o5.map (fun s es h => ⟨h.1, h.2.1, by have h2 := h.2.2; have hl := lea_up es; omega⟩)), gWH⟩)
        by_cases c65 : (σ0 1 9).toInt = 29
        · refine lv_tableIn (off := 171) (tgt := 243) hx hb dX7_readOne_72 (by omega) (by omega) (by rw [c65]; rfl) (by decide) ?_
          refine lv_aload_n hx hb dX7_readOne_243 rfl (lv_at hl 1 rfl) ?_
          refine lv_iload_n hx hb dX7_readOne_244 rfl (lv_at hl 0 rfl) ?_
          refine r_cVi (k := 27) (As := [.int (σ0 1 9)]) (rest := []) ⟨hx, hb, hml, hown, hts⟩ hK hP hN hS (c_X7_readMeasure l D cA ad hI σ15 τ15 hR (σ0 1 9) b N mo _ (nn + 1) nm hc (tkq b N mo q) (by omega) (by omega) (by omega) (by omega) gCT gWH) (cwV 1 hts gX7_readOne_X7_readMeasure rfl rfl rfl (by decide +kernel) ⟨by decide, by decide⟩) (rv_SText hK hP (by decide) (by decide)) rfl hl.1 rfl (Nat.le_of_ble_eq_true rfl) dX7_readOne_245 (Nat.zero_le _) (Nat.zero_le _) (fun r66 u66 H66 locs66 hp66 hP hS => ?_)
          obtain ⟨σ66, τ66⟩ := u66
          obtain ⟨hR, f66, fL66, hq66, hp66_0, gnWH⟩ : P_X7_readMeasure σ15 τ15 (σ0 1 9) b N mo _ (nn + 1) nm hc (tkq b N mo q) r66 σ66 τ66 := hp66
          have o5 := hp66_0
          have hP : va_P D vwCl (gw cA ad σ66 τ66) H66 := hP
          have hFL := hFL.step fL66 (by decide)
          have gWH := gWH.agL (AgrL.fr fL66 (by decide))
          have hF := hF.step f66 (by decide)
          have gWH := gWH.ag (Agr.fr f66 (by decide))
          have t67 : (σ66 24 1).toInt = (σ15 24 1).toInt := congrArg Int32.toInt (f66.at 24 1 (by decide))
          have hr68 := rg_6_2 hR (k := 24) (by decide) (by decide)
          exact r_zret hx hb hr hK hP hS hk (by omega) dX7_readOne_248 (show P_X7_readOne_d4 σ0 τ0 a1 b N mo q nn nm hc r66 σ66 τ66 from ⟨hR, hF, hFL, by omega, by first | exact RO.ofr ((one_l (by omega) (by omega) (by omega) (by omega)).trans (lea_n (by omega) (by omega))) (by omega) ⟨gCT, by omega, by omega⟩ | (exfalso; omega) | exact RO.ofk (one_x (by omega)) (by omega) (by omega) (by omega) | exact RO.ofk (one_4 (by omega) (by omega)) (by omega) (by omega) (by omega) | (obtain ⟨f, e1, x1, x2⟩ := o1.no (by omega); exact RO.ofl ((one_n (by omega) (by omega)).trans e1) (by omega) x1 x2) | exact RO.ofr ((one_n (by omega) (by omega)).trans e1) (by omega) ⟨gCT, by omega, by omega⟩ | (obtain ⟨f, e2, x1, x2⟩ := o2.no (by omega); exact RO.ofl (by rw [one_o (by omega) (by omega), e2, bnd_l]) (by omega) x1 x2) | (obtain ⟨f, e3, x1, x2⟩ := o3.no (by omega); exact RO.ofl (by rw [one_o (by omega) (by omega), e2, bnd_r, e3, bnd_l]) (by omega) x1 x2) | exact RO.ofr (by rw [one_o (by omega) (by omega), e2, bnd_r, e3, bnd_r]) (by omega) ⟨gCT, by omega, by omega⟩ | (rw [one_l (by omega) (by omega) (by omega) (by omega)]; exact o4.map (fun s es h => ⟨h.1, h.2.1, by have h2 := h.2.2; have hl := lea_up es; omega⟩)) | (rw [one_l (by omega) (by omega) (by omega) (by omega)]; exact o5.map (fun s es h => ⟨h.1, h.2.1, by have h2 := h.2.2; have hl := lea_up es; omega⟩)), gWH⟩)
        by_cases c69 : (σ0 1 9).toInt = 30
        · refine lv_tableIn (off := 171) (tgt := 243) hx hb dX7_readOne_72 (by omega) (by omega) (by rw [c69]; rfl) (by decide) ?_
          refine lv_aload_n hx hb dX7_readOne_243 rfl (lv_at hl 1 rfl) ?_
          refine lv_iload_n hx hb dX7_readOne_244 rfl (lv_at hl 0 rfl) ?_
          refine r_cVi (k := 27) (As := [.int (σ0 1 9)]) (rest := []) ⟨hx, hb, hml, hown, hts⟩ hK hP hN hS (c_X7_readMeasure l D cA ad hI σ15 τ15 hR (σ0 1 9) b N mo _ (nn + 1) nm hc (tkq b N mo q) (by omega) (by omega) (by omega) (by omega) gCT gWH) (cwV 1 hts gX7_readOne_X7_readMeasure rfl rfl rfl (by decide +kernel) ⟨by decide, by decide⟩) (rv_SText hK hP (by decide) (by decide)) rfl hl.1 rfl (Nat.le_of_ble_eq_true rfl) dX7_readOne_245 (Nat.zero_le _) (Nat.zero_le _) (fun r70 u70 H70 locs70 hp70 hP hS => ?_)
          obtain ⟨σ70, τ70⟩ := u70
          obtain ⟨hR, f70, fL70, hq70, hp70_0, gnWH⟩ : P_X7_readMeasure σ15 τ15 (σ0 1 9) b N mo _ (nn + 1) nm hc (tkq b N mo q) r70 σ70 τ70 := hp70
          have o5 := hp70_0
          have hP : va_P D vwCl (gw cA ad σ70 τ70) H70 := hP
          have hFL := hFL.step fL70 (by decide)
          have gWH := gWH.agL (AgrL.fr fL70 (by decide))
          have hF := hF.step f70 (by decide)
          have gWH := gWH.ag (Agr.fr f70 (by decide))
          have t71 : (σ70 24 1).toInt = (σ15 24 1).toInt := congrArg Int32.toInt (f70.at 24 1 (by decide))
          have hr72 := rg_6_2 hR (k := 24) (by decide) (by decide)
          exact r_zret hx hb hr hK hP hS hk (by omega) dX7_readOne_248 (show P_X7_readOne_d4 σ0 τ0 a1 b N mo q nn nm hc r70 σ70 τ70 from ⟨hR, hF, hFL, by omega, by first | exact RO.ofr ((one_l (by omega) (by omega) (by omega) (by omega)).trans (lea_n (by omega) (by omega))) (by omega) ⟨gCT, by omega, by omega⟩ | (exfalso; omega) | exact RO.ofk (one_x (by omega)) (by omega) (by omega) (by omega) | exact RO.ofk (one_4 (by omega) (by omega)) (by omega) (by omega) (by omega) | (obtain ⟨f, e1, x1, x2⟩ := o1.no (by omega); exact RO.ofl ((one_n (by omega) (by omega)).trans e1) (by omega) x1 x2) | exact RO.ofr ((one_n (by omega) (by omega)).trans e1) (by omega) ⟨gCT, by omega, by omega⟩ | (obtain ⟨f, e2, x1, x2⟩ := o2.no (by omega); exact RO.ofl (by rw [one_o (by omega) (by omega), e2, bnd_l]) (by omega) x1 x2) | (obtain ⟨f, e3, x1, x2⟩ := o3.no (by omega); exact RO.ofl (by rw [one_o (by omega) (by omega), e2, bnd_r, e3, bnd_l]) (by omega) x1 x2) | exact RO.ofr (by rw [one_o (by omega) (by omega), e2, bnd_r, e3, bnd_r]) (by omega) ⟨gCT, by omega, by omega⟩ | (rw [one_l (by omega) (by omega) (by omega) (by omega)]; exact o4.map (fun s es h => ⟨h.1, h.2.1, by have h2 := h.2.2; have hl := lea_up es; omega⟩)) | (rw [one_l (by omega) (by omega) (by omega) (by omega)]; exact o5.map (fun s es h => ⟨h.1, h.2.1, by have h2 := h.2.2; have hl := lea_up es; omega⟩)), gWH⟩)
        by_cases c73 : (σ0 1 9).toInt = 31
        · refine lv_tableIn (off := 177) (tgt := 249) hx hb dX7_readOne_72 (by omega) (by omega) (by rw [c73]; rfl) (by decide) ?_
          refine lv_aload_n hx hb dX7_readOne_249 rfl (lv_at hl 1 rfl) ?_
          refine fg_7_2 (k := 27) hx hb hts in_X7_readOne_7 hown hK hP (by decide) (by decide) (hts _ lk_X7_readOne_19) dX7_readOne_250 ?_
          refine lv_iload_n hx hb dX7_readOne_253 rfl (lv_at hl 0 rfl) ?_
          refine r_bipush hx hb dX7_readOne_254 (by decide) (fun z74 ez74 => ?_)
          refine r_iconst hx hb dX7_readOne_256 (by decide) (fun z75 ez75 => ?_)
          refine r_cVi (k := 24) (As := [.int (σ0 1 9), .int z74, .int z75]) (rest := []) ⟨hx, hb, hml, hown, hts⟩ hK hP hN hS (c_X6_add l D cA ad hI σ15 τ15 hR (σ0 1 9) z74 z75 (by omega)) (cwV 3 hts gX7_readOne_X6_add rfl rfl rfl (by decide +kernel) ⟨by decide, by decide⟩) (rv_Sent hK hP (by decide) (by decide)) rfl hl.1 rfl (Nat.le_of_ble_eq_true rfl) dX7_readOne_257 (Nat.zero_le _) (Nat.zero_le _) (fun r76 u76 H76 locs76 hp76 hP hS => ?_)
          obtain ⟨σ76, τ76⟩ := u76
          obtain ⟨hR, f76, fL76, hq76, hp76_0⟩ : P_X6_add σ15 τ15 (σ0 1 9) z74 z75 r76 σ76 τ76 := hp76
          have hP : va_P D vwCl (gw cA ad σ76 τ76) H76 := hP
          obtain rfl := FrL.nil fL76
          have hF := hF.step f76 (by decide)
          have gCT := gCT.ag (Agr.fr f76 (by decide))
          have gWH := gWH.ag (Agr.fr f76 (by decide))
          have t77 : (σ76 24 1).toInt = (σ15 24 1).toInt := congrArg Int32.toInt (f76.at 24 1 (by decide))
          have hr78 := rg_6_2 hR (k := 24) (by decide) (by decide)
          exact r_zret hx hb hr hK hP hS hk (by omega) dX7_readOne_260 (show P_X7_readOne_d4 σ0 τ0 a1 b N mo q nn nm hc r76 σ76 τ15 from ⟨hR, hF, hFL, by omega, by first | exact RO.ofr ((one_l (by omega) (by omega) (by omega) (by omega)).trans (lea_n (by omega) (by omega))) (by omega) ⟨gCT, by omega, by omega⟩ | (exfalso; omega) | exact RO.ofk (one_x (by omega)) (by omega) (by omega) (by omega) | exact RO.ofk (one_4 (by omega) (by omega)) (by omega) (by omega) (by omega) | (obtain ⟨f, e1, x1, x2⟩ := o1.no (by omega); exact RO.ofl ((one_n (by omega) (by omega)).trans e1) (by omega) x1 x2) | exact RO.ofr ((one_n (by omega) (by omega)).trans e1) (by omega) ⟨gCT, by omega, by omega⟩ | (obtain ⟨f, e2, x1, x2⟩ := o2.no (by omega); exact RO.ofl (by rw [one_o (by omega) (by omega), e2, bnd_l]) (by omega) x1 x2) | (obtain ⟨f, e3, x1, x2⟩ := o3.no (by omega); exact RO.ofl (by rw [one_o (by omega) (by omega), e2, bnd_r, e3, bnd_l]) (by omega) x1 x2) | exact RO.ofr (by rw [one_o (by omega) (by omega), e2, bnd_r, e3, bnd_r]) (by omega) ⟨gCT, by omega, by omega⟩ | (rw [one_l (by omega) (by omega) (by omega) (by omega)]; exact o4.map (fun s es h => ⟨h.1, h.2.1, by have h2 := h.2.2; have hl := lea_up es; omega⟩)) | (rw [one_l (by omega) (by omega) (by omega) (by omega)]; exact o5.map (fun s es h => ⟨h.1, h.2.1, by have h2 := h.2.2; have hl := lea_up es; omega⟩)), gWH⟩)
        by_cases c79 : (σ0 1 9).toInt = 32
        · refine lv_tableIn (off := 177) (tgt := 249) hx hb dX7_readOne_72 (by omega) (by omega) (by rw [c79]; rfl) (by decide) ?_
          refine lv_aload_n hx hb dX7_readOne_249 rfl (lv_at hl 1 rfl) ?_
          refine fg_7_2 (k := 27) hx hb hts in_X7_readOne_7 hown hK hP (by decide) (by decide) (hts _ lk_X7_readOne_19) dX7_readOne_250 ?_
          refine lv_iload_n hx hb dX7_readOne_253 rfl (lv_at hl 0 rfl) ?_
          refine r_bipush hx hb dX7_readOne_254 (by decide) (fun z80 ez80 => ?_)
          refine r_iconst hx hb dX7_readOne_256 (by decide) (fun z81 ez81 => ?_)
          refine r_cVi (k := 24) (As := [.int (σ0 1 9), .int z80, .int z81]) (rest := []) ⟨hx, hb, hml, hown, hts⟩ hK hP hN hS (c_X6_add l D cA ad hI σ15 τ15 hR (σ0 1 9) z80 z81 (by omega)) (cwV 3 hts gX7_readOne_X6_add rfl rfl rfl (by decide +kernel) ⟨by decide, by decide⟩) (rv_Sent hK hP (by decide) (by decide)) rfl hl.1 rfl (Nat.le_of_ble_eq_true rfl) dX7_readOne_257 (Nat.zero_le _) (Nat.zero_le _) (fun r82 u82 H82 locs82 hp82 hP hS => ?_)
          obtain ⟨σ82, τ82⟩ := u82
          obtain ⟨hR, f82, fL82, hq82, hp82_0⟩ : P_X6_add σ15 τ15 (σ0 1 9) z80 z81 r82 σ82 τ82 := hp82
          have hP : va_P D vwCl (gw cA ad σ82 τ82) H82 := hP
          obtain rfl := FrL.nil fL82
          have hF := hF.step f82 (by decide)
          have gCT := gCT.ag (Agr.fr f82 (by decide))
          have gWH := gWH.ag (Agr.fr f82 (by decide))
          have t83 : (σ82 24 1).toInt = (σ15 24 1).toInt := congrArg Int32.toInt (f82.at 24 1 (by decide))
          have hr84 := rg_6_2 hR (k := 24) (by decide) (by decide)
          exact r_zret hx hb hr hK hP hS hk (by omega) dX7_readOne_260 (show P_X7_readOne_d4 σ0 τ0 a1 b N mo q nn nm hc r82 σ82 τ15 from ⟨hR, hF, hFL, by omega, by first | exact RO.ofr ((one_l (by omega) (by omega) (by omega) (by omega)).trans (lea_n (by omega) (by omega))) (by omega) ⟨gCT, by omega, by omega⟩ | (exfalso; omega) | exact RO.ofk (one_x (by omega)) (by omega) (by omega) (by omega) | exact RO.ofk (one_4 (by omega) (by omega)) (by omega) (by omega) (by omega) | (obtain ⟨f, e1, x1, x2⟩ := o1.no (by omega); exact RO.ofl ((one_n (by omega) (by omega)).trans e1) (by omega) x1 x2) | exact RO.ofr ((one_n (by omega) (by omega)).trans e1) (by omega) ⟨gCT, by omega, by omega⟩ | (obtain ⟨f, e2, x1, x2⟩ := o2.no (by omega); exact RO.ofl (by rw [one_o (by omega) (by omega), e2, bnd_l]) (by omega) x1 x2) | (obtain ⟨f, e3, x1, x2⟩ := o3.no (by omega); exact RO.ofl (by rw [one_o (by omega) (by omega), e2, bnd_r, e3, bnd_l]) (by omega) x1 x2) | exact RO.ofr (by rw [one_o (by omega) (by omega), e2, bnd_r, e3, bnd_r]) (by omega) ⟨gCT, by omega, by omega⟩ | (rw [one_l (by omega) (by omega) (by omega) (by omega)]; exact o4.map (fun s es h => ⟨h.1, h.2.1, by have h2 := h.2.2; have hl := lea_up es; omega⟩)) | (rw [one_l (by omega) (by omega) (by omega) (by omega)]; exact o5.map (fun s es h => ⟨h.1, h.2.1, by have h2 := h.2.2; have hl := lea_up es; omega⟩)), gWH⟩)
        by_cases c85 : (σ0 1 9).toInt = 33
        · refine lv_tableIn (off := 177) (tgt := 249) hx hb dX7_readOne_72 (by omega) (by omega) (by rw [c85]; rfl) (by decide) ?_
          refine lv_aload_n hx hb dX7_readOne_249 rfl (lv_at hl 1 rfl) ?_
          refine fg_7_2 (k := 27) hx hb hts in_X7_readOne_7 hown hK hP (by decide) (by decide) (hts _ lk_X7_readOne_19) dX7_readOne_250 ?_
          refine lv_iload_n hx hb dX7_readOne_253 rfl (lv_at hl 0 rfl) ?_
          refine r_bipush hx hb dX7_readOne_254 (by decide) (fun z86 ez86 => ?_)
          refine r_iconst hx hb dX7_readOne_256 (by decide) (fun z87 ez87 => ?_)
          refine r_cVi (k := 24) (As := [.int (σ0 1 9), .int z86, .int z87]) (rest := []) ⟨hx, hb, hml, hown, hts⟩ hK hP hN hS (c_X6_add l D cA ad hI σ15 τ15 hR (σ0 1 9) z86 z87 (by omega)) (cwV 3 hts gX7_readOne_X6_add rfl rfl rfl (by decide +kernel) ⟨by decide, by decide⟩) (rv_Sent hK hP (by decide) (by decide)) rfl hl.1 rfl (Nat.le_of_ble_eq_true rfl) dX7_readOne_257 (Nat.zero_le _) (Nat.zero_le _) (fun r88 u88 H88 locs88 hp88 hP hS => ?_)
          obtain ⟨σ88, τ88⟩ := u88
          obtain ⟨hR, f88, fL88, hq88, hp88_0⟩ : P_X6_add σ15 τ15 (σ0 1 9) z86 z87 r88 σ88 τ88 := hp88
          have hP : va_P D vwCl (gw cA ad σ88 τ88) H88 := hP
          obtain rfl := FrL.nil fL88
          have hF := hF.step f88 (by decide)
          have gCT := gCT.ag (Agr.fr f88 (by decide))
          have gWH := gWH.ag (Agr.fr f88 (by decide))
          have t89 : (σ88 24 1).toInt = (σ15 24 1).toInt := congrArg Int32.toInt (f88.at 24 1 (by decide))
          have hr90 := rg_6_2 hR (k := 24) (by decide) (by decide)
          exact r_zret hx hb hr hK hP hS hk (by omega) dX7_readOne_260 (show P_X7_readOne_d4 σ0 τ0 a1 b N mo q nn nm hc r88 σ88 τ15 from ⟨hR, hF, hFL, by omega, by first | exact RO.ofr ((one_l (by omega) (by omega) (by omega) (by omega)).trans (lea_n (by omega) (by omega))) (by omega) ⟨gCT, by omega, by omega⟩ | (exfalso; omega) | exact RO.ofk (one_x (by omega)) (by omega) (by omega) (by omega) | exact RO.ofk (one_4 (by omega) (by omega)) (by omega) (by omega) (by omega) | (obtain ⟨f, e1, x1, x2⟩ := o1.no (by omega); exact RO.ofl ((one_n (by omega) (by omega)).trans e1) (by omega) x1 x2) | exact RO.ofr ((one_n (by omega) (by omega)).trans e1) (by omega) ⟨gCT, by omega, by omega⟩ | (obtain ⟨f, e2, x1, x2⟩ := o2.no (by omega); exact RO.ofl (by rw [one_o (by omega) (by omega), e2, bnd_l]) (by omega) x1 x2) | (obtain ⟨f, e3, x1, x2⟩ := o3.no (by omega); exact RO.ofl (by rw [one_o (by omega) (by omega), e2, bnd_r, e3, bnd_l]) (by omega) x1 x2) | exact RO.ofr (by rw [one_o (by omega) (by omega), e2, bnd_r, e3, bnd_r]) (by omega) ⟨gCT, by omega, by omega⟩ | (rw [one_l (by omega) (by omega) (by omega) (by omega)]; exact o4.map (fun s es h => ⟨h.1, h.2.1, by have h2 := h.2.2; have hl := lea_up es; omega⟩)) | (rw [one_l (by omega) (by omega) (by omega) (by omega)]; exact o5.map (fun s es h => ⟨h.1, h.2.1, by have h2 := h.2.2; have hl := lea_up es; omega⟩)), gWH⟩)
        by_cases c91 : (σ0 1 9).toInt = 34
        · refine lv_tableIn (off := 177) (tgt := 249) hx hb dX7_readOne_72 (by omega) (by omega) (by rw [c91]; rfl) (by decide) ?_
          refine lv_aload_n hx hb dX7_readOne_249 rfl (lv_at hl 1 rfl) ?_
          refine fg_7_2 (k := 27) hx hb hts in_X7_readOne_7 hown hK hP (by decide) (by decide) (hts _ lk_X7_readOne_19) dX7_readOne_250 ?_
          refine lv_iload_n hx hb dX7_readOne_253 rfl (lv_at hl 0 rfl) ?_
          refine r_bipush hx hb dX7_readOne_254 (by decide) (fun z92 ez92 => ?_)
          refine r_iconst hx hb dX7_readOne_256 (by decide) (fun z93 ez93 => ?_)
          refine r_cVi (k := 24) (As := [.int (σ0 1 9), .int z92, .int z93]) (rest := []) ⟨hx, hb, hml, hown, hts⟩ hK hP hN hS (c_X6_add l D cA ad hI σ15 τ15 hR (σ0 1 9) z92 z93 (by omega)) (cwV 3 hts gX7_readOne_X6_add rfl rfl rfl (by decide +kernel) ⟨by decide, by decide⟩) (rv_Sent hK hP (by decide) (by decide)) rfl hl.1 rfl (Nat.le_of_ble_eq_true rfl) dX7_readOne_257 (Nat.zero_le _) (Nat.zero_le _) (fun r94 u94 H94 locs94 hp94 hP hS => ?_)
          obtain ⟨σ94, τ94⟩ := u94
          obtain ⟨hR, f94, fL94, hq94, hp94_0⟩ : P_X6_add σ15 τ15 (σ0 1 9) z92 z93 r94 σ94 τ94 := hp94
          have hP : va_P D vwCl (gw cA ad σ94 τ94) H94 := hP
          obtain rfl := FrL.nil fL94
          have hF := hF.step f94 (by decide)
          have gCT := gCT.ag (Agr.fr f94 (by decide))
          have gWH := gWH.ag (Agr.fr f94 (by decide))
          have t95 : (σ94 24 1).toInt = (σ15 24 1).toInt := congrArg Int32.toInt (f94.at 24 1 (by decide))
          have hr96 := rg_6_2 hR (k := 24) (by decide) (by decide)
          exact r_zret hx hb hr hK hP hS hk (by omega) dX7_readOne_260 (show P_X7_readOne_d4 σ0 τ0 a1 b N mo q nn nm hc r94 σ94 τ15 from ⟨hR, hF, hFL, by omega, by first | exact RO.ofr ((one_l (by omega) (by omega) (by omega) (by omega)).trans (lea_n (by omega) (by omega))) (by omega) ⟨gCT, by omega, by omega⟩ | (exfalso; omega) | exact RO.ofk (one_x (by omega)) (by omega) (by omega) (by omega) | exact RO.ofk (one_4 (by omega) (by omega)) (by omega) (by omega) (by omega) | (obtain ⟨f, e1, x1, x2⟩ := o1.no (by omega); exact RO.ofl ((one_n (by omega) (by omega)).trans e1) (by omega) x1 x2) | exact RO.ofr ((one_n (by omega) (by omega)).trans e1) (by omega) ⟨gCT, by omega, by omega⟩ | (obtain ⟨f, e2, x1, x2⟩ := o2.no (by omega); exact RO.ofl (by rw [one_o (by omega) (by omega), e2, bnd_l]) (by omega) x1 x2) | (obtain ⟨f, e3, x1, x2⟩ := o3.no (by omega); exact RO.ofl (by rw [one_o (by omega) (by omega), e2, bnd_r, e3, bnd_l]) (by omega) x1 x2) | exact RO.ofr (by rw [one_o (by omega) (by omega), e2, bnd_r, e3, bnd_r]) (by omega) ⟨gCT, by omega, by omega⟩ | (rw [one_l (by omega) (by omega) (by omega) (by omega)]; exact o4.map (fun s es h => ⟨h.1, h.2.1, by have h2 := h.2.2; have hl := lea_up es; omega⟩)) | (rw [one_l (by omega) (by omega) (by omega) (by omega)]; exact o5.map (fun s es h => ⟨h.1, h.2.1, by have h2 := h.2.2; have hl := lea_up es; omega⟩)), gWH⟩)
        by_cases c97 : (σ0 1 9).toInt = 35
        · refine lv_tableIn (off := 177) (tgt := 249) hx hb dX7_readOne_72 (by omega) (by omega) (by rw [c97]; rfl) (by decide) ?_
          refine lv_aload_n hx hb dX7_readOne_249 rfl (lv_at hl 1 rfl) ?_
          refine fg_7_2 (k := 27) hx hb hts in_X7_readOne_7 hown hK hP (by decide) (by decide) (hts _ lk_X7_readOne_19) dX7_readOne_250 ?_
          refine lv_iload_n hx hb dX7_readOne_253 rfl (lv_at hl 0 rfl) ?_
          refine r_bipush hx hb dX7_readOne_254 (by decide) (fun z98 ez98 => ?_)
          refine r_iconst hx hb dX7_readOne_256 (by decide) (fun z99 ez99 => ?_)
          refine r_cVi (k := 24) (As := [.int (σ0 1 9), .int z98, .int z99]) (rest := []) ⟨hx, hb, hml, hown, hts⟩ hK hP hN hS (c_X6_add l D cA ad hI σ15 τ15 hR (σ0 1 9) z98 z99 (by omega)) (cwV 3 hts gX7_readOne_X6_add rfl rfl rfl (by decide +kernel) ⟨by decide, by decide⟩) (rv_Sent hK hP (by decide) (by decide)) rfl hl.1 rfl (Nat.le_of_ble_eq_true rfl) dX7_readOne_257 (Nat.zero_le _) (Nat.zero_le _) (fun r100 u100 H100 locs100 hp100 hP hS => ?_)
          obtain ⟨σ100, τ100⟩ := u100
          obtain ⟨hR, f100, fL100, hq100, hp100_0⟩ : P_X6_add σ15 τ15 (σ0 1 9) z98 z99 r100 σ100 τ100 := hp100
          have hP : va_P D vwCl (gw cA ad σ100 τ100) H100 := hP
          obtain rfl := FrL.nil fL100
          have hF := hF.step f100 (by decide)
          have gCT := gCT.ag (Agr.fr f100 (by decide))
          have gWH := gWH.ag (Agr.fr f100 (by decide))
          have t101 : (σ100 24 1).toInt = (σ15 24 1).toInt := congrArg Int32.toInt (f100.at 24 1 (by decide))
          have hr102 := rg_6_2 hR (k := 24) (by decide) (by decide)
          exact r_zret hx hb hr hK hP hS hk (by omega) dX7_readOne_260 (show P_X7_readOne_d4 σ0 τ0 a1 b N mo q nn nm hc r100 σ100 τ15 from ⟨hR, hF, hFL, by omega, by first | exact RO.ofr ((one_l (by omega) (by omega) (by omega) (by omega)).trans (lea_n (by omega) (by omega))) (by omega) ⟨gCT, by omega, by omega⟩ | (exfalso; omega) | exact RO.ofk (one_x (by omega)) (by omega) (by omega) (by omega) | exact RO.ofk (one_4 (by omega) (by omega)) (by omega) (by omega) (by omega) | (obtain ⟨f, e1, x1, x2⟩ := o1.no (by omega); exact RO.ofl ((one_n (by omega) (by omega)).trans e1) (by omega) x1 x2) | exact RO.ofr ((one_n (by omega) (by omega)).trans e1) (by omega) ⟨gCT, by omega, by omega⟩ | (obtain ⟨f, e2, x1, x2⟩ := o2.no (by omega); exact RO.ofl (by rw [one_o (by omega) (by omega), e2, bnd_l]) (by omega) x1 x2) | (obtain ⟨f, e3, x1, x2⟩ := o3.no (by omega); exact RO.ofl (by rw [one_o (by omega) (by omega), e2, bnd_r, e3, bnd_l]) (by omega) x1 x2) | exact RO.ofr (by rw [one_o (by omega) (by omega), e2, bnd_r, e3, bnd_r]) (by omega) ⟨gCT, by omega, by omega⟩ | (rw [one_l (by omega) (by omega) (by omega) (by omega)]; exact o4.map (fun s es h => ⟨h.1, h.2.1, by have h2 := h.2.2; have hl := lea_up es; omega⟩)) | (rw [one_l (by omega) (by omega) (by omega) (by omega)]; exact o5.map (fun s es h => ⟨h.1, h.2.1, by have h2 := h.2.2; have hl := lea_up es; omega⟩)), gWH⟩)
        by_cases c103 : (σ0 1 9).toInt = 36
        · refine lv_tableIn (off := 177) (tgt := 249) hx hb dX7_readOne_72 (by omega) (by omega) (by rw [c103]; rfl) (by decide) ?_
          refine lv_aload_n hx hb dX7_readOne_249 rfl (lv_at hl 1 rfl) ?_
          refine fg_7_2 (k := 27) hx hb hts in_X7_readOne_7 hown hK hP (by decide) (by decide) (hts _ lk_X7_readOne_19) dX7_readOne_250 ?_
          refine lv_iload_n hx hb dX7_readOne_253 rfl (lv_at hl 0 rfl) ?_
          refine r_bipush hx hb dX7_readOne_254 (by decide) (fun z104 ez104 => ?_)
          refine r_iconst hx hb dX7_readOne_256 (by decide) (fun z105 ez105 => ?_)
          refine r_cVi (k := 24) (As := [.int (σ0 1 9), .int z104, .int z105]) (rest := []) ⟨hx, hb, hml, hown, hts⟩ hK hP hN hS (c_X6_add l D cA ad hI σ15 τ15 hR (σ0 1 9) z104 z105 (by omega)) (cwV 3 hts gX7_readOne_X6_add rfl rfl rfl (by decide +kernel) ⟨by decide, by decide⟩) (rv_Sent hK hP (by decide) (by decide)) rfl hl.1 rfl (Nat.le_of_ble_eq_true rfl) dX7_readOne_257 (Nat.zero_le _) (Nat.zero_le _) (fun r106 u106 H106 locs106 hp106 hP hS => ?_)
          obtain ⟨σ106, τ106⟩ := u106
          obtain ⟨hR, f106, fL106, hq106, hp106_0⟩ : P_X6_add σ15 τ15 (σ0 1 9) z104 z105 r106 σ106 τ106 := hp106
          have hP : va_P D vwCl (gw cA ad σ106 τ106) H106 := hP
          obtain rfl := FrL.nil fL106
          have hF := hF.step f106 (by decide)
          have gCT := gCT.ag (Agr.fr f106 (by decide))
          have gWH := gWH.ag (Agr.fr f106 (by decide))
          have t107 : (σ106 24 1).toInt = (σ15 24 1).toInt := congrArg Int32.toInt (f106.at 24 1 (by decide))
          have hr108 := rg_6_2 hR (k := 24) (by decide) (by decide)
          exact r_zret hx hb hr hK hP hS hk (by omega) dX7_readOne_260 (show P_X7_readOne_d4 σ0 τ0 a1 b N mo q nn nm hc r106 σ106 τ15 from ⟨hR, hF, hFL, by omega, by first | exact RO.ofr ((one_l (by omega) (by omega) (by omega) (by omega)).trans (lea_n (by omega) (by omega))) (by omega) ⟨gCT, by omega, by omega⟩ | (exfalso; omega) | exact RO.ofk (one_x (by omega)) (by omega) (by omega) (by omega) | exact RO.ofk (one_4 (by omega) (by omega)) (by omega) (by omega) (by omega) | (obtain ⟨f, e1, x1, x2⟩ := o1.no (by omega); exact RO.ofl ((one_n (by omega) (by omega)).trans e1) (by omega) x1 x2) | exact RO.ofr ((one_n (by omega) (by omega)).trans e1) (by omega) ⟨gCT, by omega, by omega⟩ | (obtain ⟨f, e2, x1, x2⟩ := o2.no (by omega); exact RO.ofl (by rw [one_o (by omega) (by omega), e2, bnd_l]) (by omega) x1 x2) | (obtain ⟨f, e3, x1, x2⟩ := o3.no (by omega); exact RO.ofl (by rw [one_o (by omega) (by omega), e2, bnd_r, e3, bnd_l]) (by omega) x1 x2) | exact RO.ofr (by rw [one_o (by omega) (by omega), e2, bnd_r, e3, bnd_r]) (by omega) ⟨gCT, by omega, by omega⟩ | (rw [one_l (by omega) (by omega) (by omega) (by omega)]; exact o4.map (fun s es h => ⟨h.1, h.2.1, by have h2 := h.2.2; have hl := lea_up es; omega⟩)) | (rw [one_l (by omega) (by omega) (by omega) (by omega)]; exact o5.map (fun s es h => ⟨h.1, h.2.1, by have h2 := h.2.2; have hl := lea_up es; omega⟩)), gWH⟩)
        by_cases c109 : (σ0 1 9).toInt = 37
        · refine lv_tableIn (off := 177) (tgt := 249) hx hb dX7_readOne_72 (by omega) (by omega) (by rw [c109]; rfl) (by decide) ?_
          refine lv_aload_n hx hb dX7_readOne_249 rfl (lv_at hl 1 rfl) ?_
          refine fg_7_2 (k := 27) hx hb hts in_X7_readOne_7 hown hK hP (by decide) (by decide) (hts _ lk_X7_readOne_19) dX7_readOne_250 ?_
          refine lv_iload_n hx hb dX7_readOne_253 rfl (lv_at hl 0 rfl) ?_
          refine r_bipush hx hb dX7_readOne_254 (by decide) (fun z110 ez110 => ?_)
          refine r_iconst hx hb dX7_readOne_256 (by decide) (fun z111 ez111 => ?_)
          refine r_cVi (k := 24) (As := [.int (σ0 1 9), .int z110, .int z111]) (rest := []) ⟨hx, hb, hml, hown, hts⟩ hK hP hN hS (c_X6_add l D cA ad hI σ15 τ15 hR (σ0 1 9) z110 z111 (by omega)) (cwV 3 hts gX7_readOne_X6_add rfl rfl rfl (by decide +kernel) ⟨by decide, by decide⟩) (rv_Sent hK hP (by decide) (by decide)) rfl hl.1 rfl (Nat.le_of_ble_eq_true rfl) dX7_readOne_257 (Nat.zero_le _) (Nat.zero_le _) (fun r112 u112 H112 locs112 hp112 hP hS => ?_)
          obtain ⟨σ112, τ112⟩ := u112
          obtain ⟨hR, f112, fL112, hq112, hp112_0⟩ : P_X6_add σ15 τ15 (σ0 1 9) z110 z111 r112 σ112 τ112 := hp112
          have hP : va_P D vwCl (gw cA ad σ112 τ112) H112 := hP
          obtain rfl := FrL.nil fL112
          have hF := hF.step f112 (by decide)
          have gCT := gCT.ag (Agr.fr f112 (by decide))
          have gWH := gWH.ag (Agr.fr f112 (by decide))
          have t113 : (σ112 24 1).toInt = (σ15 24 1).toInt := congrArg Int32.toInt (f112.at 24 1 (by decide))
          have hr114 := rg_6_2 hR (k := 24) (by decide) (by decide)
          exact r_zret hx hb hr hK hP hS hk (by omega) dX7_readOne_260 (show P_X7_readOne_d4 σ0 τ0 a1 b N mo q nn nm hc r112 σ112 τ15 from ⟨hR, hF, hFL, by omega, by first | exact RO.ofr ((one_l (by omega) (by omega) (by omega) (by omega)).trans (lea_n (by omega) (by omega))) (by omega) ⟨gCT, by omega, by omega⟩ | (exfalso; omega) | exact RO.ofk (one_x (by omega)) (by omega) (by omega) (by omega) | exact RO.ofk (one_4 (by omega) (by omega)) (by omega) (by omega) (by omega) | (obtain ⟨f, e1, x1, x2⟩ := o1.no (by omega); exact RO.ofl ((one_n (by omega) (by omega)).trans e1) (by omega) x1 x2) | exact RO.ofr ((one_n (by omega) (by omega)).trans e1) (by omega) ⟨gCT, by omega, by omega⟩ | (obtain ⟨f, e2, x1, x2⟩ := o2.no (by omega); exact RO.ofl (by rw [one_o (by omega) (by omega), e2, bnd_l]) (by omega) x1 x2) | (obtain ⟨f, e3, x1, x2⟩ := o3.no (by omega); exact RO.ofl (by rw [one_o (by omega) (by omega), e2, bnd_r, e3, bnd_l]) (by omega) x1 x2) | exact RO.ofr (by rw [one_o (by omega) (by omega), e2, bnd_r, e3, bnd_r]) (by omega) ⟨gCT, by omega, by omega⟩ | (rw [one_l (by omega) (by omega) (by omega) (by omega)]; exact o4.map (fun s es h => ⟨h.1, h.2.1, by have h2 := h.2.2; have hl := lea_up es; omega⟩)) | (rw [one_l (by omega) (by omega) (by omega) (by omega)]; exact o5.map (fun s es h => ⟨h.1, h.2.1, by have h2 := h.2.2; have hl := lea_up es; omega⟩)), gWH⟩)
        by_cases c115 : (σ0 1 9).toInt = 38
        · refine lv_tableIn (off := 177) (tgt := 249) hx hb dX7_readOne_72 (by omega) (by omega) (by rw [c115]; rfl) (by decide) ?_
          refine lv_aload_n hx hb dX7_readOne_249 rfl (lv_at hl 1 rfl) ?_
          refine fg_7_2 (k := 27) hx hb hts in_X7_readOne_7 hown hK hP (by decide) (by decide) (hts _ lk_X7_readOne_19) dX7_readOne_250 ?_
          refine lv_iload_n hx hb dX7_readOne_253 rfl (lv_at hl 0 rfl) ?_
          refine r_bipush hx hb dX7_readOne_254 (by decide) (fun z116 ez116 => ?_)
          refine r_iconst hx hb dX7_readOne_256 (by decide) (fun z117 ez117 => ?_)
          refine r_cVi (k := 24) (As := [.int (σ0 1 9), .int z116, .int z117]) (rest := []) ⟨hx, hb, hml, hown, hts⟩ hK hP hN hS (c_X6_add l D cA ad hI σ15 τ15 hR (σ0 1 9) z116 z117 (by omega)) (cwV 3 hts gX7_readOne_X6_add rfl rfl rfl (by decide +kernel) ⟨by decide, by decide⟩) (rv_Sent hK hP (by decide) (by decide)) rfl hl.1 rfl (Nat.le_of_ble_eq_true rfl) dX7_readOne_257 (Nat.zero_le _) (Nat.zero_le _) (fun r118 u118 H118 locs118 hp118 hP hS => ?_)
          obtain ⟨σ118, τ118⟩ := u118
          obtain ⟨hR, f118, fL118, hq118, hp118_0⟩ : P_X6_add σ15 τ15 (σ0 1 9) z116 z117 r118 σ118 τ118 := hp118
          have hP : va_P D vwCl (gw cA ad σ118 τ118) H118 := hP
          obtain rfl := FrL.nil fL118
          have hF := hF.step f118 (by decide)
          have gCT := gCT.ag (Agr.fr f118 (by decide))
          have gWH := gWH.ag (Agr.fr f118 (by decide))
          have t119 : (σ118 24 1).toInt = (σ15 24 1).toInt := congrArg Int32.toInt (f118.at 24 1 (by decide))
          have hr120 := rg_6_2 hR (k := 24) (by decide) (by decide)
          exact r_zret hx hb hr hK hP hS hk (by omega) dX7_readOne_260 (show P_X7_readOne_d4 σ0 τ0 a1 b N mo q nn nm hc r118 σ118 τ15 from ⟨hR, hF, hFL, by omega, by first | exact RO.ofr ((one_l (by omega) (by omega) (by omega) (by omega)).trans (lea_n (by omega) (by omega))) (by omega) ⟨gCT, by omega, by omega⟩ | (exfalso; omega) | exact RO.ofk (one_x (by omega)) (by omega) (by omega) (by omega) | exact RO.ofk (one_4 (by omega) (by omega)) (by omega) (by omega) (by omega) | (obtain ⟨f, e1, x1, x2⟩ := o1.no (by omega); exact RO.ofl ((one_n (by omega) (by omega)).trans e1) (by omega) x1 x2) | exact RO.ofr ((one_n (by omega) (by omega)).trans e1) (by omega) ⟨gCT, by omega, by omega⟩ | (obtain ⟨f, e2, x1, x2⟩ := o2.no (by omega); exact RO.ofl (by rw [one_o (by omega) (by omega), e2, bnd_l]) (by omega) x1 x2) | (obtain ⟨f, e3, x1, x2⟩ := o3.no (by omega); exact RO.ofl (by rw [one_o (by omega) (by omega), e2, bnd_r, e3, bnd_l]) (by omega) x1 x2) | exact RO.ofr (by rw [one_o (by omega) (by omega), e2, bnd_r, e3, bnd_r]) (by omega) ⟨gCT, by omega, by omega⟩ | (rw [one_l (by omega) (by omega) (by omega) (by omega)]; exact o4.map (fun s es h => ⟨h.1, h.2.1, by have h2 := h.2.2; have hl := lea_up es; omega⟩)) | (rw [one_l (by omega) (by omega) (by omega) (by omega)]; exact o5.map (fun s es h => ⟨h.1, h.2.1, by have h2 := h.2.2; have hl := lea_up es; omega⟩)), gWH⟩)
        by_cases c121 : (σ0 1 9).toInt = 39
        · refine lv_tableIn (off := 177) (tgt := 249) hx hb dX7_readOne_72 (by omega) (by omega) (by rw [c121]; rfl) (by decide) ?_
          refine lv_aload_n hx hb dX7_readOne_249 rfl (lv_at hl 1 rfl) ?_
          refine fg_7_2 (k := 27) hx hb hts in_X7_readOne_7 hown hK hP (by decide) (by decide) (hts _ lk_X7_readOne_19) dX7_readOne_250 ?_
          refine lv_iload_n hx hb dX7_readOne_253 rfl (lv_at hl 0 rfl) ?_
          refine r_bipush hx hb dX7_readOne_254 (by decide) (fun z122 ez122 => ?_)
          refine r_iconst hx hb dX7_readOne_256 (by decide) (fun z123 ez123 => ?_)
          refine r_cVi (k := 24) (As := [.int (σ0 1 9), .int z122, .int z123]) (rest := []) ⟨hx, hb, hml, hown, hts⟩ hK hP hN hS (c_X6_add l D cA ad hI σ15 τ15 hR (σ0 1 9) z122 z123 (by omega)) (cwV 3 hts gX7_readOne_X6_add rfl rfl rfl (by decide +kernel) ⟨by decide, by decide⟩) (rv_Sent hK hP (by decide) (by decide)) rfl hl.1 rfl (Nat.le_of_ble_eq_true rfl) dX7_readOne_257 (Nat.zero_le _) (Nat.zero_le _) (fun r124 u124 H124 locs124 hp124 hP hS => ?_)
          obtain ⟨σ124, τ124⟩ := u124
          obtain ⟨hR, f124, fL124, hq124, hp124_0⟩ : P_X6_add σ15 τ15 (σ0 1 9) z122 z123 r124 σ124 τ124 := hp124
          have hP : va_P D vwCl (gw cA ad σ124 τ124) H124 := hP
          obtain rfl := FrL.nil fL124
          have hF := hF.step f124 (by decide)
          have gCT := gCT.ag (Agr.fr f124 (by decide))
          have gWH := gWH.ag (Agr.fr f124 (by decide))
          have t125 : (σ124 24 1).toInt = (σ15 24 1).toInt := congrArg Int32.toInt (f124.at 24 1 (by decide))
          have hr126 := rg_6_2 hR (k := 24) (by decide) (by decide)
          exact r_zret hx hb hr hK hP hS hk (by omega) dX7_readOne_260 (show P_X7_readOne_d4 σ0 τ0 a1 b N mo q nn nm hc r124 σ124 τ15 from ⟨hR, hF, hFL, by omega, by first | exact RO.ofr ((one_l (by omega) (by omega) (by omega) (by omega)).trans (lea_n (by omega) (by omega))) (by omega) ⟨gCT, by omega, by omega⟩ | (exfalso; omega) | exact RO.ofk (one_x (by omega)) (by omega) (by omega) (by omega) | exact RO.ofk (one_4 (by omega) (by omega)) (by omega) (by omega) (by omega) | (obtain ⟨f, e1, x1, x2⟩ := o1.no (by omega); exact RO.ofl ((one_n (by omega) (by omega)).trans e1) (by omega) x1 x2) | exact RO.ofr ((one_n (by omega) (by omega)).trans e1) (by omega) ⟨gCT, by omega, by omega⟩ | (obtain ⟨f, e2, x1, x2⟩ := o2.no (by omega); exact RO.ofl (by rw [one_o (by omega) (by omega), e2, bnd_l]) (by omega) x1 x2) | (obtain ⟨f, e3, x1, x2⟩ := o3.no (by omega); exact RO.ofl (by rw [one_o (by omega) (by omega), e2, bnd_r, e3, bnd_l]) (by omega) x1 x2) | exact RO.ofr (by rw [one_o (by omega) (by omega), e2, bnd_r, e3, bnd_r]) (by omega) ⟨gCT, by omega, by omega⟩ | (rw [one_l (by omega) (by omega) (by omega) (by omega)]; exact o4.map (fun s es h => ⟨h.1, h.2.1, by have h2 := h.2.2; have hl := lea_up es; omega⟩)) | (rw [one_l (by omega) (by omega) (by omega) (by omega)]; exact o5.map (fun s es h => ⟨h.1, h.2.1, by have h2 := h.2.2; have hl := lea_up es; omega⟩)), gWH⟩)
        by_cases c127 : (σ0 1 9).toInt = 40
        · refine lv_tableIn (off := 177) (tgt := 249) hx hb dX7_readOne_72 (by omega) (by omega) (by rw [c127]; rfl) (by decide) ?_
          refine lv_aload_n hx hb dX7_readOne_249 rfl (lv_at hl 1 rfl) ?_
          refine fg_7_2 (k := 27) hx hb hts in_X7_readOne_7 hown hK hP (by decide) (by decide) (hts _ lk_X7_readOne_19) dX7_readOne_250 ?_
          refine lv_iload_n hx hb dX7_readOne_253 rfl (lv_at hl 0 rfl) ?_
          refine r_bipush hx hb dX7_readOne_254 (by decide) (fun z128 ez128 => ?_)
          refine r_iconst hx hb dX7_readOne_256 (by decide) (fun z129 ez129 => ?_)
          refine r_cVi (k := 24) (As := [.int (σ0 1 9), .int z128, .int z129]) (rest := []) ⟨hx, hb, hml, hown, hts⟩ hK hP hN hS (c_X6_add l D cA ad hI σ15 τ15 hR (σ0 1 9) z128 z129 (by omega)) (cwV 3 hts gX7_readOne_X6_add rfl rfl rfl (by decide +kernel) ⟨by decide, by decide⟩) (rv_Sent hK hP (by decide) (by decide)) rfl hl.1 rfl (Nat.le_of_ble_eq_true rfl) dX7_readOne_257 (Nat.zero_le _) (Nat.zero_le _) (fun r130 u130 H130 locs130 hp130 hP hS => ?_)
          obtain ⟨σ130, τ130⟩ := u130
          obtain ⟨hR, f130, fL130, hq130, hp130_0⟩ : P_X6_add σ15 τ15 (σ0 1 9) z128 z129 r130 σ130 τ130 := hp130
          have hP : va_P D vwCl (gw cA ad σ130 τ130) H130 := hP
          obtain rfl := FrL.nil fL130
          have hF := hF.step f130 (by decide)
          have gCT := gCT.ag (Agr.fr f130 (by decide))
          have gWH := gWH.ag (Agr.fr f130 (by decide))
          have t131 : (σ130 24 1).toInt = (σ15 24 1).toInt := congrArg Int32.toInt (f130.at 24 1 (by decide))
          have hr132 := rg_6_2 hR (k := 24) (by decide) (by decide)
          exact r_zret hx hb hr hK hP hS hk (by omega) dX7_readOne_260 (show P_X7_readOne_d4 σ0 τ0 a1 b N mo q nn nm hc r130 σ130 τ15 from ⟨hR, hF, hFL, by omega, by first | exact RO.ofr ((one_l (by omega) (by omega) (by omega) (by omega)).trans (lea_n (by omega) (by omega))) (by omega) ⟨gCT, by omega, by omega⟩ | (exfalso; omega) | exact RO.ofk (one_x (by omega)) (by omega) (by omega) (by omega) | exact RO.ofk (one_4 (by omega) (by omega)) (by omega) (by omega) (by omega) | (obtain ⟨f, e1, x1, x2⟩ := o1.no (by omega); exact RO.ofl ((one_n (by omega) (by omega)).trans e1) (by omega) x1 x2) | exact RO.ofr ((one_n (by omega) (by omega)).trans e1) (by omega) ⟨gCT, by omega, by omega⟩ | (obtain ⟨f, e2, x1, x2⟩ := o2.no (by omega); exact RO.ofl (by rw [one_o (by omega) (by omega), e2, bnd_l]) (by omega) x1 x2) | (obtain ⟨f, e3, x1, x2⟩ := o3.no (by omega); exact RO.ofl (by rw [one_o (by omega) (by omega), e2, bnd_r, e3, bnd_l]) (by omega) x1 x2) | exact RO.ofr (by rw [one_o (by omega) (by omega), e2, bnd_r, e3, bnd_r]) (by omega) ⟨gCT, by omega, by omega⟩ | (rw [one_l (by omega) (by omega) (by omega) (by omega)]; exact o4.map (fun s es h => ⟨h.1, h.2.1, by have h2 := h.2.2; have hl := lea_up es; omega⟩)) | (rw [one_l (by omega) (by omega) (by omega) (by omega)]; exact o5.map (fun s es h => ⟨h.1, h.2.1, by have h2 := h.2.2; have hl := lea_up es; omega⟩)), gWH⟩)
        by_cases c133 : (σ0 1 9).toInt = 41
        · refine lv_tableIn (off := 177) (tgt := 249) hx hb dX7_readOne_72 (by omega) (by omega) (by rw [c133]; rfl) (by decide) ?_
          refine lv_aload_n hx hb dX7_readOne_249 rfl (lv_at hl 1 rfl) ?_
          refine fg_7_2 (k := 27) hx hb hts in_X7_readOne_7 hown hK hP (by decide) (by decide) (hts _ lk_X7_readOne_19) dX7_readOne_250 ?_
          refine lv_iload_n hx hb dX7_readOne_253 rfl (lv_at hl 0 rfl) ?_
          refine r_bipush hx hb dX7_readOne_254 (by decide) (fun z134 ez134 => ?_)
          refine r_iconst hx hb dX7_readOne_256 (by decide) (fun z135 ez135 => ?_)
          refine r_cVi (k := 24) (As := [.int (σ0 1 9), .int z134, .int z135]) (rest := []) ⟨hx, hb, hml, hown, hts⟩ hK hP hN hS (c_X6_add l D cA ad hI σ15 τ15 hR (σ0 1 9) z134 z135 (by omega)) (cwV 3 hts gX7_readOne_X6_add rfl rfl rfl (by decide +kernel) ⟨by decide, by decide⟩) (rv_Sent hK hP (by decide) (by decide)) rfl hl.1 rfl (Nat.le_of_ble_eq_true rfl) dX7_readOne_257 (Nat.zero_le _) (Nat.zero_le _) (fun r136 u136 H136 locs136 hp136 hP hS => ?_)
          obtain ⟨σ136, τ136⟩ := u136
          obtain ⟨hR, f136, fL136, hq136, hp136_0⟩ : P_X6_add σ15 τ15 (σ0 1 9) z134 z135 r136 σ136 τ136 := hp136
          have hP : va_P D vwCl (gw cA ad σ136 τ136) H136 := hP
          obtain rfl := FrL.nil fL136
          have hF := hF.step f136 (by decide)
          have gCT := gCT.ag (Agr.fr f136 (by decide))
          have gWH := gWH.ag (Agr.fr f136 (by decide))
          have t137 : (σ136 24 1).toInt = (σ15 24 1).toInt := congrArg Int32.toInt (f136.at 24 1 (by decide))
          have hr138 := rg_6_2 hR (k := 24) (by decide) (by decide)
          exact r_zret hx hb hr hK hP hS hk (by omega) dX7_readOne_260 (show P_X7_readOne_d4 σ0 τ0 a1 b N mo q nn nm hc r136 σ136 τ15 from ⟨hR, hF, hFL, by omega, by first | exact RO.ofr ((one_l (by omega) (by omega) (by omega) (by omega)).trans (lea_n (by omega) (by omega))) (by omega) ⟨gCT, by omega, by omega⟩ | (exfalso; omega) | exact RO.ofk (one_x (by omega)) (by omega) (by omega) (by omega) | exact RO.ofk (one_4 (by omega) (by omega)) (by omega) (by omega) (by omega) | (obtain ⟨f, e1, x1, x2⟩ := o1.no (by omega); exact RO.ofl ((one_n (by omega) (by omega)).trans e1) (by omega) x1 x2) | exact RO.ofr ((one_n (by omega) (by omega)).trans e1) (by omega) ⟨gCT, by omega, by omega⟩ | (obtain ⟨f, e2, x1, x2⟩ := o2.no (by omega); exact RO.ofl (by rw [one_o (by omega) (by omega), e2, bnd_l]) (by omega) x1 x2) | (obtain ⟨f, e3, x1, x2⟩ := o3.no (by omega); exact RO.ofl (by rw [one_o (by omega) (by omega), e2, bnd_r, e3, bnd_l]) (by omega) x1 x2) | exact RO.ofr (by rw [one_o (by omega) (by omega), e2, bnd_r, e3, bnd_r]) (by omega) ⟨gCT, by omega, by omega⟩ | (rw [one_l (by omega) (by omega) (by omega) (by omega)]; exact o4.map (fun s es h => ⟨h.1, h.2.1, by have h2 := h.2.2; have hl := lea_up es; omega⟩)) | (rw [one_l (by omega) (by omega) (by omega) (by omega)]; exact o5.map (fun s es h => ⟨h.1, h.2.1, by have h2 := h.2.2; have hl := lea_up es; omega⟩)), gWH⟩)
        by_cases c139 : (σ0 1 9).toInt = 42
        · refine lv_tableIn (off := 177) (tgt := 249) hx hb dX7_readOne_72 (by omega) (by omega) (by rw [c139]; rfl) (by decide) ?_
          refine lv_aload_n hx hb dX7_readOne_249 rfl (lv_at hl 1 rfl) ?_
          refine fg_7_2 (k := 27) hx hb hts in_X7_readOne_7 hown hK hP (by decide) (by decide) (hts _ lk_X7_readOne_19) dX7_readOne_250 ?_
          refine lv_iload_n hx hb dX7_readOne_253 rfl (lv_at hl 0 rfl) ?_
          refine r_bipush hx hb dX7_readOne_254 (by decide) (fun z140 ez140 => ?_)
          refine r_iconst hx hb dX7_readOne_256 (by decide) (fun z141 ez141 => ?_)
          refine r_cVi (k := 24) (As := [.int (σ0 1 9), .int z140, .int z141]) (rest := []) ⟨hx, hb, hml, hown, hts⟩ hK hP hN hS (c_X6_add l D cA ad hI σ15 τ15 hR (σ0 1 9) z140 z141 (by omega)) (cwV 3 hts gX7_readOne_X6_add rfl rfl rfl (by decide +kernel) ⟨by decide, by decide⟩) (rv_Sent hK hP (by decide) (by decide)) rfl hl.1 rfl (Nat.le_of_ble_eq_true rfl) dX7_readOne_257 (Nat.zero_le _) (Nat.zero_le _) (fun r142 u142 H142 locs142 hp142 hP hS => ?_)
          obtain ⟨σ142, τ142⟩ := u142
          obtain ⟨hR, f142, fL142, hq142, hp142_0⟩ : P_X6_add σ15 τ15 (σ0 1 9) z140 z141 r142 σ142 τ142 := hp142
          have hP : va_P D vwCl (gw cA ad σ142 τ142) H142 := hP
          obtain rfl := FrL.nil fL142
          have hF := hF.step f142 (by decide)
          have gCT := gCT.ag (Agr.fr f142 (by decide))
          have gWH := gWH.ag (Agr.fr f142 (by decide))
          have t143 : (σ142 24 1).toInt = (σ15 24 1).toInt := congrArg Int32.toInt (f142.at 24 1 (by decide))
          have hr144 := rg_6_2 hR (k := 24) (by decide) (by decide)
          exact r_zret hx hb hr hK hP hS hk (by omega) dX7_readOne_260 (show P_X7_readOne_d4 σ0 τ0 a1 b N mo q nn nm hc r142 σ142 τ15 from ⟨hR, hF, hFL, by omega, by first | exact RO.ofr ((one_l (by omega) (by omega) (by omega) (by omega)).trans (lea_n (by omega) (by omega))) (by omega) ⟨gCT, by omega, by omega⟩ | (exfalso; omega) | exact RO.ofk (one_x (by omega)) (by omega) (by omega) (by omega) | exact RO.ofk (one_4 (by omega) (by omega)) (by omega) (by omega) (by omega) | (obtain ⟨f, e1, x1, x2⟩ := o1.no (by omega); exact RO.ofl ((one_n (by omega) (by omega)).trans e1) (by omega) x1 x2) | exact RO.ofr ((one_n (by omega) (by omega)).trans e1) (by omega) ⟨gCT, by omega, by omega⟩ | (obtain ⟨f, e2, x1, x2⟩ := o2.no (by omega); exact RO.ofl (by rw [one_o (by omega) (by omega), e2, bnd_l]) (by omega) x1 x2) | (obtain ⟨f, e3, x1, x2⟩ := o3.no (by omega); exact RO.ofl (by rw [one_o (by omega) (by omega), e2, bnd_r, e3, bnd_l]) (by omega) x1 x2) | exact RO.ofr (by rw [one_o (by omega) (by omega), e2, bnd_r, e3, bnd_r]) (by omega) ⟨gCT, by omega, by omega⟩ | (rw [one_l (by omega) (by omega) (by omega) (by omega)]; exact o4.map (fun s es h => ⟨h.1, h.2.1, by have h2 := h.2.2; have hl := lea_up es; omega⟩)) | (rw [one_l (by omega) (by omega) (by omega) (by omega)]; exact o5.map (fun s es h => ⟨h.1, h.2.1, by have h2 := h.2.2; have hl := lea_up es; omega⟩)), gWH⟩)
        by_cases c145 : (σ0 1 9).toInt = 43
        · refine lv_tableIn (off := 177) (tgt := 249) hx hb dX7_readOne_72 (by omega) (by omega) (by rw [c145]; rfl) (by decide) ?_
          refine lv_aload_n hx hb dX7_readOne_249 rfl (lv_at hl 1 rfl) ?_
          refine fg_7_2 (k := 27) hx hb hts in_X7_readOne_7 hown hK hP (by decide) (by decide) (hts _ lk_X7_readOne_19) dX7_readOne_250 ?_
          refine lv_iload_n hx hb dX7_readOne_253 rfl (lv_at hl 0 rfl) ?_
          refine r_bipush hx hb dX7_readOne_254 (by decide) (fun z146 ez146 => ?_)
          refine r_iconst hx hb dX7_readOne_256 (by decide) (fun z147 ez147 => ?_)
          refine r_cVi (k := 24) (As := [.int (σ0 1 9), .int z146, .int z147]) (rest := []) ⟨hx, hb, hml, hown, hts⟩ hK hP hN hS (c_X6_add l D cA ad hI σ15 τ15 hR (σ0 1 9) z146 z147 (by omega)) (cwV 3 hts gX7_readOne_X6_add rfl rfl rfl (by decide +kernel) ⟨by decide, by decide⟩) (rv_Sent hK hP (by decide) (by decide)) rfl hl.1 rfl (Nat.le_of_ble_eq_true rfl) dX7_readOne_257 (Nat.zero_le _) (Nat.zero_le _) (fun r148 u148 H148 locs148 hp148 hP hS => ?_)
          obtain ⟨σ148, τ148⟩ := u148
          obtain ⟨hR, f148, fL148, hq148, hp148_0⟩ : P_X6_add σ15 τ15 (σ0 1 9) z146 z147 r148 σ148 τ148 := hp148
          have hP : va_P D vwCl (gw cA ad σ148 τ148) H148 := hP
          obtain rfl := FrL.nil fL148
          have hF := hF.step f148 (by decide)
          have gCT := gCT.ag (Agr.fr f148 (by decide))
          have gWH := gWH.ag (Agr.fr f148 (by decide))
          have t149 : (σ148 24 1).toInt = (σ15 24 1).toInt := congrArg Int32.toInt (f148.at 24 1 (by decide))
          have hr150 := rg_6_2 hR (k := 24) (by decide) (by decide)
          exact r_zret hx hb hr hK hP hS hk (by omega) dX7_readOne_260 (show P_X7_readOne_d4 σ0 τ0 a1 b N mo q nn nm hc r148 σ148 τ15 from ⟨hR, hF, hFL, by omega, by first | exact RO.ofr ((one_l (by omega) (by omega) (by omega) (by omega)).trans (lea_n (by omega) (by omega))) (by omega) ⟨gCT, by omega, by omega⟩ | (exfalso; omega) | exact RO.ofk (one_x (by omega)) (by omega) (by omega) (by omega) | exact RO.ofk (one_4 (by omega) (by omega)) (by omega) (by omega) (by omega) | (obtain ⟨f, e1, x1, x2⟩ := o1.no (by omega); exact RO.ofl ((one_n (by omega) (by omega)).trans e1) (by omega) x1 x2) | exact RO.ofr ((one_n (by omega) (by omega)).trans e1) (by omega) ⟨gCT, by omega, by omega⟩ | (obtain ⟨f, e2, x1, x2⟩ := o2.no (by omega); exact RO.ofl (by rw [one_o (by omega) (by omega), e2, bnd_l]) (by omega) x1 x2) | (obtain ⟨f, e3, x1, x2⟩ := o3.no (by omega); exact RO.ofl (by rw [one_o (by omega) (by omega), e2, bnd_r, e3, bnd_l]) (by omega) x1 x2) | exact RO.ofr (by rw [one_o (by omega) (by omega), e2, bnd_r, e3, bnd_r]) (by omega) ⟨gCT, by omega, by omega⟩ | (rw [one_l (by omega) (by omega) (by omega) (by omega)]; exact o4.map (fun s es h => ⟨h.1, h.2.1, by have h2 := h.2.2; have hl := lea_up es; omega⟩)) | (rw [one_l (by omega) (by omega) (by omega) (by omega)]; exact o5.map (fun s es h => ⟨h.1, h.2.1, by have h2 := h.2.2; have hl := lea_up es; omega⟩)), gWH⟩)
        by_cases c151 : (σ0 1 9).toInt = 44
        · refine lv_tableIn (off := 138) (tgt := 210) hx hb dX7_readOne_72 (by omega) (by omega) (by rw [c151]; rfl) (by decide) ?_
          refine lv_aload_n hx hb dX7_readOne_210 rfl (lv_at hl 1 rfl) ?_
          refine lv_iload_n hx hb dX7_readOne_211 rfl (lv_at hl 2 rfl) ?_
          refine r_iconst hx hb dX7_readOne_212 (by decide) (fun z152 ez152 => ?_)
          refine r_iadd hx hb dX7_readOne_213 (by omega) (fun z153 ez153 => ?_)
          refine r_cVi (k := 27) (As := [.int z153]) (rest := []) ⟨hx, hb, hml, hown, hts⟩ hK hP hN hS (c_X7_readCond_d5 l D cA ad hI σ15 τ15 hR z153 b N mo _ (nn + 1) nm hc (by omega) (by omega) (by omega) (by omega) gCT gWH) (cwV 1 hts gX7_readOne_X7_readCond rfl rfl rfl (by decide +kernel) ⟨by decide, by decide⟩) (rv_SText hK hP (by decide) (by decide)) rfl hl.1 rfl (Nat.le_of_ble_eq_true rfl) dX7_readOne_214 (Nat.zero_le _) (Nat.zero_le _) (fun r154 u154 H154 locs154 hp154 hP hS => ?_)
          obtain ⟨σ154, τ154⟩ := u154
          obtain ⟨hR, f154, fL154, hq154, hp154_0, gnWH⟩ : P_X7_readCond_d5 σ15 τ15 z153 b N mo _ (nn + 1) nm hc r154 σ154 τ154 := hp154
          have o2 := hp154_0
          have hP : va_P D vwCl (gw cA ad σ154 τ154) H154 := hP
          have hFL := hFL.step fL154 (by decide)
          have gWH := gWH.agL (AgrL.fr fL154 (by decide))
          have hF := hF.step f154 (by decide)
          have gWH := gWH.ag (Agr.fr f154 (by decide))
          have hr155 := rg_6_1 hR (k := 24) (by decide) (by decide)
          have hr156 := rg_6_2 hR (k := 24) (by decide) (by decide)
          refine r_if_eq (tgt := 236) hx hb dX7_readOne_217 (by decide) (fun c157 => ?_) (fun c157 => ?_)
          · refine r_iconst hx hb dX7_readOne_236 (by decide) (fun z158 ez158 => ?_)
            exact r_zret hx hb hr hK hP hS hk (by omega) dX7_readOne_237 (show P_X7_readOne_d4 σ0 τ0 a1 b N mo q nn nm hc z158 σ154 τ154 from ⟨hR, hF, hFL, by omega, by first | exact RO.ofr ((one_l (by omega) (by omega) (by omega) (by omega)).trans (lea_n (by omega) (by omega))) (by omega) ⟨gCT, by omega, by omega⟩ | (exfalso; omega) | exact RO.ofk (one_x (by omega)) (by omega) (by omega) (by omega) | exact RO.ofk (one_4 (by omega) (by omega)) (by omega) (by omega) (by omega) | (obtain ⟨f, e1, x1, x2⟩ := o1.no (by omega); exact RO.ofl ((one_n (by omega) (by omega)).trans e1) (by omega) x1 x2) | exact RO.ofr ((one_n (by omega) (by omega)).trans e1) (by omega) ⟨gCT, by omega, by omega⟩ | (obtain ⟨f, e2, x1, x2⟩ := o2.no (by omega); exact RO.ofl (by rw [one_o (by omega) (by omega), e2, bnd_l]) (by omega) x1 x2) | (obtain ⟨f, e3, x1, x2⟩ := o3.no (by omega); exact RO.ofl (by rw [one_o (by omega) (by omega), e2, bnd_r, e3, bnd_l]) (by omega) x1 x2) | exact RO.ofr (by rw [one_o (by omega) (by omega), e2, bnd_r, e3, bnd_r]) (by omega) ⟨gCT, by omega, by omega⟩ | (rw [one_l (by omega) (by omega) (by omega) (by omega)]; exact o4.map (fun s es h => ⟨h.1, h.2.1, by have h2 := h.2.2; have hl := lea_up es; omega⟩)) | (rw [one_l (by omega) (by omega) (by omega) (by omega)]; exact o5.map (fun s es h => ⟨h.1, h.2.1, by have h2 := h.2.2; have hl := lea_up es; omega⟩)), gWH⟩)
          · obtain ⟨s2, e2, gCT, hs1, hs2⟩ := o2.ye (by omega)
            have hu2 := con_up (one_up _) _ _ _ e2
            refine lv_aload_n hx hb dX7_readOne_220 rfl (lv_at hl 1 rfl) ?_
            refine fg_7_0 (k := 27) hx hb hts in_X7_readOne_7 hown hK hP (by decide) (by decide) (hts _ lk_X7_readOne_9) dX7_readOne_221 ?_
            refine r_bipush hx hb dX7_readOne_224 (by decide) (fun z159 ez159 => ?_)
            refine r_cVi (k := 1) (As := [.int z159]) (rest := []) ⟨hx, hb, hml, hown, hts⟩ hK hP hN hS (c_X8_take_v l D cA ad hI σ154 τ154 hR z159 b N mo _ 45 (by omega) (by omega) gCT) (cwV 1 hts gX7_readOne_X8_take rfl rfl rfl (by decide +kernel) ⟨by decide, by decide⟩) (rv_Tape hK hP (by decide) (by decide)) rfl hl.1 rfl (Nat.le_of_ble_eq_true rfl) dX7_readOne_226 (Nat.zero_le _) (Nat.zero_le _) (fun r160 u160 H160 locs160 hp160 hP hS => ?_)
            obtain ⟨σ160, τ160⟩ := u160
            obtain ⟨hR, f160, fL160, hq160, hp160_0⟩ : P_X8_take_v σ154 τ154 z159 b N mo _ 45 r160 σ160 τ160 := hp160
            have o3 := hp160_0
            have hP : va_P D vwCl (gw cA ad σ160 τ160) H160 := hP
            have hFL := hFL.step fL160 (by decide)
            have gWH := gWH.agL (AgrL.fr fL160 (by decide))
            have hF := hF.step f160 (by decide)
            have gWH := gWH.ag (Agr.fr f160 (by decide))
            have t161 : (σ160 24 1).toInt = (σ154 24 1).toInt := congrArg Int32.toInt (f160.at 24 1 (by decide))
            have t162 : (σ160 24 2).toInt = (σ154 24 2).toInt := congrArg Int32.toInt (f160.at 24 2 (by decide))
            refine r_if_eq (tgt := 236) hx hb dX7_readOne_229 (by decide) (fun c163 => ?_) (fun c163 => ?_)
            · refine r_iconst hx hb dX7_readOne_236 (by decide) (fun z164 ez164 => ?_)
              exact r_zret hx hb hr hK hP hS hk (by omega) dX7_readOne_237 (show P_X7_readOne_d4 σ0 τ0 a1 b N mo q nn nm hc z164 σ160 τ160 from ⟨hR, hF, hFL, by omega, by first | exact RO.ofr ((one_l (by omega) (by omega) (by omega) (by omega)).trans (lea_n (by omega) (by omega))) (by omega) ⟨gCT, by omega, by omega⟩ | (exfalso; omega) | exact RO.ofk (one_x (by omega)) (by omega) (by omega) (by omega) | exact RO.ofk (one_4 (by omega) (by omega)) (by omega) (by omega) (by omega) | (obtain ⟨f, e1, x1, x2⟩ := o1.no (by omega); exact RO.ofl ((one_n (by omega) (by omega)).trans e1) (by omega) x1 x2) | exact RO.ofr ((one_n (by omega) (by omega)).trans e1) (by omega) ⟨gCT, by omega, by omega⟩ | (obtain ⟨f, e2, x1, x2⟩ := o2.no (by omega); exact RO.ofl (by rw [one_o (by omega) (by omega), e2, bnd_l]) (by omega) x1 x2) | (obtain ⟨f, e3, x1, x2⟩ := o3.no (by omega); exact RO.ofl (by rw [one_o (by omega) (by omega), e2, bnd_r, e3, bnd_l]) (by omega) x1 x2) | exact RO.ofr (by rw [one_o (by omega) (by omega), e2, bnd_r, e3, bnd_r]) (by omega) ⟨gCT, by omega, by omega⟩ | (rw [one_l (by omega) (by omega) (by omega) (by omega)]; exact o4.map (fun s es h => ⟨h.1, h.2.1, by have h2 := h.2.2; have hl := lea_up es; omega⟩)) | (rw [one_l (by omega) (by omega) (by omega) (by omega)]; exact o5.map (fun s es h => ⟨h.1, h.2.1, by have h2 := h.2.2; have hl := lea_up es; omega⟩)), gWH⟩)
            · obtain ⟨q3, e3, gCT⟩ := o3.ye (by omega)
              refine r_iconst hx hb dX7_readOne_232 (by decide) (fun z165 ez165 => ?_)
              refine lv_goto (tgt := 237) hx hb dX7_readOne_233 (by decide) ?_
              exact r_zret hx hb hr hK hP hS hk (by omega) dX7_readOne_237 (show P_X7_readOne_d4 σ0 τ0 a1 b N mo q nn nm hc z165 σ160 τ160 from ⟨hR, hF, hFL, by omega, by first | exact RO.ofr ((one_l (by omega) (by omega) (by omega) (by omega)).trans (lea_n (by omega) (by omega))) (by omega) ⟨gCT, by omega, by omega⟩ | (exfalso; omega) | exact RO.ofk (one_x (by omega)) (by omega) (by omega) (by omega) | exact RO.ofk (one_4 (by omega) (by omega)) (by omega) (by omega) (by omega) | (obtain ⟨f, e1, x1, x2⟩ := o1.no (by omega); exact RO.ofl ((one_n (by omega) (by omega)).trans e1) (by omega) x1 x2) | exact RO.ofr ((one_n (by omega) (by omega)).trans e1) (by omega) ⟨gCT, by omega, by omega⟩ | (obtain ⟨f, e2, x1, x2⟩ := o2.no (by omega); exact RO.ofl (by rw [one_o (by omega) (by omega), e2, bnd_l]) (by omega) x1 x2) | (obtain ⟨f, e3, x1, x2⟩ := o3.no (by omega); exact RO.ofl (by rw [one_o (by omega) (by omega), e2, bnd_r, e3, bnd_l]) (by omega) x1 x2) | exact RO.ofr (by rw [one_o (by omega) (by omega), e2, bnd_r, e3, bnd_r]) (by omega) ⟨gCT, by omega, by omega⟩ | (rw [one_l (by omega) (by omega) (by omega) (by omega)]; exact o4.map (fun s es h => ⟨h.1, h.2.1, by have h2 := h.2.2; have hl := lea_up es; omega⟩)) | (rw [one_l (by omega) (by omega) (by omega) (by omega)]; exact o5.map (fun s es h => ⟨h.1, h.2.1, by have h2 := h.2.2; have hl := lea_up es; omega⟩)), gWH⟩)
        refine lv_tableOut (tgt := 249) hx hb dX7_readOne_72 (by omega) (by decide) ?_
        refine lv_aload_n hx hb dX7_readOne_249 rfl (lv_at hl 1 rfl) ?_
        refine fg_7_2 (k := 27) hx hb hts in_X7_readOne_7 hown hK hP (by decide) (by decide) (hts _ lk_X7_readOne_19) dX7_readOne_250 ?_
        refine lv_iload_n hx hb dX7_readOne_253 rfl (lv_at hl 0 rfl) ?_
        refine r_bipush hx hb dX7_readOne_254 (by decide) (fun z166 ez166 => ?_)
        refine r_iconst hx hb dX7_readOne_256 (by decide) (fun z167 ez167 => ?_)
        refine r_cVi (k := 24) (As := [.int (σ0 1 9), .int z166, .int z167]) (rest := []) ⟨hx, hb, hml, hown, hts⟩ hK hP hN hS (c_X6_add l D cA ad hI σ15 τ15 hR (σ0 1 9) z166 z167 (by omega)) (cwV 3 hts gX7_readOne_X6_add rfl rfl rfl (by decide +kernel) ⟨by decide, by decide⟩) (rv_Sent hK hP (by decide) (by decide)) rfl hl.1 rfl (Nat.le_of_ble_eq_true rfl) dX7_readOne_257 (Nat.zero_le _) (Nat.zero_le _) (fun r168 u168 H168 locs168 hp168 hP hS => ?_)
        obtain ⟨σ168, τ168⟩ := u168
        obtain ⟨hR, f168, fL168, hq168, hp168_0⟩ : P_X6_add σ15 τ15 (σ0 1 9) z166 z167 r168 σ168 τ168 := hp168
        have hP : va_P D vwCl (gw cA ad σ168 τ168) H168 := hP
        obtain rfl := FrL.nil fL168
        have hF := hF.step f168 (by decide)
        have gCT := gCT.ag (Agr.fr f168 (by decide))
        have gWH := gWH.ag (Agr.fr f168 (by decide))
        have t169 : (σ168 24 1).toInt = (σ15 24 1).toInt := congrArg Int32.toInt (f168.at 24 1 (by decide))
        have hr170 := rg_6_2 hR (k := 24) (by decide) (by decide)
        exact r_zret hx hb hr hK hP hS hk (by omega) dX7_readOne_260 (show P_X7_readOne_d4 σ0 τ0 a1 b N mo q nn nm hc r168 σ168 τ15 from ⟨hR, hF, hFL, by omega, by first | exact RO.ofr ((one_l (by omega) (by omega) (by omega) (by omega)).trans (lea_n (by omega) (by omega))) (by omega) ⟨gCT, by omega, by omega⟩ | (exfalso; omega) | exact RO.ofk (one_x (by omega)) (by omega) (by omega) (by omega) | exact RO.ofk (one_4 (by omega) (by omega)) (by omega) (by omega) (by omega) | (obtain ⟨f, e1, x1, x2⟩ := o1.no (by omega); exact RO.ofl ((one_n (by omega) (by omega)).trans e1) (by omega) x1 x2) | exact RO.ofr ((one_n (by omega) (by omega)).trans e1) (by omega) ⟨gCT, by omega, by omega⟩ | (obtain ⟨f, e2, x1, x2⟩ := o2.no (by omega); exact RO.ofl (by rw [one_o (by omega) (by omega), e2, bnd_l]) (by omega) x1 x2) | (obtain ⟨f, e3, x1, x2⟩ := o3.no (by omega); exact RO.ofl (by rw [one_o (by omega) (by omega), e2, bnd_r, e3, bnd_l]) (by omega) x1 x2) | exact RO.ofr (by rw [one_o (by omega) (by omega), e2, bnd_r, e3, bnd_r]) (by omega) ⟨gCT, by omega, by omega⟩ | (rw [one_l (by omega) (by omega) (by omega) (by omega)]; exact o4.map (fun s es h => ⟨h.1, h.2.1, by have h2 := h.2.2; have hl := lea_up es; omega⟩)) | (rw [one_l (by omega) (by omega) (by omega) (by omega)]; exact o5.map (fun s es h => ⟨h.1, h.2.1, by have h2 := h.2.2; have hl := lea_up es; omega⟩)), gWH⟩)
      · exfalso; omega
  · refine lv_aload_n hx hb dX7_readOne_15 rfl (lv_at hl 1 rfl) ?_
    refine fg_7_0 (k := 27) hx hb hts in_X7_readOne_7 hown hK hP (by decide) (by decide) (hts _ lk_X7_readOne_9) dX7_readOne_16 ?_
    refine r_iconst hx hb dX7_readOne_19 (by decide) (fun z171 ez171 => ?_)
    refine r_cVi (k := 1) (As := [.int z171]) (rest := []) ⟨hx, hb, hml, hown, hts⟩ hK hP hN hS (c_X8_blame_v l D cA ad hI σ0 τ0 hR z171 _ _ _ _ (by omega) gCT) (cwV 1 hts gX7_readOne_X8_blame rfl rfl rfl (by decide +kernel) ⟨by decide, by decide⟩) (rv_Tape hK hP (by decide) (by decide)) rfl hl.1 rfl (Nat.le_of_ble_eq_true rfl) dX7_readOne_20 (Nat.zero_le _) (Nat.zero_le _) (fun r172 u172 H172 locs172 hp172 hP hS => ?_)
    obtain ⟨σ172, τ172⟩ := u172
    obtain ⟨hR, f172, fL172, hq172, hp172_0, hp172_1, hp172_2, gnCT⟩ : P_X8_blame_v σ0 τ0 z171 _ _ _ _ r172 σ172 τ172 := hp172
    have hP : va_P D vwCl (gw cA ad σ172 τ172) H172 := hP
    obtain rfl := FrL.nil fL172
    have hF := hF.step f172 (by decide)
    have gCT := gCT.ag (Agr.fr f172 (by decide))
    have gWH := gWH.ag (Agr.fr f172 (by decide))
    have t173 : (σ172 24 1).toInt = (σ0 24 1).toInt := congrArg Int32.toInt (f172.at 24 1 (by decide))
    have t174 : (σ172 24 2).toInt = (σ0 24 2).toInt := congrArg Int32.toInt (f172.at 24 2 (by decide))
    exact r_zret hx hb hr hK hP hS hk (by omega) dX7_readOne_23 (show P_X7_readOne_d4 σ0 τ0 a1 b N mo q nn nm hc r172 σ172 τ0 from ⟨hR, hF, hFL, by omega, by first | exact RO.ofr ((one_l (by omega) (by omega) (by omega) (by omega)).trans (lea_n (by omega) (by omega))) (by omega) ⟨gCT, by omega, by omega⟩ | (exfalso; omega) | exact RO.ofk (one_x (by omega)) (by omega) (by omega) (by omega) | exact RO.ofk (one_4 (by omega) (by omega)) (by omega) (by omega) (by omega) | (obtain ⟨f, e1, x1, x2⟩ := o1.no (by omega); exact RO.ofl ((one_n (by omega) (by omega)).trans e1) (by omega) x1 x2) | exact RO.ofr ((one_n (by omega) (by omega)).trans e1) (by omega) ⟨gCT, by omega, by omega⟩ | (obtain ⟨f, e2, x1, x2⟩ := o2.no (by omega); exact RO.ofl (by rw [one_o (by omega) (by omega), e2, bnd_l]) (by omega) x1 x2) | (obtain ⟨f, e3, x1, x2⟩ := o3.no (by omega); exact RO.ofl (by rw [one_o (by omega) (by omega), e2, bnd_r, e3, bnd_l]) (by omega) x1 x2) | exact RO.ofr (by rw [one_o (by omega) (by omega), e2, bnd_r, e3, bnd_r]) (by omega) ⟨gCT, by omega, by omega⟩ | (rw [one_l (by omega) (by omega) (by omega) (by omega)]; exact o4.map (fun s es h => ⟨h.1, h.2.1, by have h2 := h.2.2; have hl := lea_up es; omega⟩)) | (rw [one_l (by omega) (by omega) (by omega) (by omega)]; exact o5.map (fun s es h => ⟨h.1, h.2.1, by have h2 := h.2.2; have hl := lea_up es; omega⟩)), gWH⟩)
