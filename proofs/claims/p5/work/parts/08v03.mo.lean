abbrev L_X12_sign_v : List Rc := [(387, 387, 4, 4), (387, 387, 11, 16)]
abbrev LL_X12_sign_v : List Rc := [(387, 387, 17, 17)]
def P_X12_sign_v (σ0 : Nat → Nat → Int32) (τ0 : Nat → Nat → Int64) (a1 : Int32) (b : Nat → Int) (N : Nat) (mo : Nat) (q : Nat) (r : Int32) (σ : Nat → Nat → Int32) (τ : Nat → Nat → Int64) : Prop := Rg σ ∧ Fr L_X12_sign_v σ0 σ ∧ FrL LL_X12_sign_v τ0 τ ∧ (0 ≤ r.toInt ∧ r.toInt ≤ 1) ∧ ((σ0 387 4).toInt ≤ (σ 387 4).toInt) ∧ (r.toInt = 0 ∨ (σ0 387 11).toInt = 3) ∧ (MO r σ (takP b N mo 40 q) (fun q1 => MK σ τ b N mo q1)) ∧ (r.toInt = 0 ∨ (σ 387 15).toInt = (σ0 387 15).toInt) ∧ MT σ b N mo
set_option maxHeartbeats 4000000 in
theorem c_X12_sign_v (l : Launch) (D : va_G) (cA : Nat → ClassId) (ad : Nat → Nat) (hI : Inj ad) (σ0 : Nat → Nat → Int32) (τ0 : Nat → Nat → Int64) (hR : Rg σ0) (a1 : Int32) (b : Nat → Int) (N : Nat) (mo : Nat) (q : Nat) (ha1 : 59 ≤ a1.toInt ∧ a1.toInt ≤ 59) (hpre0 : a1.toInt = 59) (gMT0 : MT σ0 b N mo) (gMK0 : MK σ0 τ0 b N mo q) : Met l yX12_sign wsX12_sign ({ frames := 2, cells := 0, slots := 0, locals := 43 } : Room) (WQc D cA ad [.ref (ad 387), .int a1] σ0 τ0) (va_Qi (fun (r : Int32) (u : SS) => P_X12_sign_v σ0 τ0 a1 b N mo q r u.1 u.2) (WB D cA ad) (AA ad)) 0 0 (AA ad) := by
  refine Met.ofW (cc := cX12_sign) (maxL := 2) (ret := (some .boolean)) (by decide) rfl ?_
  intro p e s m args below meth c s₁ B hml hv
  obtain ⟨rfl, hP, hK, hN⟩ := hv
  have C : Cy p s m _ meth c cX12_sign 2 wsX12_sign RX12 D cA ad (some .boolean) := ⟨B.exec, B.bytes, hml, findClass_of_methodNamed B.named, atoms_spec (ws := wsX12_sign) B.pre, hK, B.notSynchronized, B.returns, hI, hN⟩
  have hl := lv_entry ([.ref (ad 387), .int a1]) (n := 2) (Nat.le_of_ble_eq_true rfl)
  rw [lg_entry_eq]
  generalize (lg_sl ([.ref (ad 387), .int a1]) ++ List.replicate (2 - (lg_sl ([.ref (ad 387), .int a1])).length) Slot.unset).toArray = ls at hl ⊢
  have hl : lv_has ls 2 [(0, .ref (ad 387)), (1, .int a1)] := hl
  have hS : va_S (AA ad) s.heap s.heap [] := va_S.rf
  have hF : Fr L_X12_sign_v σ0 σ0 := Fr.rf
  have hFL : FrL LL_X12_sign_v τ0 τ0 := FrL.rf
  have gMT := gMT0
  have gMK := gMK0
  obtain ⟨hx, hb, _, hown, hts, _, hk, hr, _, _⟩ := C
  have hrt4 := rg_12_4 hR (k := 387) (by decide) (by decide)
  have hrt3 := rg_12_3 hR (k := 387) (by decide) (by decide)
  refine lv_aload_n hx hb dX12_sign_0 rfl (lv_at hl 0 rfl) ?_
  refine lv_iload_n hx hb dX12_sign_1 rfl (lv_at hl 1 rfl) ?_
  refine r_cVi (k := 387) (As := [.int a1]) (rest := []) ⟨hx, hb, hml, hown, hts⟩ hK hP hN hS (c_X12_isSign_v l D cA ad hI σ0 τ0 hR a1 _ _ _ _ (by omega) (by omega) gMK) (cwV 1 hts gX12_sign_X12_isSign rfl rfl rfl (by decide +kernel) ⟨by decide, by decide⟩) (rv_M hK hP (by decide) (by decide)) rfl hl.1 rfl (Nat.le_of_ble_eq_true rfl) dX12_sign_2 (Nat.zero_le _) (Nat.zero_le _) (fun r1 u1 H1 locs1 hp1 hP hS => ?_)
  obtain ⟨σ1, τ1⟩ := u1
  obtain ⟨hR, f1, fL1, hq1, hp1_0, hp1_1, gnMK⟩ : P_X12_isSign_v σ0 τ0 a1 _ _ _ _ r1 σ1 τ1 := hp1
  have hP : va_P D vwCl (gw cA ad σ1 τ1) H1 := hP
  obtain rfl := FrL.nil fL1
  obtain rfl := Fr.nil f1
  refine r_if_ne (tgt := 14) hx hb dX12_sign_5 (by decide) (fun c2 => ?_) (fun c2 => ?_)
  · replace hp1_0 := hp1_0.resolve_left (by omega)
    refine lv_aload_n hx hb dX12_sign_14 rfl (lv_at hl 0 rfl) ?_
    refine r_cVv (k := 387) (As := []) (rest := []) ⟨hx, hb, hml, hown, hts⟩ hK hP hN hS (c_X12_next_v l D cA ad hI σ0 τ0 hR _ _ _ _ gMK.mp gMT) (cwV 0 hts gX12_sign_X12_next rfl rfl rfl (by decide +kernel) ⟨by decide, by decide⟩) (rv_M hK hP (by decide) (by decide)) rfl hl.1 rfl (Nat.le_of_ble_eq_true rfl) dX12_sign_15 (Nat.zero_le _) (Nat.zero_le _) (fun u3 H3 locs3 hp3 hP hS => ?_)
    obtain ⟨σ3, τ3⟩ := u3
    obtain ⟨hR, f3, fL3, hp3_0, hp3_1, hp3_2, hp3_3, gnMT⟩ : P_X12_next_v σ0 τ0 _ _ _ _ σ3 τ3 := hp3
    have hP : va_P D vwCl (gw cA ad σ3 τ3) H3 := hP
    have hFL := hFL.step fL3 (by decide)
    have hF := hF.step f3 (by decide)
    have gMT := gMT.ag (Agr.fr f3 (by decide))
    have t4 : (σ3 387 3).toInt = (σ0 387 3).toInt := congrArg Int32.toInt (f3.at 387 3 (by decide))
    have t5 : (σ3 387 15).toInt = (σ0 387 15).toInt := congrArg Int32.toInt (f3.at 387 15 (by decide))
    have hr6 := rg_12_4 hR (k := 387) (by decide) (by decide)
    have gMK := hp3_3
    refine r_iconst hx hb dX12_sign_18 (by decide) (fun z7 ez7 => ?_)
    exact r_zret hx hb hr hK hP hS hk (by omega) dX12_sign_19 (show P_X12_sign_v σ0 τ0 a1 b N mo q z7 σ3 τ3 from ⟨hR, hF, hFL, by omega, by omega, by omega, by first | exact MO.ofk (by unfold takP; rw [if_pos (by omega)]) (by omega) (by omega) (by omega) | exact MO.ofr (by unfold takP; rw [if_neg (by omega)]) (by omega) gMK, by omega, gMT⟩)
  · clear hp1_0
    refine lv_aload_n hx hb dX12_sign_8 rfl (lv_at hl 0 rfl) ?_
    refine r_iconst hx hb dX12_sign_9 (by decide) (fun z8 ez8 => ?_)
    refine r_cVi (k := 387) (As := [.int z8]) (rest := []) ⟨hx, hb, hml, hown, hts⟩ hK hP hN hS (c_X12_bad_v l D cA ad hI σ0 τ0 hR z8 _ _ _ _ (by omega) gMK) (cwV 1 hts gX12_sign_X12_bad rfl rfl rfl (by decide +kernel) ⟨by decide, by decide⟩) (rv_M hK hP (by decide) (by decide)) rfl hl.1 rfl (Nat.le_of_ble_eq_true rfl) dX12_sign_10 (Nat.zero_le _) (Nat.zero_le _) (fun r9 u9 H9 locs9 hp9 hP hS => ?_)
    obtain ⟨σ9, τ9⟩ := u9
    obtain ⟨hR, f9, fL9, hq9, hp9_0, hp9_1, hp9_2, gnMK⟩ : P_X12_bad_v σ0 τ0 z8 _ _ _ _ r9 σ9 τ9 := hp9
    have hP : va_P D vwCl (gw cA ad σ9 τ9) H9 := hP
    obtain rfl := FrL.nil fL9
    have hF := hF.step f9 (by decide)
    have gMK := gMK.ag (Agr.fr f9 (by decide))
    have gMT := gMT.ag (Agr.fr f9 (by decide))
    have t10 : (σ9 387 4).toInt = (σ0 387 4).toInt := congrArg Int32.toInt (f9.at 387 4 (by decide))
    have t11 : (σ9 387 3).toInt = (σ0 387 3).toInt := congrArg Int32.toInt (f9.at 387 3 (by decide))
    have t12 : (σ9 387 11).toInt = (σ0 387 11).toInt := congrArg Int32.toInt (f9.at 387 11 (by decide))
    exact r_zret hx hb hr hK hP hS hk (by omega) dX12_sign_13 (show P_X12_sign_v σ0 τ0 a1 b N mo q r9 σ9 τ0 from ⟨hR, hF, hFL, by omega, by omega, by omega, by first | exact MO.ofk (by unfold takP; rw [if_pos (by omega)]) (by omega) (by omega) (by omega) | exact MO.ofr (by unfold takP; rw [if_neg (by omega)]) (by omega) gMK, by omega, gMT⟩)
theorem in_X12_taken_12 : ∀ w ∈ u_ws RX12 TX12 47, w ∈ wsX12_taken := by decide +kernel
theorem lk_X12_taken_18 : Cond.fieldLink RX12 18 "CuckooSharesModel" "size" "I" ∈ wsX12_taken := by decide +kernel
theorem lk_X12_taken_21 : Cond.fieldLink RX12 21 "CuckooSharesModel" "p" "I" ∈ wsX12_taken := by decide +kernel
theorem lk_X12_taken_24 : Cond.fieldLink RX12 24 "CuckooSharesModel" "limit" "I" ∈ wsX12_taken := by decide +kernel
theorem lk_X12_taken_7 : Cond.fieldLink RX12 7 "CuckooSharesModel" "length" "I" ∈ wsX12_taken := by decide +kernel
abbrev L_X12_taken : List Rc := [(387, 387, 2, 5)]
abbrev LL_X12_taken : List Rc := []
def P_X12_taken (σ0 : Nat → Nat → Int32) (τ0 : Nat → Nat → Int64) (a1 : Int32) (σ : Nat → Nat → Int32) (τ : Nat → Nat → Int64) : Prop := Rg σ ∧ Fr L_X12_taken σ0 σ ∧ FrL LL_X12_taken τ0 τ ∧ ((σ 387 2).toInt = 0) ∧ ((σ 387 3).toInt = (σ0 387 2).toInt) ∧ ((σ 387 4).toInt = 0) ∧ ((σ 387 5).toInt = a1.toInt)
set_option maxHeartbeats 4000000 in
theorem c_X12_taken (l : Launch) (D : va_G) (cA : Nat → ClassId) (ad : Nat → Nat) (hI : Inj ad) (σ0 : Nat → Nat → Int32) (τ0 : Nat → Nat → Int64) (hR : Rg σ0) (a1 : Int32) (ha1 : 200 ≤ a1.toInt ∧ a1.toInt ≤ 940) : Met l yX12_taken wsX12_taken ({ frames := 0, cells := 0, slots := 0, locals := 0 } : Room) (WQc D cA ad [.ref (ad 387), .int a1] σ0 τ0) (va_Qv (fun u : SS => P_X12_taken σ0 τ0 a1 u.1 u.2) (WB D cA ad) (AA ad)) 0 0 (AA ad) := by
  refine Met.ofW (cc := cX12_taken) (maxL := 2) (ret := none) (by decide) rfl ?_
  intro p e s m args below meth c s₁ B hml hv
  obtain ⟨rfl, hP, hK, hN⟩ := hv
  have C : Cy p s m _ meth c cX12_taken 2 wsX12_taken RX12 D cA ad none := ⟨B.exec, B.bytes, hml, findClass_of_methodNamed B.named, atoms_spec (ws := wsX12_taken) B.pre, hK, B.notSynchronized, B.returns, hI, hN⟩
  have hl := lv_entry ([.ref (ad 387), .int a1]) (n := 2) (Nat.le_of_ble_eq_true rfl)
  rw [lg_entry_eq]
  generalize (lg_sl ([.ref (ad 387), .int a1]) ++ List.replicate (2 - (lg_sl ([.ref (ad 387), .int a1])).length) Slot.unset).toArray = ls at hl ⊢
  have hl : lv_has ls 2 [(0, .ref (ad 387)), (1, .int a1)] := hl
  have hS : va_S (AA ad) s.heap s.heap [] := va_S.rf
  have hF : Fr L_X12_taken σ0 σ0 := Fr.rf
  have hFL : FrL LL_X12_taken τ0 τ0 := FrL.rf
  obtain ⟨hx, hb, _, hown, hts, _, hk, hr, _, _⟩ := C
  have hrt2 := rg_12_2 hR (k := 387) (by decide) (by decide)
  have hrt3 := rg_12_3 hR (k := 387) (by decide) (by decide)
  have hrt4 := rg_12_4 hR (k := 387) (by decide) (by decide)
  have hrt5 := rg_12_5 hR (k := 387) (by decide) (by decide)
  refine lv_aload_n hx hb dX12_taken_0 rfl (lv_at hl 0 rfl) ?_
  refine lv_aload_n hx hb dX12_taken_1 rfl (lv_at hl 0 rfl) ?_
  refine fg_12_2 (k := 387) hx hb hts in_X12_taken_12 hown hK hP (by decide) (by decide) (hts _ lk_X12_taken_7) dX12_taken_2 ?_
  refine fp_12_3 (k := 387) hx hb hts in_X12_taken_12 hown hK hP (by decide) (by decide) (hts _ lk_X12_taken_18) hI hR hS (by omega) dX12_taken_5 (fun σ1 H1 locs1 u1 v1 hR hP hS => ?_)
  have hF := hF.puts u1 0 rfl (by decide) (by decide) (by decide) (by decide)
  have t2 : (σ1 387 2).toInt = (σ0 387 2).toInt := congrArg Int32.toInt (u1 387 2 (by omega))
  have t3 : (σ1 387 4).toInt = (σ0 387 4).toInt := congrArg Int32.toInt (u1 387 4 (by omega))
  have t4 : (σ1 387 5).toInt = (σ0 387 5).toInt := congrArg Int32.toInt (u1 387 5 (by omega))
  refine lv_aload_n hx hb dX12_taken_8 rfl (lv_at hl 0 rfl) ?_
  refine r_iconst hx hb dX12_taken_9 (by decide) (fun z5 ez5 => ?_)
  refine fp_12_2 (k := 387) hx hb hts in_X12_taken_12 hown hK hP (by decide) (by decide) (hts _ lk_X12_taken_7) hI hR hS (by omega) dX12_taken_10 (fun σ6 H6 locs6 u6 v6 hR hP hS => ?_)
  have hF := hF.puts u6 0 rfl (by decide) (by decide) (by decide) (by decide)
  have t7 : (σ6 387 4).toInt = (σ1 387 4).toInt := congrArg Int32.toInt (u6 387 4 (by omega))
  have t8 : (σ6 387 5).toInt = (σ1 387 5).toInt := congrArg Int32.toInt (u6 387 5 (by omega))
  have t9 : (σ6 387 3).toInt = (σ1 387 3).toInt := congrArg Int32.toInt (u6 387 3 (by omega))
  refine lv_aload_n hx hb dX12_taken_13 rfl (lv_at hl 0 rfl) ?_
  refine r_iconst hx hb dX12_taken_14 (by decide) (fun z10 ez10 => ?_)
  refine fp_12_4 (k := 387) hx hb hts in_X12_taken_12 hown hK hP (by decide) (by decide) (hts _ lk_X12_taken_21) hI hR hS (by omega) dX12_taken_15 (fun σ11 H11 locs11 u11 v11 hR hP hS => ?_)
  have hF := hF.puts u11 0 rfl (by decide) (by decide) (by decide) (by decide)
  have t12 : (σ11 387 5).toInt = (σ6 387 5).toInt := congrArg Int32.toInt (u11 387 5 (by omega))
  have t13 : (σ11 387 3).toInt = (σ6 387 3).toInt := congrArg Int32.toInt (u11 387 3 (by omega))
  have t14 : (σ11 387 2).toInt = (σ6 387 2).toInt := congrArg Int32.toInt (u11 387 2 (by omega))
  refine lv_aload_n hx hb dX12_taken_18 rfl (lv_at hl 0 rfl) ?_
  refine lv_iload_n hx hb dX12_taken_19 rfl (lv_at hl 1 rfl) ?_
  refine fp_12_5 (k := 387) hx hb hts in_X12_taken_12 hown hK hP (by decide) (by decide) (hts _ lk_X12_taken_24) hI hR hS (by omega) dX12_taken_20 (fun σ15 H15 locs15 u15 v15 hR hP hS => ?_)
  have hF := hF.puts u15 0 rfl (by decide) (by decide) (by decide) (by decide)
  have t16 : (σ15 387 3).toInt = (σ11 387 3).toInt := congrArg Int32.toInt (u15 387 3 (by omega))
  have t17 : (σ15 387 2).toInt = (σ11 387 2).toInt := congrArg Int32.toInt (u15 387 2 (by omega))
  have t18 : (σ15 387 4).toInt = (σ11 387 4).toInt := congrArg Int32.toInt (u15 387 4 (by omega))
  exact r_vret hx hb hr hK hP hS hk dX12_taken_23 (show P_X12_taken σ0 τ0 a1 σ15 τ0 from ⟨hR, hF, hFL, by omega, by omega, by omega, by omega⟩)
theorem in_X12_valley_12 : ∀ w ∈ u_ws RX12 TX12 47, w ∈ wsX12_valley := by decide +kernel
theorem lk_X12_valley_1 : Cond.fieldLink RX12 1 "CuckooSharesModel" "thrown" "I" ∈ wsX12_valley := by decide +kernel
theorem lk_X12_valley_159 : Cond.fieldLink RX12 159 "CuckooSharesModel" "token" "I" ∈ wsX12_valley := by decide +kernel
theorem lk_X12_valley_176 : Cond.fieldLink RX12 176 "CuckooSharesModel" "fault" "I" ∈ wsX12_valley := by decide +kernel
theorem lk_X12_valley_179 : Cond.fieldLink RX12 179 "CuckooSharesModel" "faultAt" "I" ∈ wsX12_valley := by decide +kernel
theorem lk_X12_valley_213 : Cond.fieldLink RX12 213 "CuckooSharesModel" "onces" "I" ∈ wsX12_valley := by decide +kernel
theorem lk_X12_valley_232 : Cond.fieldLink RX12 232 "CuckooSharesModel" "falls" "I" ∈ wsX12_valley := by decide +kernel
theorem lk_X12_valley_247 : Cond.fieldLink RX12 247 "CuckooSharesModel" "lines" "I" ∈ wsX12_valley := by decide +kernel
theorem lk_X12_valley_256 : Cond.fieldLink RX12 256 "CuckooSharesModel" "undoMany" "I" ∈ wsX12_valley := by decide +kernel
theorem lk_X12_valley_33 : Cond.fieldLink RX12 33 "CuckooSharesModel" "s" "[I" ∈ wsX12_valley := by decide +kernel
theorem lk_X12_valley_37 : Cond.fieldLink RX12 37 "CuckooSharesModel" "h" "[I" ∈ wsX12_valley := by decide +kernel
theorem lk_X12_valley_43 : Cond.fieldLink RX12 43 "CuckooSharesModel" "names" "[J" ∈ wsX12_valley := by decide +kernel
abbrev L_X12_valley : List Rc := [(387, 387, 0, 0), (387, 387, 2, 5), (390, 390, 0, 210), (389, 389, 0, 426), (387, 387, 29, 29), (387, 387, 11, 16), (387, 387, 18, 21)]
abbrev LL_X12_valley : List Rc := [(387, 387, 17, 17), (392, 392, 0, 31)]
def P_X12_valley (σ0 : Nat → Nat → Int32) (τ0 : Nat → Nat → Int64) (b : Nat → Int) (N : Nat) (r : Int32) (σ : Nat → Nat → Int32) (τ : Nat → Nat → Int64) : Prop := Rg σ ∧ Fr L_X12_valley σ0 σ ∧ FrL LL_X12_valley τ0 τ ∧ ((σ 387 2).toInt = 0) ∧ (r.toInt = valA b N) ∧ (VPm σ0 σ b N) ∧ (VNm τ0 τ b N) ∧ ((σ 387 15).toInt = kndP (valP b N 900 941 0 (z00 b N 900))) ∧ SI σ ∧ RV τ 
def J_X12_valley_34 (p : Program) (l : Launch) (e : Env) (s : State) (m : MethodId) (args : Array Value) (below : List Frame) (meth : Method) (c : Code) (D : va_G) (cA : Nat → ClassId) (ad : Nat → Nat) (σ0 : Nat → Nat → Int32) (τ0 : Nat → Nat → Int64) (b : Nat → Int) (N : Nat) (n : Nat) : Prop := ∀ (σ : Nat → Nat → Int32) (τ : Nat → Nat → Int64) (H : Heap) (locs : List Loc) (x1 : Int32) (ls : Array Slot), Rg σ → Fr L_X12_valley σ0 σ → FrL LL_X12_valley τ0 τ → va_P D vwCl (gw cA ad σ τ) H → va_S (AA ad) s.heap H locs → (0 ≤ x1.toInt ∧ x1.toInt ≤ 255) → (0 ≤ (σ 387 4).toInt ∧ (σ 387 4).toInt ≤ 940) → (0 ≤ (σ 387 3).toInt ∧ (σ 387 3).toInt ≤ 940) → (0 ≤ (σ 387 2).toInt ∧ (σ 387 2).toInt ≤ 0) → (0 ≤ (σ 387 5).toInt ∧ (σ 387 5).toInt ≤ 940) → (0 ≤ (σ 387 15).toInt ∧ (σ 387 15).toInt ≤ 0) → (0 ≤ (σ 387 19).toInt ∧ (σ 387 19).toInt ≤ 0) → (0 ≤ (σ 387 20).toInt ∧ (σ 387 20).toInt ≤ 0) → (0 ≤ (σ 387 21).toInt ∧ (σ 387 21).toInt ≤ 0) → (∀ j : Nat, (j : Int) < x1.toInt → (σ 390 j).toInt = 0) → ((σ 387 19).toInt = 0) → ((σ 387 20).toInt = 0) → ((σ 387 21).toInt = 0) → ((σ 387 4).toInt = 0) → ((σ 387 2).toInt = 0) → ((σ 387 15).toInt = 0) → (SI σ) → (RV τ ) → (MT σ b N 900) → (SA σ σ0) → (SB τ τ0) → lv_has ls 2 [(0, .ref (ad 387)), (1, .int x1)] → 184450195 * (255 - x1.toInt) + 184450194 < (n : Int) → W p l e ({ frames := 6, cells := 0, slots := 0, locals := 133 } : Room) s m args below meth c H locs 0 0 (MQ below (va_Qi (fun (r : Int32) (u : SS) => P_X12_valley σ0 τ0 b N r u.1 u.2) (WB D cA ad) (AA ad)) args s 0 0 (AA ad)) (F0 m 34 ls [])
def J_X12_valley_74 (p : Program) (l : Launch) (e : Env) (s : State) (m : MethodId) (args : Array Value) (below : List Frame) (meth : Method) (c : Code) (D : va_G) (cA : Nat → ClassId) (ad : Nat → Nat) (σ0 : Nat → Nat → Int32) (τ0 : Nat → Nat → Int64) (b : Nat → Int) (N : Nat) (n : Nat) : Prop := ∀ (σ : Nat → Nat → Int32) (τ : Nat → Nat → Int64) (H : Heap) (locs : List Loc) (x1 : Int32) (fu : Nat) (nl : Nat) (q : Nat) (h : Nat → Int) (nm : Nat → Int) (ls : Array Slot), Rg σ → Fr L_X12_valley σ0 σ → FrL LL_X12_valley τ0 τ → va_P D vwCl (gw cA ad σ τ) H → va_S (AA ad) s.heap H locs → (211 ≤ x1.toInt ∧ x1.toInt ≤ 255) → (0 ≤ (σ 387 3).toInt ∧ (σ 387 3).toInt ≤ 940) → (0 ≤ (σ 387 2).toInt ∧ (σ 387 2).toInt ≤ 0) → (0 ≤ (σ 387 5).toInt ∧ (σ 387 5).toInt ≤ 940) → (0 ≤ (σ 387 19).toInt ∧ (σ 387 19).toInt ≤ 941) → (0 ≤ (σ 387 4).toInt ∧ (σ 387 4).toInt ≤ 940) → (valP b N 900 941 0 (z00 b N 900) = valP b N 900 fu nl (q, h, nm, σ 387 20, σ 387 21)) → ((σ 387 19).toInt = (nl : Int)) → (fu + nl = 941) → (nl ≤ q) → (q ≤ N ∧ (900 < N → q ≤ 900)) → (N ≤ 940) → ((σ 387 2).toInt = 0) → ((σ 387 15).toInt = 0) → (SI σ) → (RV τ ) → (HI σ) → (MT σ b N 900) → (MK σ τ b N 900 q) → (MH σ h) → (MN τ h nm) → (SA σ σ0) → (SB τ τ0) → lv_has ls 2 [(0, .ref (ad 387)), (1, .int x1)] → 195807 * (940 - (σ 387 4).toInt) + 195806 < (n : Int) → W p l e ({ frames := 6, cells := 0, slots := 0, locals := 133 } : Room) s m args below meth c H locs 0 0 (MQ below (va_Qi (fun (r : Int32) (u : SS) => P_X12_valley σ0 τ0 b N r u.1 u.2) (WB D cA ad) (AA ad)) args s 0 0 (AA ad)) (F0 m 74 ls [])
def J_X12_valley_119 (p : Program) (l : Launch) (e : Env) (s : State) (m : MethodId) (args : Array Value) (below : List Frame) (meth : Method) (c : Code) (D : va_G) (cA : Nat → ClassId) (ad : Nat → Nat) (σ0 : Nat → Nat → Int32) (τ0 : Nat → Nat → Int64) (b : Nat → Int) (N : Nat) (n : Nat) : Prop := ∀ (σ : Nat → Nat → Int32) (τ : Nat → Nat → Int64) (H : Heap) (locs : List Loc) (x1 : Int32) (ls : Array Slot), Rg σ → Fr L_X12_valley σ0 σ → FrL LL_X12_valley τ0 τ → va_P D vwCl (gw cA ad σ τ) H → va_S (AA ad) s.heap H locs → (0 ≤ x1.toInt ∧ x1.toInt ≤ 441) → (0 ≤ (σ 387 3).toInt ∧ (σ 387 3).toInt ≤ 940) → (0 ≤ (σ 387 2).toInt ∧ (σ 387 2).toInt ≤ 0) → (0 ≤ (σ 387 5).toInt ∧ (σ 387 5).toInt ≤ 940) → (0 ≤ (σ 387 19).toInt ∧ (σ 387 19).toInt ≤ 941) → (0 ≤ (σ 387 4).toInt ∧ (σ 387 4).toInt ≤ 940) → (0 ≤ (σ 387 11).toInt ∧ (σ 387 11).toInt ≤ 0) → (∀ j : Nat, (j : Int) < x1.toInt → j < 211 → σ 389 j = σ 390 j) → (∀ j : Nat, (j : Int) < x1.toInt → 211 ≤ j → (σ 389 j).toInt = 0) → ((σ 387 19).toInt = valA b N) → ((σ 387 2).toInt = 0) → ((σ 387 15).toInt = 0) → (RV τ ) → (HI σ) → (VH σ b N) → (VM τ b N) → lv_has ls 2 [(0, .ref (ad 387)), (1, .int x1)] → 442 * (441 - x1.toInt) + 441 < (n : Int) → W p l e ({ frames := 6, cells := 0, slots := 0, locals := 133 } : Room) s m args below meth c H locs 0 0 (MQ below (va_Qi (fun (r : Int32) (u : SS) => P_X12_valley σ0 τ0 b N r u.1 u.2) (WB D cA ad) (AA ad)) args s 0 0 (AA ad)) (F0 m 119 ls [])
def J_X12_valley_157 (p : Program) (l : Launch) (e : Env) (s : State) (m : MethodId) (args : Array Value) (below : List Frame) (meth : Method) (c : Code) (D : va_G) (cA : Nat → ClassId) (ad : Nat → Nat) (σ0 : Nat → Nat → Int32) (τ0 : Nat → Nat → Int64) (b : Nat → Int) (N : Nat) (n : Nat) : Prop := ∀ (σ : Nat → Nat → Int32) (τ : Nat → Nat → Int64) (H : Heap) (locs : List Loc) (x1 : Int32) (ls : Array Slot), Rg σ → Fr L_X12_valley σ0 σ → FrL LL_X12_valley τ0 τ → va_P D vwCl (gw cA ad σ τ) H → va_S (AA ad) s.heap H locs → (0 ≤ x1.toInt ∧ x1.toInt ≤ 19) → (0 ≤ (σ 387 3).toInt ∧ (σ 387 3).toInt ≤ 940) → (0 ≤ (σ 387 2).toInt ∧ (σ 387 2).toInt ≤ 0) → (0 ≤ (σ 387 5).toInt ∧ (σ 387 5).toInt ≤ 940) → (0 ≤ (σ 387 19).toInt ∧ (σ 387 19).toInt ≤ 941) → (0 ≤ (σ 387 4).toInt ∧ (σ 387 4).toInt ≤ 940) → (0 ≤ (σ 387 11).toInt ∧ (σ 387 11).toInt ≤ 0) → ((σ 387 19).toInt = valA b N) → ((σ 387 2).toInt = 0) → (∀ k : Nat, (k : Int) < x1.toInt → τ 392 k = τ 392 (16 + k)) → ((σ 387 15).toInt = 0) → (SI σ) → (RV τ ) → (VS σ b N) → (VM τ b N) → lv_has ls 2 [(0, .ref (ad 387)), (1, .int x1)] → 21 * (19 - x1.toInt) + 20 < (n : Int) → W p l e ({ frames := 6, cells := 0, slots := 0, locals := 133 } : Room) s m args below meth c H locs 0 0 (MQ below (va_Qi (fun (r : Int32) (u : SS) => P_X12_valley σ0 τ0 b N r u.1 u.2) (WB D cA ad) (AA ad)) args s 0 0 (AA ad)) (F0 m 157 ls [])
def J_X12_valley_186 (p : Program) (l : Launch) (e : Env) (s : State) (m : MethodId) (args : Array Value) (below : List Frame) (meth : Method) (c : Code) (D : va_G) (cA : Nat → ClassId) (ad : Nat → Nat) (σ0 : Nat → Nat → Int32) (τ0 : Nat → Nat → Int64) (b : Nat → Int) (N : Nat) (n : Nat) : Prop := ∀ (σ : Nat → Nat → Int32) (τ : Nat → Nat → Int64) (H : Heap) (locs : List Loc) (x1 : Int32) (ls : Array Slot), Rg σ → Fr L_X12_valley σ0 σ → FrL LL_X12_valley τ0 τ → va_P D vwCl (gw cA ad σ τ) H → va_S (AA ad) s.heap H locs → (0 ≤ x1.toInt ∧ x1.toInt ≤ 8) → (0 ≤ (σ 387 3).toInt ∧ (σ 387 3).toInt ≤ 940) → (0 ≤ (σ 387 2).toInt ∧ (σ 387 2).toInt ≤ 0) → (0 ≤ (σ 387 5).toInt ∧ (σ 387 5).toInt ≤ 940) → (0 ≤ (σ 387 19).toInt ∧ (σ 387 19).toInt ≤ 941) → (0 ≤ (σ 387 4).toInt ∧ (σ 387 4).toInt ≤ 940) → (0 ≤ (σ 387 11).toInt ∧ (σ 387 11).toInt ≤ 0) → ((σ 387 19).toInt = valA b N) → ((σ 387 2).toInt = 0) → ((σ 387 15).toInt = 0) → (SI σ) → (RV τ ) → (VS σ b N) → (VQ τ b N) → lv_has ls 2 [(0, .ref (ad 387)), (1, .int x1)] → 2 * (8 - x1.toInt) + 1 < (n : Int) → W p l e ({ frames := 6, cells := 0, slots := 0, locals := 133 } : Room) s m args below meth c H locs 0 0 (MQ below (va_Qi (fun (r : Int32) (u : SS) => P_X12_valley σ0 τ0 b N r u.1 u.2) (WB D cA ad) (AA ad)) args s 0 0 (AA ad)) (F0 m 186 ls [])
set_option maxHeartbeats 4000000 in
theorem B_X12_valley_34 (p : Program) (l : Launch) (e : Env) (s : State) (m : MethodId) (args : Array Value) (below : List Frame) (meth : Method) (c : Code) (D : va_G) (cA : Nat → ClassId) (ad : Nat → Nat) (σ0 : Nat → Nat → Int32) (τ0 : Nat → Nat → Int64) (b : Nat → Int) (N : Nat) (n : Nat) (C : Cy p s m args meth c cX12_valley 2 wsX12_valley RX12 D cA ad (some .int)) (hpre0 : (σ0 387 2).toInt = (N : Int) ∧ N ≤ 940 ∧ ∀ j : Nat, j < N → bM σ0 j = b j) (gSI0 : SI σ0) (gRV0 : RV τ0 ) (K34 : J_X12_valley_34 p l e s m args below meth c D cA ad σ0 τ0 b N n) (K74 : J_X12_valley_74 p l e s m args below meth c D cA ad σ0 τ0 b N n) (K119 : J_X12_valley_119 p l e s m args below meth c D cA ad σ0 τ0 b N n) (K157 : J_X12_valley_157 p l e s m args below meth c D cA ad σ0 τ0 b N n) (K186 : J_X12_valley_186 p l e s m args below meth c D cA ad σ0 τ0 b N n) : J_X12_valley_34 p l e s m args below meth c D cA ad σ0 τ0 b N (n + 1) := by
  obtain ⟨hx, hb, hml, hown, hts, hK, hk, hr, hI, hN⟩ := C
  intro σ τ H locs x1 ls hR hF hFL hP hS hc0 hc1 hc2 hc3 hc4 hc5 hc6 hc7 hc8 iz1 iln i20 i21 ip4 il2 iz15 gSI gRV gMT gSA gSB hl hm
  refine lv_iload_n hx hb dX12_valley_34 rfl (lv_at hl 1 rfl) ?_
  refine r_sipush hx hb dX12_valley_35 (by decide) (fun z1 ez1 => ?_)
  refine r_icmp_ge (tgt := 54) hx hb dX12_valley_38 (by decide) (fun c2 => ?_) (fun c2 => ?_)
  · have gHI := HI.zero (σ := σ) (fun j hj => iz1 j (by omega))
    refine lv_aload_n hx hb dX12_valley_54 rfl (lv_at hl 0 rfl) ?_
    refine fg_12_7 (k := 387) hx hb hts in_X12_valley_12 hown hK hP (by decide) (by decide) (hts _ lk_X12_valley_37) dX12_valley_55 ?_
    refine r_iconst hx hb dX12_valley_58 (by decide) (fun z3 ez3 => ?_)
    refine r_bipush hx hb dX12_valley_59 (by decide) (fun z4 ez4 => ?_)
    refine as_mh (k := 390) (j := 3) hx hb hK hP hI hR hS (by decide) (by decide) (by omega) (by omega) (rx_mh_3 (by decide) (by decide) (by decide) (by decide)) dX12_valley_61 (fun σ5 H5 locs5 u5 v5 hR hP hS => ?_)
    have uq61 := u5
    have vq61 := v5
    have hF := hF.puts u5 2 rfl (by decide) (by decide) (by decide) (by decide)
    have gHI := HI.put gHI u5 (by decide)
    have gMT := gMT.ag (Agr.put u5 (by decide))
    have gSA := gSA.ag (Agr.put u5 (by decide))
    have gSI := SI.put gSI hR u5 (by decide)
    have t6 : (σ5 387 11).toInt = (σ 387 11).toInt := congrArg Int32.toInt (u5 387 11 (by omega))
    have t7 : (σ5 387 16).toInt = (σ 387 16).toInt := congrArg Int32.toInt (u5 387 16 (by omega))
    have t8 : (σ5 387 4).toInt = (σ 387 4).toInt := congrArg Int32.toInt (u5 387 4 (by omega))
    have t9 : (σ5 387 3).toInt = (σ 387 3).toInt := congrArg Int32.toInt (u5 387 3 (by omega))
    have t10 : (σ5 387 2).toInt = (σ 387 2).toInt := congrArg Int32.toInt (u5 387 2 (by omega))
    have t11 : (σ5 387 5).toInt = (σ 387 5).toInt := congrArg Int32.toInt (u5 387 5 (by omega))
    have t12 : (σ5 387 15).toInt = (σ 387 15).toInt := congrArg Int32.toInt (u5 387 15 (by omega))
    have t13 : (σ5 387 19).toInt = (σ 387 19).toInt := congrArg Int32.toInt (u5 387 19 (by omega))
    have t14 : (σ5 387 20).toInt = (σ 387 20).toInt := congrArg Int32.toInt (u5 387 20 (by omega))
    have t15 : (σ5 387 21).toInt = (σ 387 21).toInt := congrArg Int32.toInt (u5 387 21 (by omega))
    refine lv_aload_n hx hb dX12_valley_62 rfl (lv_at hl 0 rfl) ?_
    refine fg_12_7 (k := 387) hx hb hts in_X12_valley_12 hown hK hP (by decide) (by decide) (hts _ lk_X12_valley_37) dX12_valley_63 ?_
    refine r_iconst hx hb dX12_valley_66 (by decide) (fun z16 ez16 => ?_)
    refine r_bipush hx hb dX12_valley_67 (by decide) (fun z17 ez17 => ?_)
    refine as_mh (k := 390) (j := 4) hx hb hK hP hI hR hS (by decide) (by decide) (by omega) (by omega) (rx_mh_3 (by decide) (by decide) (by decide) (by decide)) dX12_valley_69 (fun σ18 H18 locs18 u18 v18 hR hP hS => ?_)
    have uq69 := u18
    have vq69 := v18
    have hF := hF.puts u18 2 rfl (by decide) (by decide) (by decide) (by decide)
    have gHI := HI.put gHI u18 (by decide)
    have gMT := gMT.ag (Agr.put u18 (by decide))
    have gSA := gSA.ag (Agr.put u18 (by decide))
    have gSI := SI.put gSI hR u18 (by decide)
    have t19 : (σ18 387 11).toInt = (σ5 387 11).toInt := congrArg Int32.toInt (u18 387 11 (by omega))
    have t20 : (σ18 387 16).toInt = (σ5 387 16).toInt := congrArg Int32.toInt (u18 387 16 (by omega))
    have t21 : (σ18 387 4).toInt = (σ5 387 4).toInt := congrArg Int32.toInt (u18 387 4 (by omega))
    have t22 : (σ18 387 3).toInt = (σ5 387 3).toInt := congrArg Int32.toInt (u18 387 3 (by omega))
    have t23 : (σ18 387 2).toInt = (σ5 387 2).toInt := congrArg Int32.toInt (u18 387 2 (by omega))
    have t24 : (σ18 387 5).toInt = (σ5 387 5).toInt := congrArg Int32.toInt (u18 387 5 (by omega))
    have t25 : (σ18 387 15).toInt = (σ5 387 15).toInt := congrArg Int32.toInt (u18 387 15 (by omega))
    have t26 : (σ18 387 19).toInt = (σ5 387 19).toInt := congrArg Int32.toInt (u18 387 19 (by omega))
    have t27 : (σ18 387 20).toInt = (σ5 387 20).toInt := congrArg Int32.toInt (u18 387 20 (by omega))
    have t28 : (σ18 387 21).toInt = (σ5 387 21).toInt := congrArg Int32.toInt (u18 387 21 (by omega))
    have gMH := MH.z00 (fun j hj => iz1 j (by omega)) uq61 (by omega) uq69 (by omega)
    have gMP : MP σ18 b N 900 (posq b N 900 0) := ⟨0, by omega, Nat.zero_le _, rfl⟩
    have gMN : MN τ h00 (fun _ => 0) := MN.z00
    refine lv_aload_n hx hb dX12_valley_70 rfl (lv_at hl 0 rfl) ?_
    refine r_cVv (k := 387) (As := []) (rest := []) ⟨hx, hb, hml, hown, hts⟩ hK hP hN hS (c_X12_next_v l D cA ad hI σ18 τ hR b N 900 _ gMP gMT) (cwV 0 hts gX12_valley_X12_next rfl rfl rfl (by decide +kernel) ⟨by decide, by decide⟩) (rv_M hK hP (by decide) (by decide)) rfl hl.1 rfl (Nat.le_of_ble_eq_true rfl) dX12_valley_71 (Nat.zero_le _) (Nat.zero_le _) (fun u29 H29 locs29 hp29 hP hS => ?_)
    obtain ⟨σ29, τ29⟩ := u29
    obtain ⟨hR, f29, fL29, hp29_0, hp29_1, hp29_2, hp29_3, gnMT⟩ : P_X12_next_v σ18 τ b N 900 _ σ29 τ29 := hp29
    have fq71 := f29
    have hP : va_P D vwCl (gw cA ad σ29 τ29) H29 := hP
    have hFL := hFL.step fL29 (by decide)
    have gMN := gMN.agL (AgrL.fr fL29 (by decide))
    have gRV := gRV.agL (AgrL.fr fL29 (by decide))
    have gSB := gSB.agL (AgrL.fr fL29 (by decide))
    have hF := hF.step f29 (by decide)
    have gHI := HI.fr gHI f29 (by decide)
    have gMH := gMH.ag (Agr.fr f29 (by decide))
    have gMT := gMT.ag (Agr.fr f29 (by decide))
    have gSA := gSA.ag (Agr.fr f29 (by decide))
    have gSI := SI.fr gSI hR f29 (by decide)
    have t30 : (σ29 387 16).toInt = (σ18 387 16).toInt := congrArg Int32.toInt (f29.at 387 16 (by decide))
    have t31 : (σ29 387 3).toInt = (σ18 387 3).toInt := congrArg Int32.toInt (f29.at 387 3 (by decide))
    have t32 : (σ29 387 2).toInt = (σ18 387 2).toInt := congrArg Int32.toInt (f29.at 387 2 (by decide))
    have t33 : (σ29 387 5).toInt = (σ18 387 5).toInt := congrArg Int32.toInt (f29.at 387 5 (by decide))
    have t34 : (σ29 387 15).toInt = (σ18 387 15).toInt := congrArg Int32.toInt (f29.at 387 15 (by decide))
    have t35 : (σ29 387 19).toInt = (σ18 387 19).toInt := congrArg Int32.toInt (f29.at 387 19 (by decide))
    have t36 : (σ29 387 20).toInt = (σ18 387 20).toInt := congrArg Int32.toInt (f29.at 387 20 (by decide))
    have t37 : (σ29 387 21).toInt = (σ18 387 21).toInt := congrArg Int32.toInt (f29.at 387 21 (by decide))
    have hr38 := rg_12_4 hR (k := 387) (by decide) (by decide)
    have gMK := hp29_3
    exact K74 σ29 τ29 H29 locs29 x1 941 0 _ _ _ ls hR hF hFL hP hS (by omega) (by omega) (by omega) (by omega) (by omega) (by omega) (by first | (rw [ivm, valP_s (show tkq b N 900 q ≠ 48 by omega) hgo.1, (show σ29 387 20 = z1.2.2.2.1 from (uq111 387 20 (by omega)).trans ((fq91.at 387 20 (by decide)).trans g20)), (show σ29 387 21 = z1.2.2.2.2 from (uq111 387 21 (by omega)).trans ((fq91.at 387 21 (by decide)).trans g21))]; try rfl) | (unfold z00; rw [i32_0.mp (show (σ29 387 20).toInt = 0 by omega), i32_0.mp (show (σ29 387 21).toInt = 0 by omega)])) (by omega) (by omega) (by first | exact Nat.zero_le _ | (have h9 := hgo.2.1; dsimp only at h9; omega)) (by first | exact posq_ok | exact hgo.2.2 iqN.1 iqN.2) (by first | exact iN9 | exact hpre0.2.1) (by omega) (by omega) gSI gRV gHI gMT gMK gMH gMN gSA gSB (lv_sub hl [0, 1] rfl) (by omega)
  · refine lv_aload_n hx hb dX12_valley_41 rfl (lv_at hl 0 rfl) ?_
    refine fg_12_7 (k := 387) hx hb hts in_X12_valley_12 hown hK hP (by decide) (by decide) (hts _ lk_X12_valley_37) dX12_valley_42 ?_
    refine lv_iload_n hx hb dX12_valley_45 rfl (lv_at hl 1 rfl) ?_
    refine r_iconst hx hb dX12_valley_46 (by decide) (fun z39 ez39 => ?_)
    obtain ⟨j40, ej40⟩ : ∃ j : Nat, x1.toInt = (j : Int) := ⟨_, ti_nat (by omega)⟩
    refine as_mh (k := 390) (j := j40) hx hb hK hP hI hR hS (by decide) (by decide) ej40 (by omega) (mc_zh (by omega) (by omega)) dX12_valley_47 (fun σ41 H41 locs41 u41 v41 hR hP hS => ?_)
    have uz := u41
    have vz := v41
    have hF := hF.puts u41 2 rfl (by decide) (by decide) (by omega) (by omega)
    have gMT := gMT.ag (Agr.putV u41 (by intro q hq; simp only [Gd_MT, List.mem_cons, List.not_mem_nil, or_false] at hq; rcases hq with rfl | rfl | rfl <;> dsimp only [inRc] <;> omega))
    have gSA := gSA.ag (Agr.putV u41 (by intro q hq; simp only [Gd_SA, List.mem_cons, List.not_mem_nil, or_false] at hq; rcases hq with rfl <;> dsimp only [inRc] <;> omega))
    have gSI := SI.putV gSI hR u41 (by intro q hq; simp only [Gd_SI, List.mem_cons, List.not_mem_nil, or_false] at hq; rcases hq with rfl | rfl | rfl <;> dsimp only [inRc] <;> omega)
    have t42 : (σ41 387 11).toInt = (σ 387 11).toInt := congrArg Int32.toInt (u41 387 11 (by omega))
    have t43 : (σ41 387 16).toInt = (σ 387 16).toInt := congrArg Int32.toInt (u41 387 16 (by omega))
    have t44 : (σ41 387 4).toInt = (σ 387 4).toInt := congrArg Int32.toInt (u41 387 4 (by omega))
    have t45 : (σ41 387 3).toInt = (σ 387 3).toInt := congrArg Int32.toInt (u41 387 3 (by omega))
    have t46 : (σ41 387 2).toInt = (σ 387 2).toInt := congrArg Int32.toInt (u41 387 2 (by omega))
    have t47 : (σ41 387 5).toInt = (σ 387 5).toInt := congrArg Int32.toInt (u41 387 5 (by omega))
    have t48 : (σ41 387 15).toInt = (σ 387 15).toInt := congrArg Int32.toInt (u41 387 15 (by omega))
    have t49 : (σ41 387 19).toInt = (σ 387 19).toInt := congrArg Int32.toInt (u41 387 19 (by omega))
    have t50 : (σ41 387 20).toInt = (σ 387 20).toInt := congrArg Int32.toInt (u41 387 20 (by omega))
    have t51 : (σ41 387 21).toInt = (σ 387 21).toInt := congrArg Int32.toInt (u41 387 21 (by omega))
    refine r_iinc (k := 1) (lv1 := fun z52 => [(1, .int z52), (0, .ref (ad 387))]) hx hb dX12_valley_48 hl rfl (by decide) (fun _ => rfl) (by decide) (by omega) (fun z52 ls ez52 hl => ?_)
    refine lv_goto (tgt := 34) hx hb dX12_valley_51 (by decide) ?_
    exact K34 σ41 τ H41 locs41 z52 ls hR hF hFL hP hS (by omega) (by omega) (by omega) (by omega) (by omega) (by omega) (by omega) (by omega) (by omega) (by first | exact (fun j hj => absurd hj (by omega)) | exact Z1st iz1 uz (by omega) (by omega)) (by omega) (by omega) (by omega) (by omega) (by omega) (by omega) gSI gRV gMT gSA gSB (lv_sub hl [1, 0] rfl) (by omega)
set_option maxHeartbeats 4000000 in
theorem B_X12_valley_74 (p : Program) (l : Launch) (e : Env) (s : State) (m : MethodId) (args : Array Value) (below : List Frame) (meth : Method) (c : Code) (D : va_G) (cA : Nat → ClassId) (ad : Nat → Nat) (σ0 : Nat → Nat → Int32) (τ0 : Nat → Nat → Int64) (b : Nat → Int) (N : Nat) (n : Nat) (C : Cy p s m args meth c cX12_valley 2 wsX12_valley RX12 D cA ad (some .int)) (hpre0 : (σ0 387 2).toInt = (N : Int) ∧ N ≤ 940 ∧ ∀ j : Nat, j < N → bM σ0 j = b j) (gSI0 : SI σ0) (gRV0 : RV τ0 ) (K34 : J_X12_valley_34 p l e s m args below meth c D cA ad σ0 τ0 b N n) (K74 : J_X12_valley_74 p l e s m args below meth c D cA ad σ0 τ0 b N n) (K119 : J_X12_valley_119 p l e s m args below meth c D cA ad σ0 τ0 b N n) (K157 : J_X12_valley_157 p l e s m args below meth c D cA ad σ0 τ0 b N n) (K186 : J_X12_valley_186 p l e s m args below meth c D cA ad σ0 τ0 b N n) : J_X12_valley_74 p l e s m args below meth c D cA ad σ0 τ0 b N (n + 1) := by
  obtain ⟨hx, hb, hml, hown, hts, hK, hk, hr, hI, hN⟩ := C
  intro σ τ H locs x1 fu nl q h nm ls hR hF hFL hP hS hc0 hc1 hc2 hc3 hc4 hc5 ivm iln ifu inq iqN iN9 il2 iz15 gSI gRV gHI gMT gMK gMH gMN gSA gSB hl hm
  have hkd := gMK.kd
  refine lv_aload_n hx hb dX12_valley_74 rfl (lv_at hl 0 rfl) ?_
  refine fg_12_11 (k := 387) hx hb hts in_X12_valley_12 hown hK hP (by decide) (by decide) (hts _ lk_X12_valley_159) dX12_valley_75 ?_
  refine r_if_eq (tgt := 117) hx hb dX12_valley_78 (by decide) (fun c1 => ?_) (fun c1 => ?_)
  · have hva : valA b N = (nl : Int) := valA_r (y := (nl, q, h, nm, σ 387 20, σ 387 21)) (by rw [ivm, valP_e (show tkq b N 900 q = 48 by omega)])
    have gVH : VH σ b N := VH.of (nl := nl) (q := q) (nm := nm) (x := σ 387 20) (y := σ 387 21) (by rw [ivm, valP_e (show tkq b N 900 q = 48 by omega)]) gMH
    have gVM : VM τ b N := VM.of (nl := nl) (q := q) (h := h) (x := σ 387 20) (y := σ 387 21) (by rw [ivm, valP_e (show tkq b N 900 q = 48 by omega)]) gMN
    refine r_iconst hx hb dX12_valley_117 (by decide) (fun z2 ez2 => ?_)
    refine lv_istore_n (lv' := [(1, .int z2), (0, .ref (ad 387))]) hx hb dX12_valley_118 rfl hl (by decide) rfl (fun ls hl => ?_)
    exact K119 σ τ H locs z2 ls hR hF hFL hP hS (by omega) (by omega) (by omega) (by omega) (by omega) (by omega) (by omega) (by first | exact (fun j hj _ => absurd hj (by omega)) | exact V1st hi0 us (by omega) (fun _ => by omega) (by omega)) (by first | exact (fun j hj _ => absurd hj (by omega)) | exact V2st hi1 us (by omega) (fun _ => by omega) (by omega)) (by omega) (by omega) (by omega) gRV gHI gVH gVM (lv_sub hl [1, 0] rfl) (by omega)
  · obtain ⟨fu0, rfl⟩ : ∃ x, fu = x + 1 := ⟨fu - 1, by omega⟩
    refine lv_aload_n hx hb dX12_valley_81 rfl (lv_at hl 0 rfl) ?_
    refine r_cVi (k := 387) (As := []) (rest := []) ⟨hx, hb, hml, hown, hts⟩ hK hP hN hS (c_X12_line l D cA ad hI σ τ hR b N 900 q h nm gHI gMT gMK gRV gMN gMH) (cwV 0 hts gX12_valley_X12_line rfl rfl rfl (by decide +kernel) ⟨by decide, by decide⟩) (rv_M hK hP (by decide) (by decide)) rfl hl.1 rfl (Nat.le_of_ble_eq_true rfl) dX12_valley_82 (Nat.zero_le _) (Nat.zero_le _) (fun r3 u3 H3 locs3 hp3 hP hS => ?_)
    obtain ⟨σ3, τ3⟩ := u3
    obtain ⟨hR, f3, fL3, hq3, hp3_0, hp3_1, hp3_2, hp3_3, gnHI, gnMT, gnRV⟩ : P_X12_line σ τ b N 900 q h nm r3 σ3 τ3 := hp3
    have o1 := hp3_2
    have hP : va_P D vwCl (gw cA ad σ3 τ3) H3 := hP
    have hFL := hFL.step fL3 (by decide)
    have gRV := gRV.agL (AgrL.fr fL3 (by decide))
    have gSB := gSB.agL (AgrL.fr fL3 (by decide))
    have hF := hF.step f3 (by decide)
    have gMT := gMT.ag (Agr.fr f3 (by decide))
    have gSA := gSA.ag (Agr.fr f3 (by decide))
    have gSI := SI.fr gSI hR f3 (by decide)
    have t4 : (σ3 387 3).toInt = (σ 387 3).toInt := congrArg Int32.toInt (f3.at 387 3 (by decide))
    have t5 : (σ3 387 2).toInt = (σ 387 2).toInt := congrArg Int32.toInt (f3.at 387 2 (by decide))
    have t6 : (σ3 387 5).toInt = (σ 387 5).toInt := congrArg Int32.toInt (f3.at 387 5 (by decide))
    have t7 : (σ3 387 19).toInt = (σ 387 19).toInt := congrArg Int32.toInt (f3.at 387 19 (by decide))
    have hr8 := rg_12_4 hR (k := 387) (by decide) (by decide)
    have gHI := gnHI
    refine r_if_eq (tgt := 97) hx hb dX12_valley_85 (by decide) (fun c9 => ?_) (fun c9 => ?_)
    · clear hp3_1 hp3_3
      refine r_iconst hx hb dX12_valley_97 (by decide) (fun z10 ez10 => ?_)
      refine lv_aload_n hx hb dX12_valley_98 rfl (lv_at hl 0 rfl) ?_
      refine fg_12_16 (k := 387) hx hb hts in_X12_valley_12 hown hK hP (by decide) (by decide) (hts _ lk_X12_valley_179) dX12_valley_99 ?_
      have b12 := And.intro (ti_lo (σ3 387 16)) (ti_hi (σ3 387 16))
      refine r_isub hx hb dX12_valley_102 (by omega) (fun z11 ez11 => ?_)
      exact r_iret hx hb hr hK hP hS hk dX12_valley_103 (show P_X12_valley σ0 τ0 b N z11 σ3 τ3 from ⟨hR, hF, hFL, by omega, by first | omega | (obtain ⟨f, e2, x1, x2⟩ := o2.no (by omega); rw [valA_l (f := f) (by rw [ivm, valP_f (show tkq b N 900 q ≠ 48 by omega) (stp_f2 eL e2)])]; omega) | (obtain ⟨f, e1, x1, x2⟩ := o1.no (by omega); rw [valA_l (f := f) (by rw [ivm, valP_f (show tkq b N 900 q ≠ 48 by omega) (stpM_f e1)])]; omega), by first | exact Or.inr gVS | (obtain ⟨f, e2, x1, x2⟩ := o2.no (by omega); exact VPm.no (f := f) (by rw [ivm, valP_f (show tkq b N 900 q ≠ 48 by omega) (stp_f2 eL e2)]) gSA) | (obtain ⟨f, e1, x1, x2⟩ := o1.no (by omega); exact VPm.no (f := f) (by rw [ivm, valP_f (show tkq b N 900 q ≠ 48 by omega) (stpM_f e1)]) gSA), by first | exact Or.inr gVQ | (obtain ⟨f, e2, x1, x2⟩ := o2.no (by omega); exact VNm.no (f := f) (by rw [ivm, valP_f (show tkq b N 900 q ≠ 48 by omega) (stp_f2 eL e2)]) gSB) | (obtain ⟨f, e1, x1, x2⟩ := o1.no (by omega); exact VNm.no (f := f) (by rw [ivm, valP_f (show tkq b N 900 q ≠ 48 by omega) (stpM_f e1)]) gSB), by first | (obtain ⟨y9, ey9, _⟩ := gVS; rw [kndP_r ey9]; omega) | (obtain ⟨f, e2, x1, x2⟩ := o2.no (by omega); rw [kndP_l (f := f) (by rw [ivm, valP_f (show tkq b N 900 q ≠ 48 by omega) (stp_f2 eL e2)])]; omega) | (obtain ⟨f, e1, x1, x2⟩ := o1.no (by omega); rw [kndP_l (f := f) (by rw [ivm, valP_f (show tkq b N 900 q ≠ 48 by omega) (stpM_f e1)])]; omega), gSI, gRV⟩)
    · replace hp3_1 := hp3_1.resolve_left (by omega)
      replace hp3_3 := hp3_3.resolve_left (by omega)
      obtain ⟨z1, e1, gMK, gMH, gMN, g20, g21⟩ := o1.ye (by omega)
      have eL := linM_r e1
      refine lv_aload_n hx hb dX12_valley_88 rfl (lv_at hl 0 rfl) ?_
      refine r_bipush hx hb dX12_valley_89 (by decide) (fun z13 ez13 => ?_)
      refine r_cVi (k := 387) (As := [.int z13]) (rest := []) ⟨hx, hb, hml, hown, hts⟩ hK hP hN hS (c_X12_sign_v l D cA ad hI σ3 τ3 hR z13 b N 900 _ (by omega) (by omega) gMT gMK) (cwV 1 hts gX12_valley_X12_sign rfl rfl rfl (by decide +kernel) ⟨by decide, by decide⟩) (rv_M hK hP (by decide) (by decide)) rfl hl.1 rfl (Nat.le_of_ble_eq_true rfl) dX12_valley_91 (Nat.zero_le _) (Nat.zero_le _) (fun r14 u14 H14 locs14 hp14 hP hS => ?_)
      obtain ⟨σ14, τ14⟩ := u14
      obtain ⟨hR, f14, fL14, hq14, hp14_0, hp14_1, hp14_2, hp14_3, gnMT⟩ : P_X12_sign_v σ3 τ3 z13 b N 900 _ r14 σ14 τ14 := hp14
      have o2 := hp14_2
      have fq91 := f14
      have hP : va_P D vwCl (gw cA ad σ14 τ14) H14 := hP
      have hFL := hFL.step fL14 (by decide)
      have gMN := gMN.agL (AgrL.fr fL14 (by decide))
      have gRV := gRV.agL (AgrL.fr fL14 (by decide))
      have gSB := gSB.agL (AgrL.fr fL14 (by decide))
      have hF := hF.step f14 (by decide)
      have gHI := HI.fr gHI f14 (by decide)
      have gMH := gMH.ag (Agr.fr f14 (by decide))
      have gMT := gMT.ag (Agr.fr f14 (by decide))
      have gSA := gSA.ag (Agr.fr f14 (by decide))
      have gSI := SI.fr gSI hR f14 (by decide)
      have t15 : (σ14 387 3).toInt = (σ3 387 3).toInt := congrArg Int32.toInt (f14.at 387 3 (by decide))
      have t16 : (σ14 387 2).toInt = (σ3 387 2).toInt := congrArg Int32.toInt (f14.at 387 2 (by decide))
      have t17 : (σ14 387 5).toInt = (σ3 387 5).toInt := congrArg Int32.toInt (f14.at 387 5 (by decide))
      have t18 : (σ14 387 19).toInt = (σ3 387 19).toInt := congrArg Int32.toInt (f14.at 387 19 (by decide))
      have t19 : (σ14 387 20).toInt = (σ3 387 20).toInt := congrArg Int32.toInt (f14.at 387 20 (by decide))
      have t20 : (σ14 387 21).toInt = (σ3 387 21).toInt := congrArg Int32.toInt (f14.at 387 21 (by decide))
      have hr21 := rg_12_4 hR (k := 387) (by decide) (by decide)
      refine r_if_ne (tgt := 104) hx hb dX12_valley_94 (by decide) (fun c22 => ?_) (fun c22 => ?_)
      · replace hp14_1 := hp14_1.resolve_left (by omega)
        replace hp14_3 := hp14_3.resolve_left (by omega)
        obtain ⟨q2, e2, gMK⟩ := o2.ye (by omega)
        have hgo := stp_go eL e2
        refine lv_aload_n hx hb dX12_valley_104 rfl (lv_at hl 0 rfl) ?_
        refine lv_dup hx hb dX12_valley_105 rfl ?_
        refine fg_12_19 (k := 387) hx hb hts in_X12_valley_12 hown hK hP (by decide) (by decide) (hts _ lk_X12_valley_247) dX12_valley_106 ?_
        refine r_iconst hx hb dX12_valley_109 (by decide) (fun z23 ez23 => ?_)
        refine r_iadd hx hb dX12_valley_110 (by omega) (fun z24 ez24 => ?_)
        refine fp_12_19 (k := 387) hx hb hts in_X12_valley_12 hown hK hP (by decide) (by decide) (hts _ lk_X12_valley_247) hI hR hS dX12_valley_111 (fun σ25 H25 locs25 u25 v25 hR hP hS => ?_)
        have uq111 := u25
        have vq111 := v25
        have hF := hF.puts u25 6 rfl (by decide) (by decide) (by decide) (by decide)
        have gHI := HI.put gHI u25 (by decide)
        have gMH := gMH.ag (Agr.put u25 (by decide))
        have gMK := gMK.ag (Agr.put u25 (by decide))
        have gMT := gMT.ag (Agr.put u25 (by decide))
        have gSA := gSA.ag (Agr.put u25 (by decide))
        have gSI := SI.put gSI hR u25 (by decide)
        have t26 : (σ25 387 3).toInt = (σ14 387 3).toInt := congrArg Int32.toInt (u25 387 3 (by omega))
        have t27 : (σ25 387 2).toInt = (σ14 387 2).toInt := congrArg Int32.toInt (u25 387 2 (by omega))
        have t28 : (σ25 387 5).toInt = (σ14 387 5).toInt := congrArg Int32.toInt (u25 387 5 (by omega))
        have t29 : (σ25 387 20).toInt = (σ14 387 20).toInt := congrArg Int32.toInt (u25 387 20 (by omega))
        have t30 : (σ25 387 21).toInt = (σ14 387 21).toInt := congrArg Int32.toInt (u25 387 21 (by omega))
        have t31 : (σ25 387 4).toInt = (σ14 387 4).toInt := congrArg Int32.toInt (u25 387 4 (by omega))
        have t32 : (σ25 387 11).toInt = (σ14 387 11).toInt := congrArg Int32.toInt (u25 387 11 (by omega))
        have t33 : (σ25 387 16).toInt = (σ14 387 16).toInt := congrArg Int32.toInt (u25 387 16 (by omega))
        have t34 : (σ25 387 15).toInt = (σ14 387 15).toInt := congrArg Int32.toInt (u25 387 15 (by omega))
        refine lv_goto (tgt := 74) hx hb dX12_valley_114 (by decide) ?_
        exact K74 σ25 τ14 H25 locs25 x1 fu0 (nl + 1) _ _ _ ls hR hF hFL hP hS (by omega) (by omega) (by omega) (by omega) (by omega) (by omega) (by first | (rw [ivm, valP_s (show tkq b N 900 q ≠ 48 by omega) hgo.1, (show σ25 387 20 = z1.2.2.2.1 from (uq111 387 20 (by omega)).trans ((fq91.at 387 20 (by decide)).trans g20)), (show σ25 387 21 = z1.2.2.2.2 from (uq111 387 21 (by omega)).trans ((fq91.at 387 21 (by decide)).trans g21))]; try rfl) | (unfold z00; rw [i32_0.mp (show (σ25 387 20).toInt = 0 by omega), i32_0.mp (show (σ25 387 21).toInt = 0 by omega)])) (by omega) (by omega) (by first | exact Nat.zero_le _ | (have h9 := hgo.2.1; dsimp only at h9; omega)) (by first | exact posq_ok | exact hgo.2.2 iqN.1 iqN.2) (by first | exact iN9 | exact hpre0.2.1) (by omega) (by omega) gSI gRV gHI gMT gMK gMH gMN gSA gSB (lv_sub hl [0, 1] rfl) (by omega)
      · clear hp14_1 hp14_3
        refine r_iconst hx hb dX12_valley_97 (by decide) (fun z35 ez35 => ?_)
        refine lv_aload_n hx hb dX12_valley_98 rfl (lv_at hl 0 rfl) ?_
        refine fg_12_16 (k := 387) hx hb hts in_X12_valley_12 hown hK hP (by decide) (by decide) (hts _ lk_X12_valley_179) dX12_valley_99 ?_
        have b37 := And.intro (ti_lo (σ14 387 16)) (ti_hi (σ14 387 16))
        refine r_isub hx hb dX12_valley_102 (by omega) (fun z36 ez36 => ?_)
        exact r_iret hx hb hr hK hP hS hk dX12_valley_103 (show P_X12_valley σ0 τ0 b N z36 σ14 τ14 from ⟨hR, hF, hFL, by omega, by first | omega | (obtain ⟨f, e2, x1, x2⟩ := o2.no (by omega); rw [valA_l (f := f) (by rw [ivm, valP_f (show tkq b N 900 q ≠ 48 by omega) (stp_f2 eL e2)])]; omega) | (obtain ⟨f, e1, x1, x2⟩ := o1.no (by omega); rw [valA_l (f := f) (by rw [ivm, valP_f (show tkq b N 900 q ≠ 48 by omega) (stpM_f e1)])]; omega), by first | exact Or.inr gVS | (obtain ⟨f, e2, x1, x2⟩ := o2.no (by omega); exact VPm.no (f := f) (by rw [ivm, valP_f (show tkq b N 900 q ≠ 48 by omega) (stp_f2 eL e2)]) gSA) | (obtain ⟨f, e1, x1, x2⟩ := o1.no (by omega); exact VPm.no (f := f) (by rw [ivm, valP_f (show tkq b N 900 q ≠ 48 by omega) (stpM_f e1)]) gSA), by first | exact Or.inr gVQ | (obtain ⟨f, e2, x1, x2⟩ := o2.no (by omega); exact VNm.no (f := f) (by rw [ivm, valP_f (show tkq b N 900 q ≠ 48 by omega) (stp_f2 eL e2)]) gSB) | (obtain ⟨f, e1, x1, x2⟩ := o1.no (by omega); exact VNm.no (f := f) (by rw [ivm, valP_f (show tkq b N 900 q ≠ 48 by omega) (stpM_f e1)]) gSB), by first | (obtain ⟨y9, ey9, _⟩ := gVS; rw [kndP_r ey9]; omega) | (obtain ⟨f, e2, x1, x2⟩ := o2.no (by omega); rw [kndP_l (f := f) (by rw [ivm, valP_f (show tkq b N 900 q ≠ 48 by omega) (stp_f2 eL e2)])]; omega) | (obtain ⟨f, e1, x1, x2⟩ := o1.no (by omega); rw [kndP_l (f := f) (by rw [ivm, valP_f (show tkq b N 900 q ≠ 48 by omega) (stpM_f e1)])]; omega), gSI, gRV⟩)
set_option maxHeartbeats 4000000 in
theorem B_X12_valley_119 (p : Program) (l : Launch) (e : Env) (s : State) (m : MethodId) (args : Array Value) (below : List Frame) (meth : Method) (c : Code) (D : va_G) (cA : Nat → ClassId) (ad : Nat → Nat) (σ0 : Nat → Nat → Int32) (τ0 : Nat → Nat → Int64) (b : Nat → Int) (N : Nat) (n : Nat) (C : Cy p s m args meth c cX12_valley 2 wsX12_valley RX12 D cA ad (some .int)) (hpre0 : (σ0 387 2).toInt = (N : Int) ∧ N ≤ 940 ∧ ∀ j : Nat, j < N → bM σ0 j = b j) (gSI0 : SI σ0) (gRV0 : RV τ0 ) (K34 : J_X12_valley_34 p l e s m args below meth c D cA ad σ0 τ0 b N n) (K74 : J_X12_valley_74 p l e s m args below meth c D cA ad σ0 τ0 b N n) (K119 : J_X12_valley_119 p l e s m args below meth c D cA ad σ0 τ0 b N n) (K157 : J_X12_valley_157 p l e s m args below meth c D cA ad σ0 τ0 b N n) (K186 : J_X12_valley_186 p l e s m args below meth c D cA ad σ0 τ0 b N n) : J_X12_valley_119 p l e s m args below meth c D cA ad σ0 τ0 b N (n + 1) := by
  obtain ⟨hx, hb, hml, hown, hts, hK, hk, hr, hI, hN⟩ := C
  intro σ τ H locs x1 ls hR hF hFL hP hS hc0 hc1 hc2 hc3 hc4 hc5 hc6 hi0 hi1 ilv il2 iz15 gRV gHI gVH gVM hl hm
  refine lv_iload_n hx hb dX12_valley_119 rfl (lv_at hl 1 rfl) ?_
  refine r_sipush hx hb dX12_valley_120 (by decide) (fun z1 ez1 => ?_)
  refine r_icmp_ge (tgt := 155) hx hb dX12_valley_123 (by decide) (fun c2 => ?_) (fun c2 => ?_)
  · have gSI := SI.ofHI gHI (fun j hj => hi0 j (by omega) hj) (hi1 246 (by omega) (by omega))
    have gVS := VH.vs gVH (fun j hj => hi0 j (by omega) hj)
    refine r_iconst hx hb dX12_valley_155 (by decide) (fun z3 ez3 => ?_)
    refine lv_istore_n (lv' := [(1, .int z3), (0, .ref (ad 387))]) hx hb dX12_valley_156 rfl hl (by decide) rfl (fun ls hl => ?_)
    exact K157 σ τ H locs z3 ls hR hF hFL hP hS (by omega) (by omega) (by omega) (by omega) (by omega) (by omega) (by omega) (by omega) (by omega) (by first | exact (fun k hk => absurd hk (by omega)) | exact Vk_s ikn unm vnm (by omega) (by omega) (by omega) (by omega)) (by omega) gSI gRV gVS gVM (lv_sub hl [1, 0] rfl) (by omega)
  · refine lv_aload_n hx hb dX12_valley_126 rfl (lv_at hl 0 rfl) ?_
    refine fg_12_6 (k := 387) hx hb hts in_X12_valley_12 hown hK hP (by decide) (by decide) (hts _ lk_X12_valley_33) dX12_valley_127 ?_
    refine lv_iload_n hx hb dX12_valley_130 rfl (lv_at hl 1 rfl) ?_
    refine lv_iload_n hx hb dX12_valley_131 rfl (lv_at hl 1 rfl) ?_
    refine r_sipush hx hb dX12_valley_132 (by decide) (fun z4 ez4 => ?_)
    refine r_icmp_ge (tgt := 147) hx hb dX12_valley_135 (by decide) (fun c5 => ?_) (fun c5 => ?_)
    · refine r_iconst hx hb dX12_valley_147 (by decide) (fun z6 ez6 => ?_)
      obtain ⟨j7, ej7⟩ : ∃ j : Nat, x1.toInt = (j : Int) := ⟨_, ti_nat (by omega)⟩
      refine as_ms (k := 389) (j := j7) hx hb hK hP hI hR hS (by decide) (by decide) ej7 (by omega) (by first | exact mc_zs (by omega) (by omega) | exact mc_hs hR (by omega) (by omega)) dX12_valley_148 (fun σ8 H8 locs8 u8 v8 hR hP hS => ?_)
      have us := u8
      have vs := v8
      have hF := hF.puts u8 3 rfl (by decide) (by decide) (by omega) (by omega)
      have gHI := HI.putV gHI u8 (by intro q hq; simp only [Gd_HI, List.mem_cons, List.not_mem_nil, or_false] at hq; rcases hq with rfl | rfl <;> dsimp only [inRc] <;> omega)
      have gVH := gVH.ag (Agr.putV u8 (by intro q hq; simp only [Gd_VH, List.mem_cons, List.not_mem_nil, or_false] at hq; rcases hq with rfl <;> dsimp only [inRc] <;> omega))
      have t9 : (σ8 387 16).toInt = (σ 387 16).toInt := congrArg Int32.toInt (u8 387 16 (by omega))
      have t10 : (σ8 387 3).toInt = (σ 387 3).toInt := congrArg Int32.toInt (u8 387 3 (by omega))
      have t11 : (σ8 387 2).toInt = (σ 387 2).toInt := congrArg Int32.toInt (u8 387 2 (by omega))
      have t12 : (σ8 387 5).toInt = (σ 387 5).toInt := congrArg Int32.toInt (u8 387 5 (by omega))
      have t13 : (σ8 387 15).toInt = (σ 387 15).toInt := congrArg Int32.toInt (u8 387 15 (by omega))
      have t14 : (σ8 387 19).toInt = (σ 387 19).toInt := congrArg Int32.toInt (u8 387 19 (by omega))
      have t15 : (σ8 387 20).toInt = (σ 387 20).toInt := congrArg Int32.toInt (u8 387 20 (by omega))
      have t16 : (σ8 387 21).toInt = (σ 387 21).toInt := congrArg Int32.toInt (u8 387 21 (by omega))
      have t17 : (σ8 387 4).toInt = (σ 387 4).toInt := congrArg Int32.toInt (u8 387 4 (by omega))
      have t18 : (σ8 387 11).toInt = (σ 387 11).toInt := congrArg Int32.toInt (u8 387 11 (by omega))
      refine r_iinc (k := 1) (lv1 := fun z19 => [(1, .int z19), (0, .ref (ad 387))]) hx hb dX12_valley_149 hl rfl (by decide) (fun _ => rfl) (by decide) (by omega) (fun z19 ls ez19 hl => ?_)
      refine lv_goto (tgt := 119) hx hb dX12_valley_152 (by decide) ?_
      exact K119 σ8 τ H8 locs8 z19 ls hR hF hFL hP hS (by omega) (by omega) (by omega) (by omega) (by omega) (by omega) (by omega) (by first | exact (fun j hj _ => absurd hj (by omega)) | exact V1st hi0 us (by omega) (fun _ => by omega) (by omega)) (by first | exact (fun j hj _ => absurd hj (by omega)) | exact V2st hi1 us (by omega) (fun _ => by omega) (by omega)) (by omega) (by omega) (by omega) gRV gHI gVH gVM (lv_sub hl [1, 0] rfl) (by omega)
    · refine lv_aload_n hx hb dX12_valley_138 rfl (lv_at hl 0 rfl) ?_
      refine fg_12_7 (k := 387) hx hb hts in_X12_valley_12 hown hK hP (by decide) (by decide) (hts _ lk_X12_valley_37) dX12_valley_139 ?_
      refine lv_iload_n hx hb dX12_valley_142 rfl (lv_at hl 1 rfl) ?_
      obtain ⟨j20, ej20⟩ : ∃ j : Nat, x1.toInt = (j : Int) := ⟨_, ti_nat (by omega)⟩
      refine ad_mh (k := 390) (j := j20) hx hb hK hP (by decide) (by decide) ej20 (by omega) dX12_valley_143 ?_
      refine lv_goto (tgt := 148) hx hb dX12_valley_144 (by decide) ?_
      refine as_ms (k := 389) (j := j20) hx hb hK hP hI hR hS (by decide) (by decide) ej20 (by omega) (by first | exact mc_zs (by omega) (by omega) | exact mc_hs hR (by omega) (by omega)) dX12_valley_148 (fun σ21 H21 locs21 u21 v21 hR hP hS => ?_)
      have us := u21
      have vs := v21
      have hF := hF.puts u21 3 rfl (by decide) (by decide) (by omega) (by omega)
      have gHI := HI.putV gHI u21 (by intro q hq; simp only [Gd_HI, List.mem_cons, List.not_mem_nil, or_false] at hq; rcases hq with rfl | rfl <;> dsimp only [inRc] <;> omega)
      have gVH := gVH.ag (Agr.putV u21 (by intro q hq; simp only [Gd_VH, List.mem_cons, List.not_mem_nil, or_false] at hq; rcases hq with rfl <;> dsimp only [inRc] <;> omega))
      have t22 : (σ21 387 16).toInt = (σ 387 16).toInt := congrArg Int32.toInt (u21 387 16 (by omega))
      have t23 : (σ21 387 3).toInt = (σ 387 3).toInt := congrArg Int32.toInt (u21 387 3 (by omega))
      have t24 : (σ21 387 2).toInt = (σ 387 2).toInt := congrArg Int32.toInt (u21 387 2 (by omega))
      have t25 : (σ21 387 5).toInt = (σ 387 5).toInt := congrArg Int32.toInt (u21 387 5 (by omega))
      have t26 : (σ21 387 15).toInt = (σ 387 15).toInt := congrArg Int32.toInt (u21 387 15 (by omega))
      have t27 : (σ21 387 19).toInt = (σ 387 19).toInt := congrArg Int32.toInt (u21 387 19 (by omega))
      have t28 : (σ21 387 20).toInt = (σ 387 20).toInt := congrArg Int32.toInt (u21 387 20 (by omega))
      have t29 : (σ21 387 21).toInt = (σ 387 21).toInt := congrArg Int32.toInt (u21 387 21 (by omega))
      have t30 : (σ21 387 4).toInt = (σ 387 4).toInt := congrArg Int32.toInt (u21 387 4 (by omega))
      have t31 : (σ21 387 11).toInt = (σ 387 11).toInt := congrArg Int32.toInt (u21 387 11 (by omega))
      refine r_iinc (k := 1) (lv1 := fun z32 => [(1, .int z32), (0, .ref (ad 387))]) hx hb dX12_valley_149 hl rfl (by decide) (fun _ => rfl) (by decide) (by omega) (fun z32 ls ez32 hl => ?_)
      refine lv_goto (tgt := 119) hx hb dX12_valley_152 (by decide) ?_
      exact K119 σ21 τ H21 locs21 z32 ls hR hF hFL hP hS (by omega) (by omega) (by omega) (by omega) (by omega) (by omega) (by omega) (by first | exact (fun j hj _ => absurd hj (by omega)) | exact V1st hi0 us (by omega) (fun _ => by omega) (by omega)) (by first | exact (fun j hj _ => absurd hj (by omega)) | exact V2st hi1 us (by omega) (fun _ => by omega) (by omega)) (by omega) (by omega) (by omega) gRV gHI gVH gVM (lv_sub hl [1, 0] rfl) (by omega)
set_option maxHeartbeats 4000000 in
theorem B_X12_valley_157 (p : Program) (l : Launch) (e : Env) (s : State) (m : MethodId) (args : Array Value) (below : List Frame) (meth : Method) (c : Code) (D : va_G) (cA : Nat → ClassId) (ad : Nat → Nat) (σ0 : Nat → Nat → Int32) (τ0 : Nat → Nat → Int64) (b : Nat → Int) (N : Nat) (n : Nat) (C : Cy p s m args meth c cX12_valley 2 wsX12_valley RX12 D cA ad (some .int)) (hpre0 : (σ0 387 2).toInt = (N : Int) ∧ N ≤ 940 ∧ ∀ j : Nat, j < N → bM σ0 j = b j) (gSI0 : SI σ0) (gRV0 : RV τ0 ) (K34 : J_X12_valley_34 p l e s m args below meth c D cA ad σ0 τ0 b N n) (K74 : J_X12_valley_74 p l e s m args below meth c D cA ad σ0 τ0 b N n) (K119 : J_X12_valley_119 p l e s m args below meth c D cA ad σ0 τ0 b N n) (K157 : J_X12_valley_157 p l e s m args below meth c D cA ad σ0 τ0 b N n) (K186 : J_X12_valley_186 p l e s m args below meth c D cA ad σ0 τ0 b N n) : J_X12_valley_157 p l e s m args below meth c D cA ad σ0 τ0 b N (n + 1) := by
  obtain ⟨hx, hb, hml, hown, hts, hK, hk, hr, hI, hN⟩ := C
  intro σ τ H locs x1 ls hR hF hFL hP hS hc0 hc1 hc2 hc3 hc4 hc5 hc6 ilv il2 ikn iz15 gSI gRV gVS gVM hl hm
  refine lv_iload_n hx hb dX12_valley_157 rfl (lv_at hl 1 rfl) ?_
  refine r_bipush hx hb dX12_valley_158 (by decide) (fun z1 ez1 => ?_)
  refine r_icmp_ge (tgt := 184) hx hb dX12_valley_160 (by decide) (fun c2 => ?_) (fun c2 => ?_)
  · have gVQ := VM.vq gVM (fun k hk => ikn k (by omega))
    refine r_iconst hx hb dX12_valley_184 (by decide) (fun z3 ez3 => ?_)
    refine lv_istore_n (lv' := [(1, .int z3), (0, .ref (ad 387))]) hx hb dX12_valley_185 rfl hl (by decide) rfl (fun ls hl => ?_)
    exact K186 σ τ H locs z3 ls hR hF hFL hP hS (by omega) (by omega) (by omega) (by omega) (by omega) (by omega) (by omega) (by omega) (by omega) (by omega) gSI gRV gVS gVQ (lv_sub hl [1, 0] rfl) (by omega)
  · refine lv_aload_n hx hb dX12_valley_163 rfl (lv_at hl 0 rfl) ?_
    refine fg_12_9 (k := 387) hx hb hts in_X12_valley_12 hown hK hP (by decide) (by decide) (hts _ lk_X12_valley_43) dX12_valley_164 ?_
    refine lv_iload_n hx hb dX12_valley_167 rfl (lv_at hl 1 rfl) ?_
    refine lv_aload_n hx hb dX12_valley_168 rfl (lv_at hl 0 rfl) ?_
    refine fg_12_9 (k := 387) hx hb hts in_X12_valley_12 hown hK hP (by decide) (by decide) (hts _ lk_X12_valley_43) dX12_valley_169 ?_
    refine r_bipush hx hb dX12_valley_172 (by decide) (fun z4 ez4 => ?_)
    refine lv_iload_n hx hb dX12_valley_174 rfl (lv_at hl 1 rfl) ?_
    refine r_iadd hx hb dX12_valley_175 (by omega) (fun z5 ez5 => ?_)
    obtain ⟨j6, ej6⟩ : ∃ j : Nat, z5.toInt = (j : Int) := ⟨_, ti_nat (by omega)⟩
    refine adL_mnames (k := 392) (j := j6) hx hb hK hP (by decide) (by decide) ej6 (by omega) dX12_valley_176 ?_
    obtain ⟨j7, ej7⟩ : ∃ j : Nat, x1.toInt = (j : Int) := ⟨_, ti_nat (by omega)⟩
    refine asL_mnames (k := 392) (j := j7) hx hb hK hP hI hS (by decide) (by decide) ej7 (by omega) dX12_valley_177 (fun τ8 H8 locs8 uL8 vL8 hP hS => ?_)
    have unm := uL8
    have vnm := vL8
    have hFL := hFL.puts uL8 1 rfl (by decide) (by decide) (by omega) (by omega)
    have gRV := gRV.agL (AgrL.putV uL8 (by intro q hq; simp only [GdL_RV, List.mem_cons, List.not_mem_nil, or_false] at hq; rcases hq with rfl <;> dsimp only [inRc] <;> omega))
    have gVM := gVM.agL (AgrL.putV uL8 (by intro q hq; simp only [GdL_VM, List.mem_cons, List.not_mem_nil, or_false] at hq; rcases hq with rfl <;> dsimp only [inRc] <;> omega))
    refine r_iinc (k := 1) (lv1 := fun z9 => [(1, .int z9), (0, .ref (ad 387))]) hx hb dX12_valley_178 hl rfl (by decide) (fun _ => rfl) (by decide) (by omega) (fun z9 ls ez9 hl => ?_)
    refine lv_goto (tgt := 157) hx hb dX12_valley_181 (by decide) ?_
    exact K157 σ τ8 H8 locs8 z9 ls hR hF hFL hP hS (by omega) (by omega) (by omega) (by omega) (by omega) (by omega) (by omega) (by omega) (by omega) (by first | exact (fun k hk => absurd hk (by omega)) | exact Vk_s ikn unm vnm (by omega) (by omega) (by omega) (by omega)) (by omega) gSI gRV gVS gVM (lv_sub hl [1, 0] rfl) (by omega)
set_option maxHeartbeats 4000000 in
theorem B_X12_valley_186 (p : Program) (l : Launch) (e : Env) (s : State) (m : MethodId) (args : Array Value) (below : List Frame) (meth : Method) (c : Code) (D : va_G) (cA : Nat → ClassId) (ad : Nat → Nat) (σ0 : Nat → Nat → Int32) (τ0 : Nat → Nat → Int64) (b : Nat → Int) (N : Nat) (n : Nat) (C : Cy p s m args meth c cX12_valley 2 wsX12_valley RX12 D cA ad (some .int)) (hpre0 : (σ0 387 2).toInt = (N : Int) ∧ N ≤ 940 ∧ ∀ j : Nat, j < N → bM σ0 j = b j) (gSI0 : SI σ0) (gRV0 : RV τ0 ) (K34 : J_X12_valley_34 p l e s m args below meth c D cA ad σ0 τ0 b N n) (K74 : J_X12_valley_74 p l e s m args below meth c D cA ad σ0 τ0 b N n) (K119 : J_X12_valley_119 p l e s m args below meth c D cA ad σ0 τ0 b N n) (K157 : J_X12_valley_157 p l e s m args below meth c D cA ad σ0 τ0 b N n) (K186 : J_X12_valley_186 p l e s m args below meth c D cA ad σ0 τ0 b N n) : J_X12_valley_186 p l e s m args below meth c D cA ad σ0 τ0 b N (n + 1) := by
  obtain ⟨hx, hb, hml, hown, hts, hK, hk, hr, hI, hN⟩ := C
  intro σ τ H locs x1 ls hR hF hFL hP hS hc0 hc1 hc2 hc3 hc4 hc5 hc6 ilv il2 iz15 gSI gRV gVS gVQ hl hm
  refine lv_iload_n hx hb dX12_valley_186 rfl (lv_at hl 1 rfl) ?_
  refine r_bipush hx hb dX12_valley_187 (by decide) (fun z1 ez1 => ?_)
  refine r_icmp_ge (tgt := 236) hx hb dX12_valley_189 (by decide) (fun c2 => ?_) (fun c2 => ?_)
  · refine lv_aload_n hx hb dX12_valley_236 rfl (lv_at hl 0 rfl) ?_
    refine r_iconst hx hb dX12_valley_237 (by decide) (fun z3 ez3 => ?_)
    refine fp_12_29 (k := 387) hx hb hts in_X12_valley_12 hown hK hP (by decide) (by decide) (hts _ lk_X12_valley_256) hI hR hS (by omega) dX12_valley_238 (fun σ4 H4 locs4 u4 v4 hR hP hS => ?_)
    have hF := hF.puts u4 4 rfl (by decide) (by decide) (by decide) (by decide)
    have gSI := SI.put gSI hR u4 (by decide)
    have gVS := gVS.ag (Agr.put u4 (by decide))
    have t5 : (σ4 387 16).toInt = (σ 387 16).toInt := congrArg Int32.toInt (u4 387 16 (by omega))
    have t6 : (σ4 387 3).toInt = (σ 387 3).toInt := congrArg Int32.toInt (u4 387 3 (by omega))
    have t7 : (σ4 387 2).toInt = (σ 387 2).toInt := congrArg Int32.toInt (u4 387 2 (by omega))
    have t8 : (σ4 387 5).toInt = (σ 387 5).toInt := congrArg Int32.toInt (u4 387 5 (by omega))
    have t9 : (σ4 387 15).toInt = (σ 387 15).toInt := congrArg Int32.toInt (u4 387 15 (by omega))
    have t10 : (σ4 387 19).toInt = (σ 387 19).toInt := congrArg Int32.toInt (u4 387 19 (by omega))
    have t11 : (σ4 387 20).toInt = (σ 387 20).toInt := congrArg Int32.toInt (u4 387 20 (by omega))
    have t12 : (σ4 387 21).toInt = (σ 387 21).toInt := congrArg Int32.toInt (u4 387 21 (by omega))
    have t13 : (σ4 387 4).toInt = (σ 387 4).toInt := congrArg Int32.toInt (u4 387 4 (by omega))
    have t14 : (σ4 387 11).toInt = (σ 387 11).toInt := congrArg Int32.toInt (u4 387 11 (by omega))
    refine lv_aload_n hx hb dX12_valley_241 rfl (lv_at hl 0 rfl) ?_
    refine fg_12_19 (k := 387) hx hb hts in_X12_valley_12 hown hK hP (by decide) (by decide) (hts _ lk_X12_valley_247) dX12_valley_242 ?_
    exact r_iret hx hb hr hK hP hS hk dX12_valley_245 (show P_X12_valley σ0 τ0 b N (σ4 387 19) σ4 τ from ⟨hR, hF, hFL, by omega, by first | omega | (obtain ⟨f, e2, x1, x2⟩ := o2.no (by omega); rw [valA_l (f := f) (by rw [ivm, valP_f (show tkq b N 900 q ≠ 48 by omega) (stp_f2 eL e2)])]; omega) | (obtain ⟨f, e1, x1, x2⟩ := o1.no (by omega); rw [valA_l (f := f) (by rw [ivm, valP_f (show tkq b N 900 q ≠ 48 by omega) (stpM_f e1)])]; omega), by first | exact Or.inr gVS | (obtain ⟨f, e2, x1, x2⟩ := o2.no (by omega); exact VPm.no (f := f) (by rw [ivm, valP_f (show tkq b N 900 q ≠ 48 by omega) (stp_f2 eL e2)]) gSA) | (obtain ⟨f, e1, x1, x2⟩ := o1.no (by omega); exact VPm.no (f := f) (by rw [ivm, valP_f (show tkq b N 900 q ≠ 48 by omega) (stpM_f e1)]) gSA), by first | exact Or.inr gVQ | (obtain ⟨f, e2, x1, x2⟩ := o2.no (by omega); exact VNm.no (f := f) (by rw [ivm, valP_f (show tkq b N 900 q ≠ 48 by omega) (stp_f2 eL e2)]) gSB) | (obtain ⟨f, e1, x1, x2⟩ := o1.no (by omega); exact VNm.no (f := f) (by rw [ivm, valP_f (show tkq b N 900 q ≠ 48 by omega) (stpM_f e1)]) gSB), by first | (obtain ⟨y9, ey9, _⟩ := gVS; rw [kndP_r ey9]; omega) | (obtain ⟨f, e2, x1, x2⟩ := o2.no (by omega); rw [kndP_l (f := f) (by rw [ivm, valP_f (show tkq b N 900 q ≠ 48 by omega) (stp_f2 eL e2)])]; omega) | (obtain ⟨f, e1, x1, x2⟩ := o1.no (by omega); rw [kndP_l (f := f) (by rw [ivm, valP_f (show tkq b N 900 q ≠ 48 by omega) (stpM_f e1)])]; omega), gSI, gRV⟩)
  · refine lv_aload_n hx hb dX12_valley_192 rfl (lv_at hl 0 rfl) ?_
    refine fg_12_6 (k := 387) hx hb hts in_X12_valley_12 hown hK hP (by decide) (by decide) (hts _ lk_X12_valley_33) dX12_valley_193 ?_
    refine r_sipush hx hb dX12_valley_196 (by decide) (fun z15 ez15 => ?_)
    refine lv_iload_n hx hb dX12_valley_199 rfl (lv_at hl 1 rfl) ?_
    refine r_iadd hx hb dX12_valley_200 (by omega) (fun z16 ez16 => ?_)
    refine lv_aload_n hx hb dX12_valley_201 rfl (lv_at hl 0 rfl) ?_
    refine fg_12_6 (k := 387) hx hb hts in_X12_valley_12 hown hK hP (by decide) (by decide) (hts _ lk_X12_valley_33) dX12_valley_202 ?_
    refine r_bipush hx hb dX12_valley_205 (by decide) (fun z17 ez17 => ?_)
    refine lv_iload_n hx hb dX12_valley_207 rfl (lv_at hl 1 rfl) ?_
    refine r_iadd hx hb dX12_valley_208 (by omega) (fun z18 ez18 => ?_)
    obtain ⟨j19, ej19⟩ : ∃ j : Nat, z18.toInt = (j : Int) := ⟨_, ti_nat (by omega)⟩
    refine ad_ms (k := 389) (j := j19) hx hb hK hP (by decide) (by decide) ej19 (by omega) dX12_valley_209 ?_
    have hr20 := ra_ms_2 hR (k := 389) (j := j19) (by decide) (by decide) (by omega) (by omega)
    obtain ⟨j21, ej21⟩ : ∃ j : Nat, z16.toInt = (j : Int) := ⟨_, ti_nat (by omega)⟩
    refine as_ms (k := 389) (j := j21) hx hb hK hP hI hR hS (by decide) (by decide) ej21 (by omega) (rw_ms_6 (by decide) (by decide) (by omega) (by omega) (by omega)) dX12_valley_210 (fun σ22 H22 locs22 u22 v22 hR hP hS => ?_)
    have hF := hF.puts u22 3 rfl (by decide) (by decide) (by omega) (by omega)
    have gSI := SI.putV gSI hR u22 (by intro q hq; simp only [Gd_SI, List.mem_cons, List.not_mem_nil, or_false] at hq; rcases hq with rfl | rfl | rfl <;> dsimp only [inRc] <;> omega)
    have gVS := gVS.ag (Agr.putV u22 (by intro q hq; simp only [Gd_VS, List.mem_cons, List.not_mem_nil, or_false] at hq; rcases hq with rfl <;> dsimp only [inRc] <;> omega))
    have t23 : (σ22 387 16).toInt = (σ 387 16).toInt := congrArg Int32.toInt (u22 387 16 (by omega))
    have t24 : (σ22 387 3).toInt = (σ 387 3).toInt := congrArg Int32.toInt (u22 387 3 (by omega))
    have t25 : (σ22 387 2).toInt = (σ 387 2).toInt := congrArg Int32.toInt (u22 387 2 (by omega))
    have t26 : (σ22 387 5).toInt = (σ 387 5).toInt := congrArg Int32.toInt (u22 387 5 (by omega))
    have t27 : (σ22 387 15).toInt = (σ 387 15).toInt := congrArg Int32.toInt (u22 387 15 (by omega))
    have t28 : (σ22 387 19).toInt = (σ 387 19).toInt := congrArg Int32.toInt (u22 387 19 (by omega))
    have t29 : (σ22 387 20).toInt = (σ 387 20).toInt := congrArg Int32.toInt (u22 387 20 (by omega))
    have t30 : (σ22 387 21).toInt = (σ 387 21).toInt := congrArg Int32.toInt (u22 387 21 (by omega))
    have t31 : (σ22 387 4).toInt = (σ 387 4).toInt := congrArg Int32.toInt (u22 387 4 (by omega))
    have t32 : (σ22 387 11).toInt = (σ 387 11).toInt := congrArg Int32.toInt (u22 387 11 (by omega))
    refine lv_aload_n hx hb dX12_valley_211 rfl (lv_at hl 0 rfl) ?_
    refine fg_12_6 (k := 387) hx hb hts in_X12_valley_12 hown hK hP (by decide) (by decide) (hts _ lk_X12_valley_33) dX12_valley_212 ?_
    refine r_sipush hx hb dX12_valley_215 (by decide) (fun z33 ez33 => ?_)
    refine lv_iload_n hx hb dX12_valley_218 rfl (lv_at hl 1 rfl) ?_
    refine r_iadd hx hb dX12_valley_219 (by omega) (fun z34 ez34 => ?_)
    refine lv_aload_n hx hb dX12_valley_220 rfl (lv_at hl 0 rfl) ?_
    refine fg_12_6 (k := 387) hx hb hts in_X12_valley_12 hown hK hP (by decide) (by decide) (hts _ lk_X12_valley_33) dX12_valley_221 ?_
    refine r_bipush hx hb dX12_valley_224 (by decide) (fun z35 ez35 => ?_)
    refine lv_iload_n hx hb dX12_valley_226 rfl (lv_at hl 1 rfl) ?_
    refine r_iadd hx hb dX12_valley_227 (by omega) (fun z36 ez36 => ?_)
    obtain ⟨j37, ej37⟩ : ∃ j : Nat, z36.toInt = (j : Int) := ⟨_, ti_nat (by omega)⟩
    refine ad_ms (k := 389) (j := j37) hx hb hK hP (by decide) (by decide) ej37 (by omega) dX12_valley_228 ?_
    obtain ⟨j38, ej38⟩ : ∃ j : Nat, z34.toInt = (j : Int) := ⟨_, ti_nat (by omega)⟩
    refine as_ms (k := 389) (j := j38) hx hb hK hP hI hR hS (by decide) (by decide) ej38 (by omega) (rx_ms_222 (by decide) (by decide) (by omega) (by omega)) dX12_valley_229 (fun σ39 H39 locs39 u39 v39 hR hP hS => ?_)
    have hF := hF.puts u39 3 rfl (by decide) (by decide) (by omega) (by omega)
    have gSI := SI.putV gSI hR u39 (by intro q hq; simp only [Gd_SI, List.mem_cons, List.not_mem_nil, or_false] at hq; rcases hq with rfl | rfl | rfl <;> dsimp only [inRc] <;> omega)
    have gVS := gVS.ag (Agr.putV u39 (by intro q hq; simp only [Gd_VS, List.mem_cons, List.not_mem_nil, or_false] at hq; rcases hq with rfl <;> dsimp only [inRc] <;> omega))
    have t40 : (σ39 387 16).toInt = (σ22 387 16).toInt := congrArg Int32.toInt (u39 387 16 (by omega))
    have t41 : (σ39 387 3).toInt = (σ22 387 3).toInt := congrArg Int32.toInt (u39 387 3 (by omega))
    have t42 : (σ39 387 2).toInt = (σ22 387 2).toInt := congrArg Int32.toInt (u39 387 2 (by omega))
    have t43 : (σ39 387 5).toInt = (σ22 387 5).toInt := congrArg Int32.toInt (u39 387 5 (by omega))
    have t44 : (σ39 387 15).toInt = (σ22 387 15).toInt := congrArg Int32.toInt (u39 387 15 (by omega))
    have t45 : (σ39 387 19).toInt = (σ22 387 19).toInt := congrArg Int32.toInt (u39 387 19 (by omega))
    have t46 : (σ39 387 20).toInt = (σ22 387 20).toInt := congrArg Int32.toInt (u39 387 20 (by omega))
    have t47 : (σ39 387 21).toInt = (σ22 387 21).toInt := congrArg Int32.toInt (u39 387 21 (by omega))
    have t48 : (σ39 387 4).toInt = (σ22 387 4).toInt := congrArg Int32.toInt (u39 387 4 (by omega))
    have t49 : (σ39 387 11).toInt = (σ22 387 11).toInt := congrArg Int32.toInt (u39 387 11 (by omega))
    refine r_iinc (k := 1) (lv1 := fun z50 => [(1, .int z50), (0, .ref (ad 387))]) hx hb dX12_valley_230 hl rfl (by decide) (fun _ => rfl) (by decide) (by omega) (fun z50 ls ez50 hl => ?_)
    refine lv_goto (tgt := 186) hx hb dX12_valley_233 (by decide) ?_
    exact K186 σ39 τ H39 locs39 z50 ls hR hF hFL hP hS (by omega) (by omega) (by omega) (by omega) (by omega) (by omega) (by omega) (by omega) (by omega) (by omega) gSI gRV gVS gVQ (lv_sub hl [1, 0] rfl) (by omega)
theorem A_X12_valley (p : Program) (l : Launch) (e : Env) (s : State) (m : MethodId) (args : Array Value) (below : List Frame) (meth : Method) (c : Code) (D : va_G) (cA : Nat → ClassId) (ad : Nat → Nat) (σ0 : Nat → Nat → Int32) (τ0 : Nat → Nat → Int64) (b : Nat → Int) (N : Nat) (C : Cy p s m args meth c cX12_valley 2 wsX12_valley RX12 D cA ad (some .int)) (hpre0 : (σ0 387 2).toInt = (N : Int) ∧ N ≤ 940 ∧ ∀ j : Nat, j < N → bM σ0 j = b j) (gSI0 : SI σ0) (gRV0 : RV τ0 ) : ∀ n : Nat, J_X12_valley_34 p l e s m args below meth c D cA ad σ0 τ0 b N n ∧ J_X12_valley_74 p l e s m args below meth c D cA ad σ0 τ0 b N n ∧ J_X12_valley_119 p l e s m args below meth c D cA ad σ0 τ0 b N n ∧ J_X12_valley_157 p l e s m args below meth c D cA ad σ0 τ0 b N n ∧ J_X12_valley_186 p l e s m args below meth c D cA ad σ0 τ0 b N n := by
  intro n
  induction n with
  | zero =>
    exact ⟨(by intro σ τ H locs x1 ls hR hF hFL hP hS hc0 hc1 hc2 hc3 hc4 hc5 hc6 hc7 hc8 iz1 iln i20 i21 ip4 il2 iz15 gSI gRV gMT gSA gSB hl hm; exfalso; omega), (by intro σ τ H locs x1 fu nl q h nm ls hR hF hFL hP hS hc0 hc1 hc2 hc3 hc4 hc5 ivm iln ifu inq iqN iN9 il2 iz15 gSI gRV gHI gMT gMK gMH gMN gSA gSB hl hm; exfalso; omega), (by intro σ τ H locs x1 ls hR hF hFL hP hS hc0 hc1 hc2 hc3 hc4 hc5 hc6 hi0 hi1 ilv il2 iz15 gRV gHI gVH gVM hl hm; exfalso; omega), (by intro σ τ H locs x1 ls hR hF hFL hP hS hc0 hc1 hc2 hc3 hc4 hc5 hc6 ilv il2 ikn iz15 gSI gRV gVS gVM hl hm; exfalso; omega), (by intro σ τ H locs x1 ls hR hF hFL hP hS hc0 hc1 hc2 hc3 hc4 hc5 hc6 ilv il2 iz15 gSI gRV gVS gVQ hl hm; exfalso; omega)⟩
  | succ n ih =>
    exact ⟨B_X12_valley_34 p l e s m args below meth c D cA ad σ0 τ0 b N n C hpre0 gSI0 gRV0 ih.1 ih.2.1 ih.2.2.1 ih.2.2.2.1 ih.2.2.2.2, B_X12_valley_74 p l e s m args below meth c D cA ad σ0 τ0 b N n C hpre0 gSI0 gRV0 ih.1 ih.2.1 ih.2.2.1 ih.2.2.2.1 ih.2.2.2.2, B_X12_valley_119 p l e s m args below meth c D cA ad σ0 τ0 b N n C hpre0 gSI0 gRV0 ih.1 ih.2.1 ih.2.2.1 ih.2.2.2.1 ih.2.2.2.2, B_X12_valley_157 p l e s m args below meth c D cA ad σ0 τ0 b N n C hpre0 gSI0 gRV0 ih.1 ih.2.1 ih.2.2.1 ih.2.2.2.1 ih.2.2.2.2, B_X12_valley_186 p l e s m args below meth c D cA ad σ0 τ0 b N n C hpre0 gSI0 gRV0 ih.1 ih.2.1 ih.2.2.1 ih.2.2.2.1 ih.2.2.2.2⟩
set_option maxHeartbeats 4000000 in
theorem c_X12_valley (l : Launch) (D : va_G) (cA : Nat → ClassId) (ad : Nat → Nat) (hI : Inj ad) (σ0 : Nat → Nat → Int32) (τ0 : Nat → Nat → Int64) (hR : Rg σ0) (b : Nat → Int) (N : Nat) (hpre0 : (σ0 387 2).toInt = (N : Int) ∧ N ≤ 940 ∧ ∀ j : Nat, j < N → bM σ0 j = b j) (gSI0 : SI σ0) (gRV0 : RV τ0 ) : Met l yX12_valley wsX12_valley ({ frames := 6, cells := 0, slots := 0, locals := 133 } : Room) (WQc D cA ad [.ref (ad 387)] σ0 τ0) (va_Qi (fun (r : Int32) (u : SS) => P_X12_valley σ0 τ0 b N r u.1 u.2) (WB D cA ad) (AA ad)) 0 0 (AA ad) := by
  refine Met.ofW (cc := cX12_valley) (maxL := 2) (ret := (some .int)) (by decide) rfl ?_
  intro p e s m args below meth c s₁ B hml hv
  obtain ⟨rfl, hP, hK, hN⟩ := hv
  have C : Cy p s m _ meth c cX12_valley 2 wsX12_valley RX12 D cA ad (some .int) := ⟨B.exec, B.bytes, hml, findClass_of_methodNamed B.named, atoms_spec (ws := wsX12_valley) B.pre, hK, B.notSynchronized, B.returns, hI, hN⟩
  have hl := lv_entry ([.ref (ad 387)]) (n := 2) (Nat.le_of_ble_eq_true rfl)
  rw [lg_entry_eq]
  generalize (lg_sl ([.ref (ad 387)]) ++ List.replicate (2 - (lg_sl ([.ref (ad 387)])).length) Slot.unset).toArray = ls at hl ⊢
  have hl : lv_has ls 2 [(0, .ref (ad 387))] := hl
  have hS : va_S (AA ad) s.heap s.heap [] := va_S.rf
  have hF : Fr L_X12_valley σ0 σ0 := Fr.rf
  have hFL : FrL LL_X12_valley τ0 τ0 := FrL.rf
  have gSI := gSI0
  have gRV := gRV0
  have hA := A_X12_valley p l e s m _ below meth c D cA ad σ0 τ0 b N C hpre0 gSI0 gRV0 94807400228
  have K34 := hA.1
  have K74 := hA.2.1
  have K119 := hA.2.2.1
  have K157 := hA.2.2.2.1
  have K186 := hA.2.2.2.2
  clear hA
  obtain ⟨hx, hb, _, hown, hts, _, hk, hr, _, _⟩ := C
  have hrt4 := rg_12_4 hR (k := 387) (by decide) (by decide)
  have hrt3 := rg_12_3 hR (k := 387) (by decide) (by decide)
  have hrt2 := rg_12_2 hR (k := 387) (by decide) (by decide)
  have hrt5 := rg_12_5 hR (k := 387) (by decide) (by decide)
  have gSA : SA σ0 σ0 := SA.rf
  have gSB : SB τ0 τ0 := SB.rf
  refine lv_aload_n hx hb dX12_valley_0 rfl (lv_at hl 0 rfl) ?_
  refine r_iconst hx hb dX12_valley_1 (by decide) (fun z1 ez1 => ?_)
  refine fp_12_0 (k := 387) hx hb hts in_X12_valley_12 hown hK hP (by decide) (by decide) (hts _ lk_X12_valley_1) hI hR hS (by omega) dX12_valley_2 (fun σ2 H2 locs2 u2 v2 hR hP hS => ?_)
  have uq2 := u2
  have vq2 := v2
  have hF := hF.puts u2 0 rfl (by decide) (by decide) (by decide) (by decide)
  have gSA := gSA.ag (Agr.put u2 (by decide))
  have gSI := SI.put gSI hR u2 (by decide)
  have t3 : (σ2 387 4).toInt = (σ0 387 4).toInt := congrArg Int32.toInt (u2 387 4 (by omega))
  have t4 : (σ2 387 3).toInt = (σ0 387 3).toInt := congrArg Int32.toInt (u2 387 3 (by omega))
  have t5 : (σ2 387 11).toInt = (σ0 387 11).toInt := congrArg Int32.toInt (u2 387 11 (by omega))
  have t6 : (σ2 387 2).toInt = (σ0 387 2).toInt := congrArg Int32.toInt (u2 387 2 (by omega))
  have t7 : (σ2 387 19).toInt = (σ0 387 19).toInt := congrArg Int32.toInt (u2 387 19 (by omega))
  have t8 : (σ2 387 16).toInt = (σ0 387 16).toInt := congrArg Int32.toInt (u2 387 16 (by omega))
  have t9 : (σ2 387 20).toInt = (σ0 387 20).toInt := congrArg Int32.toInt (u2 387 20 (by omega))
  have t10 : (σ2 387 21).toInt = (σ0 387 21).toInt := congrArg Int32.toInt (u2 387 21 (by omega))
  have t11 : (σ2 387 5).toInt = (σ0 387 5).toInt := congrArg Int32.toInt (u2 387 5 (by omega))
  have t12 : (σ2 387 15).toInt = (σ0 387 15).toInt := congrArg Int32.toInt (u2 387 15 (by omega))
  refine lv_aload_n hx hb dX12_valley_5 rfl (lv_at hl 0 rfl) ?_
  refine r_sipush hx hb dX12_valley_6 (by decide) (fun z13 ez13 => ?_)
  refine r_cVv (k := 387) (As := [.int z13]) (rest := []) ⟨hx, hb, hml, hown, hts⟩ hK hP hN hS (c_X12_taken l D cA ad hI σ2 τ0 hR z13 (by omega)) (cwV 1 hts gX12_valley_X12_taken rfl rfl rfl (by decide +kernel) ⟨by decide, by decide⟩) (rv_M hK hP (by decide) (by decide)) rfl hl.1 rfl (Nat.le_of_ble_eq_true rfl) dX12_valley_9 (Nat.zero_le _) (Nat.zero_le _) (fun u14 H14 locs14 hp14 hP hS => ?_)
  obtain ⟨σ14, τ14⟩ := u14
  obtain ⟨hR, f14, fL14, hp14_0, hp14_1, hp14_2, hp14_3⟩ : P_X12_taken σ2 τ0 z13 σ14 τ14 := hp14
  have fq9 := f14
  have hP : va_P D vwCl (gw cA ad σ14 τ14) H14 := hP
  obtain rfl := FrL.nil fL14
  have hF := hF.step f14 (by decide)
  have gSA := gSA.ag (Agr.fr f14 (by decide))
  have gSI := SI.fr gSI hR f14 (by decide)
  have t15 : (σ14 387 11).toInt = (σ2 387 11).toInt := congrArg Int32.toInt (f14.at 387 11 (by decide))
  have t16 : (σ14 387 19).toInt = (σ2 387 19).toInt := congrArg Int32.toInt (f14.at 387 19 (by decide))
  have t17 : (σ14 387 16).toInt = (σ2 387 16).toInt := congrArg Int32.toInt (f14.at 387 16 (by decide))
  have t18 : (σ14 387 20).toInt = (σ2 387 20).toInt := congrArg Int32.toInt (f14.at 387 20 (by decide))
  have t19 : (σ14 387 21).toInt = (σ2 387 21).toInt := congrArg Int32.toInt (f14.at 387 21 (by decide))
  have t20 : (σ14 387 15).toInt = (σ2 387 15).toInt := congrArg Int32.toInt (f14.at 387 15 (by decide))
  have hr21 := rg_12_4 hR (k := 387) (by decide) (by decide)
  have hr22 := rg_12_3 hR (k := 387) (by decide) (by decide)
  have hr23 := rg_12_2 hR (k := 387) (by decide) (by decide)
  have hr24 := rg_12_5 hR (k := 387) (by decide) (by decide)
  have gMT : MT σ14 b N 900 := MT.of uq2 fq9 (by decide) (by decide) (by omega) (by omega) hpre0.2.1 hpre0.2.2
  refine lv_aload_n hx hb dX12_valley_12 rfl (lv_at hl 0 rfl) ?_
  refine r_iconst hx hb dX12_valley_13 (by decide) (fun z25 ez25 => ?_)
  refine fp_12_15 (k := 387) hx hb hts in_X12_valley_12 hown hK hP (by decide) (by decide) (hts _ lk_X12_valley_176) hI hR hS dX12_valley_14 (fun σ26 H26 locs26 u26 v26 hR hP hS => ?_)
  have uq14 := u26
  have vq14 := v26
  have hF := hF.puts u26 5 rfl (by decide) (by decide) (by decide) (by decide)
  have gMT := gMT.ag (Agr.put u26 (by decide))
  have gSA := gSA.ag (Agr.put u26 (by decide))
  have gSI := SI.put gSI hR u26 (by decide)
  have t27 : (σ26 387 11).toInt = (σ14 387 11).toInt := congrArg Int32.toInt (u26 387 11 (by omega))
  have t28 : (σ26 387 19).toInt = (σ14 387 19).toInt := congrArg Int32.toInt (u26 387 19 (by omega))
  have t29 : (σ26 387 16).toInt = (σ14 387 16).toInt := congrArg Int32.toInt (u26 387 16 (by omega))
  have t30 : (σ26 387 20).toInt = (σ14 387 20).toInt := congrArg Int32.toInt (u26 387 20 (by omega))
  have t31 : (σ26 387 21).toInt = (σ14 387 21).toInt := congrArg Int32.toInt (u26 387 21 (by omega))
  have t32 : (σ26 387 4).toInt = (σ14 387 4).toInt := congrArg Int32.toInt (u26 387 4 (by omega))
  have t33 : (σ26 387 3).toInt = (σ14 387 3).toInt := congrArg Int32.toInt (u26 387 3 (by omega))
  have t34 : (σ26 387 2).toInt = (σ14 387 2).toInt := congrArg Int32.toInt (u26 387 2 (by omega))
  have t35 : (σ26 387 5).toInt = (σ14 387 5).toInt := congrArg Int32.toInt (u26 387 5 (by omega))
  refine lv_aload_n hx hb dX12_valley_17 rfl (lv_at hl 0 rfl) ?_
  refine r_iconst hx hb dX12_valley_18 (by decide) (fun z36 ez36 => ?_)
  refine fp_12_19 (k := 387) hx hb hts in_X12_valley_12 hown hK hP (by decide) (by decide) (hts _ lk_X12_valley_247) hI hR hS dX12_valley_19 (fun σ37 H37 locs37 u37 v37 hR hP hS => ?_)
  have uq19 := u37
  have vq19 := v37
  have hF := hF.puts u37 6 rfl (by decide) (by decide) (by decide) (by decide)
  have gMT := gMT.ag (Agr.put u37 (by decide))
  have gSA := gSA.ag (Agr.put u37 (by decide))
  have gSI := SI.put gSI hR u37 (by decide)
  have t38 : (σ37 387 11).toInt = (σ26 387 11).toInt := congrArg Int32.toInt (u37 387 11 (by omega))
  have t39 : (σ37 387 16).toInt = (σ26 387 16).toInt := congrArg Int32.toInt (u37 387 16 (by omega))
  have t40 : (σ37 387 20).toInt = (σ26 387 20).toInt := congrArg Int32.toInt (u37 387 20 (by omega))
  have t41 : (σ37 387 21).toInt = (σ26 387 21).toInt := congrArg Int32.toInt (u37 387 21 (by omega))
  have t42 : (σ37 387 4).toInt = (σ26 387 4).toInt := congrArg Int32.toInt (u37 387 4 (by omega))
  have t43 : (σ37 387 3).toInt = (σ26 387 3).toInt := congrArg Int32.toInt (u37 387 3 (by omega))
  have t44 : (σ37 387 2).toInt = (σ26 387 2).toInt := congrArg Int32.toInt (u37 387 2 (by omega))
  have t45 : (σ37 387 5).toInt = (σ26 387 5).toInt := congrArg Int32.toInt (u37 387 5 (by omega))
  have t46 : (σ37 387 15).toInt = (σ26 387 15).toInt := congrArg Int32.toInt (u37 387 15 (by omega))
  refine lv_aload_n hx hb dX12_valley_22 rfl (lv_at hl 0 rfl) ?_
  refine r_iconst hx hb dX12_valley_23 (by decide) (fun z47 ez47 => ?_)
  refine fp_12_20 (k := 387) hx hb hts in_X12_valley_12 hown hK hP (by decide) (by decide) (hts _ lk_X12_valley_213) hI hR hS dX12_valley_24 (fun σ48 H48 locs48 u48 v48 hR hP hS => ?_)
  have uq24 := u48
  have vq24 := v48
  have hF := hF.puts u48 6 rfl (by decide) (by decide) (by decide) (by decide)
  have gMT := gMT.ag (Agr.put u48 (by decide))
  have gSA := gSA.ag (Agr.put u48 (by decide))
  have gSI := SI.put gSI hR u48 (by decide)
  have t49 : (σ48 387 11).toInt = (σ37 387 11).toInt := congrArg Int32.toInt (u48 387 11 (by omega))
  have t50 : (σ48 387 16).toInt = (σ37 387 16).toInt := congrArg Int32.toInt (u48 387 16 (by omega))
  have t51 : (σ48 387 21).toInt = (σ37 387 21).toInt := congrArg Int32.toInt (u48 387 21 (by omega))
  have t52 : (σ48 387 4).toInt = (σ37 387 4).toInt := congrArg Int32.toInt (u48 387 4 (by omega))
  have t53 : (σ48 387 3).toInt = (σ37 387 3).toInt := congrArg Int32.toInt (u48 387 3 (by omega))
  have t54 : (σ48 387 2).toInt = (σ37 387 2).toInt := congrArg Int32.toInt (u48 387 2 (by omega))
  have t55 : (σ48 387 5).toInt = (σ37 387 5).toInt := congrArg Int32.toInt (u48 387 5 (by omega))
  have t56 : (σ48 387 15).toInt = (σ37 387 15).toInt := congrArg Int32.toInt (u48 387 15 (by omega))
  have t57 : (σ48 387 19).toInt = (σ37 387 19).toInt := congrArg Int32.toInt (u48 387 19 (by omega))
  refine lv_aload_n hx hb dX12_valley_27 rfl (lv_at hl 0 rfl) ?_
  refine r_iconst hx hb dX12_valley_28 (by decide) (fun z58 ez58 => ?_)
  refine fp_12_21 (k := 387) hx hb hts in_X12_valley_12 hown hK hP (by decide) (by decide) (hts _ lk_X12_valley_232) hI hR hS dX12_valley_29 (fun σ59 H59 locs59 u59 v59 hR hP hS => ?_)
  have uq29 := u59
  have vq29 := v59
  have hF := hF.puts u59 6 rfl (by decide) (by decide) (by decide) (by decide)
  have gMT := gMT.ag (Agr.put u59 (by decide))
  have gSA := gSA.ag (Agr.put u59 (by decide))
  have gSI := SI.put gSI hR u59 (by decide)
  have t60 : (σ59 387 11).toInt = (σ48 387 11).toInt := congrArg Int32.toInt (u59 387 11 (by omega))
  have t61 : (σ59 387 16).toInt = (σ48 387 16).toInt := congrArg Int32.toInt (u59 387 16 (by omega))
  have t62 : (σ59 387 4).toInt = (σ48 387 4).toInt := congrArg Int32.toInt (u59 387 4 (by omega))
  have t63 : (σ59 387 3).toInt = (σ48 387 3).toInt := congrArg Int32.toInt (u59 387 3 (by omega))
  have t64 : (σ59 387 2).toInt = (σ48 387 2).toInt := congrArg Int32.toInt (u59 387 2 (by omega))
  have t65 : (σ59 387 5).toInt = (σ48 387 5).toInt := congrArg Int32.toInt (u59 387 5 (by omega))
  have t66 : (σ59 387 15).toInt = (σ48 387 15).toInt := congrArg Int32.toInt (u59 387 15 (by omega))
  have t67 : (σ59 387 19).toInt = (σ48 387 19).toInt := congrArg Int32.toInt (u59 387 19 (by omega))
  have t68 : (σ59 387 20).toInt = (σ48 387 20).toInt := congrArg Int32.toInt (u59 387 20 (by omega))
  refine r_iconst hx hb dX12_valley_32 (by decide) (fun z69 ez69 => ?_)
  refine lv_istore_n (lv' := [(1, .int z69), (0, .ref (ad 387))]) hx hb dX12_valley_33 rfl hl (by decide) rfl (fun ls hl => ?_)
  exact K34 σ59 τ0 H59 locs59 z69 ls hR hF hFL hP hS (by omega) (by omega) (by omega) (by omega) (by omega) (by omega) (by omega) (by omega) (by omega) (by first | exact (fun j hj => absurd hj (by omega)) | exact Z1st iz1 uz (by omega) (by omega)) (by omega) (by omega) (by omega) (by omega) (by omega) (by omega) gSI gRV gMT gSA gSB (lv_sub hl [1, 0] rfl) (by omega)
theorem in_X12_fault_12 : ∀ w ∈ u_ws RX12 TX12 47, w ∈ wsX12_fault := by decide +kernel
theorem lk_X12_fault_1 : Cond.fieldLink RX12 1 "CuckooSharesModel" "thrown" "I" ∈ wsX12_fault := by decide +kernel
theorem lk_X12_fault_176 : Cond.fieldLink RX12 176 "CuckooSharesModel" "fault" "I" ∈ wsX12_fault := by decide +kernel
abbrev L_X12_fault : List Rc := [(387, 387, 0, 0)]
abbrev LL_X12_fault : List Rc := []
def P_X12_fault (σ0 : Nat → Nat → Int32) (τ0 : Nat → Nat → Int64)  (r : Int32) (σ : Nat → Nat → Int32) (τ : Nat → Nat → Int64) : Prop := Rg σ ∧ Fr L_X12_fault σ0 σ ∧ FrL LL_X12_fault τ0 τ ∧ (r.toInt = (σ0 387 15).toInt)
set_option maxHeartbeats 4000000 in
theorem c_X12_fault (l : Launch) (D : va_G) (cA : Nat → ClassId) (ad : Nat → Nat) (hI : Inj ad) (σ0 : Nat → Nat → Int32) (τ0 : Nat → Nat → Int64) (hR : Rg σ0)   : Met l yX12_fault wsX12_fault ({ frames := 0, cells := 0, slots := 0, locals := 0 } : Room) (WQc D cA ad [.ref (ad 387)] σ0 τ0) (va_Qi (fun (r : Int32) (u : SS) => P_X12_fault σ0 τ0 r u.1 u.2) (WB D cA ad) (AA ad)) 0 0 (AA ad) := by
  refine Met.ofW (cc := cX12_fault) (maxL := 1) (ret := (some .int)) (by decide) rfl ?_
  intro p e s m args below meth c s₁ B hml hv
  obtain ⟨rfl, hP, hK, hN⟩ := hv
  have C : Cy p s m _ meth c cX12_fault 1 wsX12_fault RX12 D cA ad (some .int) := ⟨B.exec, B.bytes, hml, findClass_of_methodNamed B.named, atoms_spec (ws := wsX12_fault) B.pre, hK, B.notSynchronized, B.returns, hI, hN⟩
  have hl := lv_entry ([.ref (ad 387)]) (n := 1) (Nat.le_of_ble_eq_true rfl)
  rw [lg_entry_eq]
  generalize (lg_sl ([.ref (ad 387)]) ++ List.replicate (1 - (lg_sl ([.ref (ad 387)])).length) Slot.unset).toArray = ls at hl ⊢
  have hl : lv_has ls 1 [(0, .ref (ad 387))] := hl
  have hS : va_S (AA ad) s.heap s.heap [] := va_S.rf
  have hF : Fr L_X12_fault σ0 σ0 := Fr.rf
  have hFL : FrL LL_X12_fault τ0 τ0 := FrL.rf
  obtain ⟨hx, hb, _, hown, hts, _, hk, hr, _, _⟩ := C
  refine lv_aload_n hx hb dX12_fault_0 rfl (lv_at hl 0 rfl) ?_
  refine r_iconst hx hb dX12_fault_1 (by decide) (fun z1 ez1 => ?_)
  refine fp_12_0 (k := 387) hx hb hts in_X12_fault_12 hown hK hP (by decide) (by decide) (hts _ lk_X12_fault_1) hI hR hS (by omega) dX12_fault_2 (fun σ2 H2 locs2 u2 v2 hR hP hS => ?_)
  have u0 := u2
  have v0 := v2
  have hF := hF.puts u2 0 rfl (by decide) (by decide) (by decide) (by decide)
  refine lv_aload_n hx hb dX12_fault_5 rfl (lv_at hl 0 rfl) ?_
  refine fg_12_15 (k := 387) hx hb hts in_X12_fault_12 hown hK hP (by decide) (by decide) (hts _ lk_X12_fault_176) dX12_fault_6 ?_
  exact r_iret hx hb hr hK hP hS hk dX12_fault_9 (show P_X12_fault σ0 τ0 (σ2 387 15) σ2 τ0 from ⟨hR, hF, hFL, by have h9 := congrArg Int32.toInt (u0 387 15 (by omega)); omega⟩)
theorem in_X12_isHill_12 : ∀ w ∈ u_ws RX12 TX12 47, w ∈ wsX12_isHill := by decide +kernel
theorem lk_X12_isHill_33 : Cond.fieldLink RX12 33 "CuckooSharesModel" "s" "[I" ∈ wsX12_isHill := by decide +kernel
abbrev L_X12_isHill : List Rc := []
abbrev LL_X12_isHill : List Rc := []
def P_X12_isHill (σ0 : Nat → Nat → Int32) (τ0 : Nat → Nat → Int64) (a1 : Int32) (r : Int32) (σ : Nat → Nat → Int32) (τ : Nat → Nat → Int64) : Prop := Rg σ ∧ Fr L_X12_isHill σ0 σ ∧ FrL LL_X12_isHill τ0 τ ∧ (0 ≤ r.toInt ∧ r.toInt ≤ 1) ∧ (r.toInt = 0 ∨ (r.toInt = 1 ∧ 0 ≤ a1.toInt ∧ a1.toInt ≤ 7))
set_option maxHeartbeats 4000000 in
theorem c_X12_isHill (l : Launch) (D : va_G) (cA : Nat → ClassId) (ad : Nat → Nat) (hI : Inj ad) (σ0 : Nat → Nat → Int32) (τ0 : Nat → Nat → Int64) (hR : Rg σ0) (a1 : Int32)  : Met l yX12_isHill wsX12_isHill ({ frames := 1, cells := 0, slots := 0, locals := 22 } : Room) (WQc D cA ad [.ref (ad 387), .int a1] σ0 τ0) (va_Qi (fun (r : Int32) (u : SS) => P_X12_isHill σ0 τ0 a1 r u.1 u.2) (WB D cA ad) (AA ad)) 0 0 (AA ad) := by
  refine Met.ofW (cc := cX12_isHill) (maxL := 2) (ret := (some .boolean)) (by decide) rfl ?_
  intro p e s m args below meth c s₁ B hml hv
  obtain ⟨rfl, hP, hK, hN⟩ := hv
  have C : Cy p s m _ meth c cX12_isHill 2 wsX12_isHill RX12 D cA ad (some .boolean) := ⟨B.exec, B.bytes, hml, findClass_of_methodNamed B.named, atoms_spec (ws := wsX12_isHill) B.pre, hK, B.notSynchronized, B.returns, hI, hN⟩
  have hl := lv_entry ([.ref (ad 387), .int a1]) (n := 2) (Nat.le_of_ble_eq_true rfl)
  rw [lg_entry_eq]
  generalize (lg_sl ([.ref (ad 387), .int a1]) ++ List.replicate (2 - (lg_sl ([.ref (ad 387), .int a1])).length) Slot.unset).toArray = ls at hl ⊢
  have hl : lv_has ls 2 [(0, .ref (ad 387)), (1, .int a1)] := hl
  have hS : va_S (AA ad) s.heap s.heap [] := va_S.rf
  have hF : Fr L_X12_isHill σ0 σ0 := Fr.rf
  have hFL : FrL LL_X12_isHill τ0 τ0 := FrL.rf
  obtain ⟨hx, hb, _, hown, hts, _, hk, hr, _, _⟩ := C
  refine lv_iload_n hx hb dX12_isHill_0 rfl (lv_at hl 1 rfl) ?_
  refine r_iconst hx hb dX12_isHill_1 (by decide) (fun z1 ez1 => ?_)
  refine lv_aload_n hx hb dX12_isHill_2 rfl (lv_at hl 0 rfl) ?_
  refine fg_12_6 (k := 387) hx hb hts in_X12_isHill_12 hown hK hP (by decide) (by decide) (hts _ lk_X12_isHill_33) dX12_isHill_3 ?_
  refine r_iconst hx hb dX12_isHill_6 (by decide) (fun z2 ez2 => ?_)
  refine ad_ms (k := 389) (j := 0) hx hb hK hP (by decide) (by decide) (by omega) (by omega) dX12_isHill_7 ?_
  have hr3 := ra_ms_0 hR (k := 389) (j := 0) (by decide) (by decide) (by decide) (by decide)
  refine r_iconst hx hb dX12_isHill_8 (by decide) (fun z4 ez4 => ?_)
  refine r_isub hx hb dX12_isHill_9 (by omega) (fun z5 ez5 => ?_)
  refine r_cSi (As := [.int a1, .int z1, .int z5]) (rest := []) ⟨hx, hb, hml, hown, hts⟩ hK hP hN hS (c_X12_isIn l D cA ad hI σ0 τ0 hR a1 z1 z5) (va_cwS 3 hts gX12_isHill_X12_isIn rfl rfl rfl (by decide +kernel) ⟨by decide, by decide⟩) rfl hl.1 rfl (Nat.le_of_ble_eq_true rfl) dX12_isHill_10 (Nat.zero_le _) (Nat.zero_le _) (fun r6 u6 H6 locs6 hp6 hP hS => ?_)
  obtain ⟨σ6, τ6⟩ := u6
  obtain ⟨hR, f6, fL6, hq6, hp6_0, hp6_1⟩ : P_X12_isIn σ0 τ0 a1 z1 z5 r6 σ6 τ6 := hp6
  have hP : va_P D vwCl (gw cA ad σ6 τ6) H6 := hP
  obtain rfl := FrL.nil fL6
  obtain rfl := Fr.nil f6
  exact r_zret hx hb hr hK hP hS hk (by omega) dX12_isHill_13 (show P_X12_isHill σ0 τ0 a1 r6 σ0 τ0 from ⟨hR, hF, hFL, by omega, by omega⟩)
theorem in_X12_valleyOf_12 : ∀ w ∈ u_ws RX12 TX12 47, w ∈ wsX12_valleyOf := by decide +kernel
theorem lk_X12_valleyOf_33 : Cond.fieldLink RX12 33 "CuckooSharesModel" "s" "[I" ∈ wsX12_valleyOf := by decide +kernel
abbrev L_X12_valleyOf : List Rc := []
abbrev LL_X12_valleyOf : List Rc := []
def P_X12_valleyOf (σ0 : Nat → Nat → Int32) (τ0 : Nat → Nat → Int64) (a1 : Int32) (r : Int32) (σ : Nat → Nat → Int32) (τ : Nat → Nat → Int64) : Prop := Rg σ ∧ Fr L_X12_valleyOf σ0 σ ∧ FrL LL_X12_valleyOf τ0 τ ∧ (0 ≤ r.toInt ∧ r.toInt ≤ 1) ∧ ((r.toInt = 1 ∧ (σ0 389 3).toInt < a1.toInt) ∨ (r.toInt = 0 ∧ a1.toInt ≤ (σ0 389 3).toInt))
set_option maxHeartbeats 4000000 in
theorem c_X12_valleyOf (l : Launch) (D : va_G) (cA : Nat → ClassId) (ad : Nat → Nat) (hI : Inj ad) (σ0 : Nat → Nat → Int32) (τ0 : Nat → Nat → Int64) (hR : Rg σ0) (a1 : Int32)  : Met l yX12_valleyOf wsX12_valleyOf ({ frames := 0, cells := 0, slots := 0, locals := 0 } : Room) (WQc D cA ad [.ref (ad 387), .int a1] σ0 τ0) (va_Qi (fun (r : Int32) (u : SS) => P_X12_valleyOf σ0 τ0 a1 r u.1 u.2) (WB D cA ad) (AA ad)) 0 0 (AA ad) := by
  refine Met.ofW (cc := cX12_valleyOf) (maxL := 2) (ret := (some .int)) (by decide) rfl ?_
  intro p e s m args below meth c s₁ B hml hv
  obtain ⟨rfl, hP, hK, hN⟩ := hv
  have C : Cy p s m _ meth c cX12_valleyOf 2 wsX12_valleyOf RX12 D cA ad (some .int) := ⟨B.exec, B.bytes, hml, findClass_of_methodNamed B.named, atoms_spec (ws := wsX12_valleyOf) B.pre, hK, B.notSynchronized, B.returns, hI, hN⟩
  have hl := lv_entry ([.ref (ad 387), .int a1]) (n := 2) (Nat.le_of_ble_eq_true rfl)
  rw [lg_entry_eq]
  generalize (lg_sl ([.ref (ad 387), .int a1]) ++ List.replicate (2 - (lg_sl ([.ref (ad 387), .int a1])).length) Slot.unset).toArray = ls at hl ⊢
  have hl : lv_has ls 2 [(0, .ref (ad 387)), (1, .int a1)] := hl
  have hS : va_S (AA ad) s.heap s.heap [] := va_S.rf
  have hF : Fr L_X12_valleyOf σ0 σ0 := Fr.rf
  have hFL : FrL LL_X12_valleyOf τ0 τ0 := FrL.rf
  obtain ⟨hx, hb, _, hown, hts, _, hk, hr, _, _⟩ := C
  refine lv_iload_n hx hb dX12_valleyOf_0 rfl (lv_at hl 1 rfl) ?_
  refine lv_aload_n hx hb dX12_valleyOf_1 rfl (lv_at hl 0 rfl) ?_
  refine fg_12_6 (k := 387) hx hb hts in_X12_valleyOf_12 hown hK hP (by decide) (by decide) (hts _ lk_X12_valleyOf_33) dX12_valleyOf_2 ?_
  refine r_iconst hx hb dX12_valleyOf_5 (by decide) (fun z1 ez1 => ?_)
  refine ad_ms (k := 389) (j := 3) hx hb hK hP (by decide) (by decide) (by omega) (by omega) dX12_valleyOf_6 ?_
  refine r_icmp_le (tgt := 14) hx hb dX12_valleyOf_7 (by decide) (fun c2 => ?_) (fun c2 => ?_)
  · refine r_iconst hx hb dX12_valleyOf_14 (by decide) (fun z3 ez3 => ?_)
    exact r_iret hx hb hr hK hP hS hk dX12_valleyOf_15 (show P_X12_valleyOf σ0 τ0 a1 z3 σ0 τ0 from ⟨hR, hF, hFL, by omega, by omega⟩)
  · refine r_iconst hx hb dX12_valleyOf_10 (by decide) (fun z4 ez4 => ?_)
    refine lv_goto (tgt := 15) hx hb dX12_valleyOf_11 (by decide) ?_
    exact r_iret hx hb hr hK hP hS hk dX12_valleyOf_15 (show P_X12_valleyOf σ0 τ0 a1 z4 σ0 τ0 from ⟨hR, hF, hFL, by omega, by omega⟩)
theorem in_X12_hill_12 : ∀ w ∈ u_ws RX12 TX12 47, w ∈ wsX12_hill := by decide +kernel
theorem lk_X12_hill_1 : Cond.fieldLink RX12 1 "CuckooSharesModel" "thrown" "I" ∈ wsX12_hill := by decide +kernel
theorem lk_X12_hill_33 : Cond.fieldLink RX12 33 "CuckooSharesModel" "s" "[I" ∈ wsX12_hill := by decide +kernel
abbrev L_X12_hill : List Rc := [(387, 387, 0, 0)]
abbrev LL_X12_hill : List Rc := []
def P_X12_hill (σ0 : Nat → Nat → Int32) (τ0 : Nat → Nat → Int64) (a1 : Int32) (a2 : Int32) (r : Int32) (σ : Nat → Nat → Int32) (τ : Nat → Nat → Int64) : Prop := Rg σ ∧ Fr L_X12_hill σ0 σ ∧ FrL LL_X12_hill τ0 τ
def J_X12_hill_20 (p : Program) (l : Launch) (e : Env) (s : State) (m : MethodId) (args : Array Value) (below : List Frame) (meth : Method) (c : Code) (D : va_G) (cA : Nat → ClassId) (ad : Nat → Nat) (σ0 : Nat → Nat → Int32) (τ0 : Nat → Nat → Int64) (a1 : Int32) (a2 : Int32) (n : Nat) : Prop := ∀ (σ : Nat → Nat → Int32) (τ : Nat → Nat → Int64) (H : Heap) (locs : List Loc) (x3 : Int32) (x4 : Int32) (ls : Array Slot), Rg σ → Fr L_X12_hill σ0 σ → FrL LL_X12_hill τ0 τ → va_P D vwCl (gw cA ad σ τ) H → va_S (AA ad) s.heap H locs → (0 ≤ a1.toInt ∧ a1.toInt ≤ 7) → (0 ≤ x4.toInt ∧ x4.toInt ≤ 8) → lv_has ls 5 [(0, .ref (ad 387)), (1, .int a1), (2, .int a2), (3, .int x3), (4, .int x4)] → 2 * (8 - x4.toInt) + 1 < (n : Int) → W p l e ({ frames := 2, cells := 0, slots := 0, locals := 43 } : Room) s m args below meth c H locs 0 0 (MQ below (va_Qi (fun (r : Int32) (u : SS) => P_X12_hill σ0 τ0 a1 a2 r u.1 u.2) (WB D cA ad) (AA ad)) args s 0 0 (AA ad)) (F0 m 20 ls [])
set_option maxHeartbeats 4000000 in
theorem B_X12_hill_20 (p : Program) (l : Launch) (e : Env) (s : State) (m : MethodId) (args : Array Value) (below : List Frame) (meth : Method) (c : Code) (D : va_G) (cA : Nat → ClassId) (ad : Nat → Nat) (σ0 : Nat → Nat → Int32) (τ0 : Nat → Nat → Int64) (a1 : Int32) (a2 : Int32) (n : Nat) (C : Cy p s m args meth c cX12_hill 5 wsX12_hill RX12 D cA ad (some .int))  (K20 : J_X12_hill_20 p l e s m args below meth c D cA ad σ0 τ0 a1 a2 n) : J_X12_hill_20 p l e s m args below meth c D cA ad σ0 τ0 a1 a2 (n + 1) := by
  obtain ⟨hx, hb, hml, hown, hts, hK, hk, hr, hI, hN⟩ := C
  intro σ τ H locs x3 x4 ls hR hF hFL hP hS hc0 hc1 hl hm
  obtain rfl := FrL.nil hFL
  refine lv_iload hx hb dX12_hill_20 (lv_at hl 4 rfl) ?_
  refine lv_aload_n hx hb dX12_hill_22 rfl (lv_at hl 0 rfl) ?_
  refine fg_12_6 (k := 387) hx hb hts in_X12_hill_12 hown hK hP (by decide) (by decide) (hts _ lk_X12_hill_33) dX12_hill_23 ?_
  refine r_iconst hx hb dX12_hill_26 (by decide) (fun z1 ez1 => ?_)
  refine ad_ms (k := 389) (j := 1) hx hb hK hP (by decide) (by decide) (by omega) (by omega) dX12_hill_27 ?_
  have hr2 := ra_ms_0 hR (k := 389) (j := 1) (by decide) (by decide) (by decide) (by decide)
  refine r_icmp_ge (tgt := 63) hx hb dX12_hill_28 (by decide) (fun c3 => ?_) (fun c3 => ?_)
  · refine lv_iload_n hx hb dX12_hill_63 rfl (lv_at hl 2 rfl) ?_
    by_cases c4 : a2.toInt = 0
    · refine lv_tableIn (off := 36) (tgt := 100) hx hb dX12_hill_64 (by omega) (by omega) (by rw [c4]; rfl) (by decide) ?_
      refine lv_aload_n hx hb dX12_hill_100 rfl (lv_at hl 0 rfl) ?_
      refine fg_12_6 (k := 387) hx hb hts in_X12_hill_12 hown hK hP (by decide) (by decide) (hts _ lk_X12_hill_33) dX12_hill_101 ?_
      refine r_bipush hx hb dX12_hill_104 (by decide) (fun z5 ez5 => ?_)
      refine lv_iload_n hx hb dX12_hill_106 rfl (lv_at hl 1 rfl) ?_
      refine r_iadd hx hb dX12_hill_107 (by omega) (fun z6 ez6 => ?_)
      obtain ⟨j7, ej7⟩ : ∃ j : Nat, z6.toInt = (j : Int) := ⟨_, ti_nat (by omega)⟩
      refine ad_ms (k := 389) (j := j7) hx hb hK hP (by decide) (by decide) ej7 (by omega) dX12_hill_108 ?_
      exact r_iret hx hb hr hK hP hS hk dX12_hill_109 (show P_X12_hill σ0 τ0 a1 a2 (σ 389 j7) σ τ0 from ⟨hR, hF, hFL⟩)
    by_cases c8 : a2.toInt = 1
    · refine lv_tableIn (off := 46) (tgt := 110) hx hb dX12_hill_64 (by omega) (by omega) (by rw [c8]; rfl) (by decide) ?_
      refine lv_aload_n hx hb dX12_hill_110 rfl (lv_at hl 0 rfl) ?_
      refine fg_12_6 (k := 387) hx hb hts in_X12_hill_12 hown hK hP (by decide) (by decide) (hts _ lk_X12_hill_33) dX12_hill_111 ?_
      refine r_bipush hx hb dX12_hill_114 (by decide) (fun z9 ez9 => ?_)
      refine lv_iload_n hx hb dX12_hill_116 rfl (lv_at hl 1 rfl) ?_
      refine r_iadd hx hb dX12_hill_117 (by omega) (fun z10 ez10 => ?_)
      obtain ⟨j11, ej11⟩ : ∃ j : Nat, z10.toInt = (j : Int) := ⟨_, ti_nat (by omega)⟩
      refine ad_ms (k := 389) (j := j11) hx hb hK hP (by decide) (by decide) ej11 (by omega) dX12_hill_118 ?_
      exact r_iret hx hb hr hK hP hS hk dX12_hill_119 (show P_X12_hill σ0 τ0 a1 a2 (σ 389 j11) σ τ0 from ⟨hR, hF, hFL⟩)
    by_cases c12 : a2.toInt = 2
    · refine lv_tableIn (off := 56) (tgt := 120) hx hb dX12_hill_64 (by omega) (by omega) (by rw [c12]; rfl) (by decide) ?_
      refine lv_aload_n hx hb dX12_hill_120 rfl (lv_at hl 0 rfl) ?_
      refine fg_12_6 (k := 387) hx hb hts in_X12_hill_12 hown hK hP (by decide) (by decide) (hts _ lk_X12_hill_33) dX12_hill_121 ?_
      refine r_bipush hx hb dX12_hill_124 (by decide) (fun z13 ez13 => ?_)
      refine lv_iload_n hx hb dX12_hill_126 rfl (lv_at hl 1 rfl) ?_
      refine r_iadd hx hb dX12_hill_127 (by omega) (fun z14 ez14 => ?_)
      obtain ⟨j15, ej15⟩ : ∃ j : Nat, z14.toInt = (j : Int) := ⟨_, ti_nat (by omega)⟩
      refine ad_ms (k := 389) (j := j15) hx hb hK hP (by decide) (by decide) ej15 (by omega) dX12_hill_128 ?_
      exact r_iret hx hb hr hK hP hS hk dX12_hill_129 (show P_X12_hill σ0 τ0 a1 a2 (σ 389 j15) σ τ0 from ⟨hR, hF, hFL⟩)
    by_cases c16 : a2.toInt = 3
    · refine lv_tableIn (off := 66) (tgt := 130) hx hb dX12_hill_64 (by omega) (by omega) (by rw [c16]; rfl) (by decide) ?_
      refine lv_aload_n hx hb dX12_hill_130 rfl (lv_at hl 0 rfl) ?_
      refine lv_aload_n hx hb dX12_hill_131 rfl (lv_at hl 0 rfl) ?_
      refine fg_12_6 (k := 387) hx hb hts in_X12_hill_12 hown hK hP (by decide) (by decide) (hts _ lk_X12_hill_33) dX12_hill_132 ?_
      refine r_bipush hx hb dX12_hill_135 (by decide) (fun z17 ez17 => ?_)
      refine lv_iload_n hx hb dX12_hill_137 rfl (lv_at hl 1 rfl) ?_
      refine r_iadd hx hb dX12_hill_138 (by omega) (fun z18 ez18 => ?_)
      obtain ⟨j19, ej19⟩ : ∃ j : Nat, z18.toInt = (j : Int) := ⟨_, ti_nat (by omega)⟩
      refine ad_ms (k := 389) (j := j19) hx hb hK hP (by decide) (by decide) ej19 (by omega) dX12_hill_139 ?_
      refine r_cVi (k := 387) (As := [.int (σ 389 j19)]) (rest := []) ⟨hx, hb, hml, hown, hts⟩ hK hP hN hS (c_X12_valleyOf l D cA ad hI σ τ0 hR (σ 389 j19)) (cwV 1 hts gX12_hill_X12_valleyOf rfl rfl rfl (by decide +kernel) ⟨by decide, by decide⟩) (rv_M hK hP (by decide) (by decide)) rfl hl.1 rfl (Nat.le_of_ble_eq_true rfl) dX12_hill_140 (Nat.zero_le _) (Nat.zero_le _) (fun r20 u20 H20 locs20 hp20 hP hS => ?_)
      obtain ⟨σ20, τ20⟩ := u20
      obtain ⟨hR, f20, fL20, hq20, hp20_0⟩ : P_X12_valleyOf σ τ0 (σ 389 j19) r20 σ20 τ20 := hp20
      have hP : va_P D vwCl (gw cA ad σ20 τ20) H20 := hP
      obtain rfl := FrL.nil fL20
      obtain rfl := Fr.nil f20
      exact r_iret hx hb hr hK hP hS hk dX12_hill_143 (show P_X12_hill σ0 τ0 a1 a2 r20 σ τ0 from ⟨hR, hF, hFL⟩)
    by_cases c21 : a2.toInt = 4
    · refine lv_tableIn (off := 80) (tgt := 144) hx hb dX12_hill_64 (by omega) (by omega) (by rw [c21]; rfl) (by decide) ?_
      refine lv_iload_n hx hb dX12_hill_144 rfl (lv_at hl 3 rfl) ?_
      exact r_iret hx hb hr hK hP hS hk dX12_hill_145 (show P_X12_hill σ0 τ0 a1 a2 x3 σ τ0 from ⟨hR, hF, hFL⟩)
    refine lv_tableOut (tgt := 146) hx hb dX12_hill_64 (by omega) (by decide) ?_
    refine r_iconst hx hb dX12_hill_146 (by decide) (fun z22 ez22 => ?_)
    exact r_iret hx hb hr hK hP hS hk dX12_hill_147 (show P_X12_hill σ0 τ0 a1 a2 z22 σ τ0 from ⟨hR, hF, hFL⟩)
  · refine lv_iload_n hx hb dX12_hill_31 rfl (lv_at hl 3 rfl) ?_
    refine lv_aload_n hx hb dX12_hill_32 rfl (lv_at hl 0 rfl) ?_
    refine fg_12_6 (k := 387) hx hb hts in_X12_hill_12 hown hK hP (by decide) (by decide) (hts _ lk_X12_hill_33) dX12_hill_33 ?_
    refine r_sipush hx hb dX12_hill_36 (by decide) (fun z23 ez23 => ?_)
    refine lv_iload hx hb dX12_hill_39 (lv_at hl 4 rfl) ?_
    refine r_iadd hx hb dX12_hill_41 (by omega) (fun z24 ez24 => ?_)
    obtain ⟨j25, ej25⟩ : ∃ j : Nat, z24.toInt = (j : Int) := ⟨_, ti_nat (by omega)⟩
    refine ad_ms (k := 389) (j := j25) hx hb hK hP (by decide) (by decide) ej25 (by omega) dX12_hill_42 ?_
    have hr26 := ra_ms_6 hR (k := 389) (j := j25) (by decide) (by decide) (by omega) (by omega)
    refine lv_iload_n hx hb dX12_hill_43 rfl (lv_at hl 1 rfl) ?_
    refine r_icmp_ne (tgt := 54) hx hb dX12_hill_44 (by decide) (fun c27 => ?_) (fun c27 => ?_)
    · refine r_iconst hx hb dX12_hill_54 (by decide) (fun z28 ez28 => ?_)
      refine r_iorU hx hb dX12_hill_55 (fun z29 => ?_)
      refine lv_istore_n (lv' := [(3, .int z29), (0, .ref (ad 387)), (1, .int a1), (2, .int a2), (4, .int x4)]) hx hb dX12_hill_56 rfl hl (by decide) rfl (fun ls hl => ?_)
      refine r_iinc (k := 4) (lv1 := fun z30 => [(4, .int z30), (3, .int z29), (0, .ref (ad 387)), (1, .int a1), (2, .int a2)]) hx hb dX12_hill_57 hl rfl (by decide) (fun _ => rfl) (by decide) (by omega) (fun z30 ls ez30 hl => ?_)
      refine lv_goto (tgt := 20) hx hb dX12_hill_60 (by decide) ?_
      exact K20 σ τ0 H locs z29 z30 ls hR hF hFL hP hS (by omega) (by omega) (lv_sub hl [2, 3, 4, 1, 0] rfl) (by omega)
    · refine r_iconst hx hb dX12_hill_47 (by decide) (fun z31 ez31 => ?_)
      refine lv_iload hx hb dX12_hill_48 (lv_at hl 4 rfl) ?_
      refine r_ishlU hx hb dX12_hill_50 (fun z32 => ?_)
      refine lv_goto (tgt := 55) hx hb dX12_hill_51 (by decide) ?_
      refine r_iorU hx hb dX12_hill_55 (fun z33 => ?_)
      refine lv_istore_n (lv' := [(3, .int z33), (0, .ref (ad 387)), (1, .int a1), (2, .int a2), (4, .int x4)]) hx hb dX12_hill_56 rfl hl (by decide) rfl (fun ls hl => ?_)
      refine r_iinc (k := 4) (lv1 := fun z34 => [(4, .int z34), (3, .int z33), (0, .ref (ad 387)), (1, .int a1), (2, .int a2)]) hx hb dX12_hill_57 hl rfl (by decide) (fun _ => rfl) (by decide) (by omega) (fun z34 ls ez34 hl => ?_)
      refine lv_goto (tgt := 20) hx hb dX12_hill_60 (by decide) ?_
      exact K20 σ τ0 H locs z33 z34 ls hR hF hFL hP hS (by omega) (by omega) (lv_sub hl [2, 3, 4, 1, 0] rfl) (by omega)
theorem A_X12_hill (p : Program) (l : Launch) (e : Env) (s : State) (m : MethodId) (args : Array Value) (below : List Frame) (meth : Method) (c : Code) (D : va_G) (cA : Nat → ClassId) (ad : Nat → Nat) (σ0 : Nat → Nat → Int32) (τ0 : Nat → Nat → Int64) (a1 : Int32) (a2 : Int32) (C : Cy p s m args meth c cX12_hill 5 wsX12_hill RX12 D cA ad (some .int))  : ∀ n : Nat, J_X12_hill_20 p l e s m args below meth c D cA ad σ0 τ0 a1 a2 n := by
  intro n
  induction n with
  | zero =>
    exact (by intro σ τ H locs x3 x4 ls hR hF hFL hP hS hc0 hc1 hl hm; exfalso; omega)
  | succ n ih =>
    exact B_X12_hill_20 p l e s m args below meth c D cA ad σ0 τ0 a1 a2 n C  ih
set_option maxHeartbeats 4000000 in
theorem c_X12_hill (l : Launch) (D : va_G) (cA : Nat → ClassId) (ad : Nat → Nat) (hI : Inj ad) (σ0 : Nat → Nat → Int32) (τ0 : Nat → Nat → Int64) (hR : Rg σ0) (a1 : Int32) (a2 : Int32)  : Met l yX12_hill wsX12_hill ({ frames := 2, cells := 0, slots := 0, locals := 43 } : Room) (WQc D cA ad [.ref (ad 387), .int a1, .int a2] σ0 τ0) (va_Qi (fun (r : Int32) (u : SS) => P_X12_hill σ0 τ0 a1 a2 r u.1 u.2) (WB D cA ad) (AA ad)) 0 0 (AA ad) := by
  refine Met.ofW (cc := cX12_hill) (maxL := 5) (ret := (some .int)) (by decide) rfl ?_
  intro p e s m args below meth c s₁ B hml hv
  obtain ⟨rfl, hP, hK, hN⟩ := hv
  have C : Cy p s m _ meth c cX12_hill 5 wsX12_hill RX12 D cA ad (some .int) := ⟨B.exec, B.bytes, hml, findClass_of_methodNamed B.named, atoms_spec (ws := wsX12_hill) B.pre, hK, B.notSynchronized, B.returns, hI, hN⟩
  have hl := lv_entry ([.ref (ad 387), .int a1, .int a2]) (n := 5) (Nat.le_of_ble_eq_true rfl)
  rw [lg_entry_eq]
  generalize (lg_sl ([.ref (ad 387), .int a1, .int a2]) ++ List.replicate (5 - (lg_sl ([.ref (ad 387), .int a1, .int a2])).length) Slot.unset).toArray = ls at hl ⊢
  have hl : lv_has ls 5 [(0, .ref (ad 387)), (1, .int a1), (2, .int a2)] := hl
  have hS : va_S (AA ad) s.heap s.heap [] := va_S.rf
  have hF : Fr L_X12_hill σ0 σ0 := Fr.rf
  have hFL : FrL LL_X12_hill τ0 τ0 := FrL.rf
  have hA := A_X12_hill p l e s m _ below meth c D cA ad σ0 τ0 a1 a2 C  42
  have K20 := hA
  clear hA
  obtain ⟨hx, hb, _, hown, hts, _, hk, hr, _, _⟩ := C
  refine lv_aload_n hx hb dX12_hill_0 rfl (lv_at hl 0 rfl) ?_
  refine r_iconst hx hb dX12_hill_1 (by decide) (fun z1 ez1 => ?_)
  refine fp_12_0 (k := 387) hx hb hts in_X12_hill_12 hown hK hP (by decide) (by decide) (hts _ lk_X12_hill_1) hI hR hS (by omega) dX12_hill_2 (fun σ2 H2 locs2 u2 v2 hR hP hS => ?_)
  have hF := hF.puts u2 0 rfl (by decide) (by decide) (by decide) (by decide)
  refine lv_aload_n hx hb dX12_hill_5 rfl (lv_at hl 0 rfl) ?_
  refine lv_iload_n hx hb dX12_hill_6 rfl (lv_at hl 1 rfl) ?_
  refine r_cVi (k := 387) (As := [.int a1]) (rest := []) ⟨hx, hb, hml, hown, hts⟩ hK hP hN hS (c_X12_isHill l D cA ad hI σ2 τ0 hR a1) (cwV 1 hts gX12_hill_X12_isHill rfl rfl rfl (by decide +kernel) ⟨by decide, by decide⟩) (rv_M hK hP (by decide) (by decide)) rfl hl.1 rfl (Nat.le_of_ble_eq_true rfl) dX12_hill_7 (Nat.zero_le _) (Nat.zero_le _) (fun r3 u3 H3 locs3 hp3 hP hS => ?_)
  obtain ⟨σ3, τ3⟩ := u3
  obtain ⟨hR, f3, fL3, hq3, hp3_0⟩ : P_X12_isHill σ2 τ0 a1 r3 σ3 τ3 := hp3
  have hP : va_P D vwCl (gw cA ad σ3 τ3) H3 := hP
  obtain rfl := FrL.nil fL3
  obtain rfl := Fr.nil f3
  refine r_if_ne (tgt := 15) hx hb dX12_hill_10 (by decide) (fun c4 => ?_) (fun c4 => ?_)
  · replace hp3_0 := hp3_0.resolve_left (by omega)
    refine r_iconst hx hb dX12_hill_15 (by decide) (fun z5 ez5 => ?_)
    refine lv_istore_n (lv' := [(3, .int z5), (0, .ref (ad 387)), (1, .int a1), (2, .int a2)]) hx hb dX12_hill_16 rfl hl (by decide) rfl (fun ls hl => ?_)
    refine r_iconst hx hb dX12_hill_17 (by decide) (fun z6 ez6 => ?_)
    refine lv_istore (lv' := [(4, .int z6), (3, .int z5), (0, .ref (ad 387)), (1, .int a1), (2, .int a2)]) hx hb dX12_hill_18 hl (by decide) rfl (fun ls hl => ?_)
    exact K20 σ2 τ0 H3 locs3 z5 z6 ls hR hF hFL hP hS (by omega) (by omega) (lv_sub hl [2, 3, 4, 1, 0] rfl) (by omega)
  · clear hp3_0
    refine r_iconst hx hb dX12_hill_13 (by decide) (fun z7 ez7 => ?_)
    exact r_iret hx hb hr hK hP hS hk dX12_hill_14 (show P_X12_hill σ0 τ0 a1 a2 z7 σ2 τ0 from ⟨hR, hF, hFL⟩)
