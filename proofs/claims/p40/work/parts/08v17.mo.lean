abbrev L_X12_isSign : List Rc := []
abbrev LL_X12_isSign : List Rc := []
def P_X12_isSign (σ0 : Nat → Nat → Int32) (τ0 : Nat → Nat → Int64) (a1 : Int32) (r : Int32) (σ : Nat → Nat → Int32) (τ : Nat → Nat → Int64) : Prop := Rg σ ∧ Fr L_X12_isSign σ0 σ ∧ FrL LL_X12_isSign τ0 τ ∧ (0 ≤ r.toInt ∧ r.toInt ≤ 1) ∧ (r.toInt = 0 ∨ (σ0 387 11).toInt = 3)
set_option maxHeartbeats 4000000 in
theorem c_X12_isSign (l : Launch) (D : va_G) (cA : Nat → ClassId) (ad : Nat → Nat) (hI : Inj ad) (σ0 : Nat → Nat → Int32) (τ0 : Nat → Nat → Int64) (hR : Rg σ0) (a1 : Int32) (ha1 : 59 ≤ a1.toInt ∧ a1.toInt ≤ 59) : Met l yX12_isSign wsX12_isSign ({ frames := 0, cells := 0, slots := 0, locals := 0 } : Room) (WQc D cA ad [.ref (ad 387), .int a1] σ0 τ0) (va_Qi (fun (r : Int32) (u : SS) => P_X12_isSign σ0 τ0 a1 r u.1 u.2) (WB D cA ad) (AA ad)) 0 0 (AA ad) := by
  refine Met.ofW (cc := cX12_isSign) (maxL := 2) (ret := (some .boolean)) (by decide) rfl ?_
  intro p e s m args below meth c s₁ B hml hv
  obtain ⟨rfl, hP, hK, hN⟩ := hv
  have C : Cy p s m _ meth c cX12_isSign 2 wsX12_isSign RX12 D cA ad (some .boolean) := ⟨B.exec, B.bytes, hml, findClass_of_methodNamed B.named, atoms_spec (ws := wsX12_isSign) B.pre, hK, B.notSynchronized, B.returns, hI, hN⟩
  have hl := lv_entry ([.ref (ad 387), .int a1]) (n := 2) (Nat.le_of_ble_eq_true rfl)
  rw [lg_entry_eq]
  generalize (lg_sl ([.ref (ad 387), .int a1]) ++ List.replicate (2 - (lg_sl ([.ref (ad 387), .int a1])).length) Slot.unset).toArray = ls at hl ⊢
  have hl : lv_has ls 2 [(0, .ref (ad 387)), (1, .int a1)] := hl
  have hS : va_S (AA ad) s.heap s.heap [] := va_S.rf
  have hF : Fr L_X12_isSign σ0 σ0 := Fr.rf
  have hFL : FrL LL_X12_isSign τ0 τ0 := FrL.rf
  obtain ⟨hx, hb, _, hown, hts, _, hk, hr, _, _⟩ := C
  refine lv_aload_n hx hb dX12_isSign_0 rfl (lv_at hl 0 rfl) ?_
  refine fg_12_11 (k := 387) hx hb hts in_X12_isSign_12 hown hK hP (by decide) (by decide) (hts _ lk_X12_isSign_159) dX12_isSign_1 ?_
  refine r_iconst hx hb dX12_isSign_4 (by decide) (fun z1 ez1 => ?_)
  refine r_icmp_ne (tgt := 20) hx hb dX12_isSign_5 (by decide) (fun c2 => ?_) (fun c2 => ?_)
  · refine r_iconst hx hb dX12_isSign_20 (by decide) (fun z3 ez3 => ?_)
    exact r_zret hx hb hr hK hP hS hk (by omega) dX12_isSign_21 (show P_X12_isSign σ0 τ0 a1 z3 σ0 τ0 from ⟨hR, hF, hFL, by omega, by omega⟩)
  · refine lv_aload_n hx hb dX12_isSign_8 rfl (lv_at hl 0 rfl) ?_
    refine fg_12_14 (k := 387) hx hb hts in_X12_isSign_12 hown hK hP (by decide) (by decide) (hts _ lk_X12_isSign_169) dX12_isSign_9 ?_
    refine lv_iload_n hx hb dX12_isSign_12 rfl (lv_at hl 1 rfl) ?_
    refine r_icmp_ne (tgt := 20) hx hb dX12_isSign_13 (by decide) (fun c4 => ?_) (fun c4 => ?_)
    · refine r_iconst hx hb dX12_isSign_20 (by decide) (fun z5 ez5 => ?_)
      exact r_zret hx hb hr hK hP hS hk (by omega) dX12_isSign_21 (show P_X12_isSign σ0 τ0 a1 z5 σ0 τ0 from ⟨hR, hF, hFL, by omega, by omega⟩)
    · refine r_iconst hx hb dX12_isSign_16 (by decide) (fun z6 ez6 => ?_)
      refine lv_goto (tgt := 21) hx hb dX12_isSign_17 (by decide) ?_
      exact r_zret hx hb hr hK hP hS hk (by omega) dX12_isSign_21 (show P_X12_isSign σ0 τ0 a1 z6 σ0 τ0 from ⟨hR, hF, hFL, by omega, by omega⟩)
abbrev L_X12_sign : List Rc := [(387, 387, 4, 4), (387, 387, 11, 16)]
abbrev LL_X12_sign : List Rc := [(387, 387, 17, 17)]
def P_X12_sign (σ0 : Nat → Nat → Int32) (τ0 : Nat → Nat → Int64) (a1 : Int32) (r : Int32) (σ : Nat → Nat → Int32) (τ : Nat → Nat → Int64) : Prop := Rg σ ∧ Fr L_X12_sign σ0 σ ∧ FrL LL_X12_sign τ0 τ ∧ (0 ≤ r.toInt ∧ r.toInt ≤ 1) ∧ ((σ0 387 4).toInt ≤ (σ 387 4).toInt) ∧ (r.toInt = 0 ∨ (σ0 387 11).toInt = 3)
set_option maxHeartbeats 4000000 in
theorem c_X12_sign (l : Launch) (D : va_G) (cA : Nat → ClassId) (ad : Nat → Nat) (hI : Inj ad) (σ0 : Nat → Nat → Int32) (τ0 : Nat → Nat → Int64) (hR : Rg σ0) (a1 : Int32) (ha1 : 59 ≤ a1.toInt ∧ a1.toInt ≤ 59) : Met l yX12_sign wsX12_sign ({ frames := 2, cells := 0, slots := 0, locals := 43 } : Room) (WQc D cA ad [.ref (ad 387), .int a1] σ0 τ0) (va_Qi (fun (r : Int32) (u : SS) => P_X12_sign σ0 τ0 a1 r u.1 u.2) (WB D cA ad) (AA ad)) 0 0 (AA ad) := by
  refine Met.ofW (cc := cX12_sign) (maxL := 2) (ret := (some .boolean)) (by decide) rfl ?_
  intro p e s m args below meth c s₁ B hml hv
  obtain ⟨rfl, hP, hK, hN⟩ := hv
  have C : Cy p s m _ meth c cX12_sign 2 wsX12_sign RX12 D cA ad (some .boolean) := ⟨B.exec, B.bytes, hml, findClass_of_methodNamed B.named, atoms_spec (ws := wsX12_sign) B.pre, hK, B.notSynchronized, B.returns, hI, hN⟩
  have hl := lv_entry ([.ref (ad 387), .int a1]) (n := 2) (Nat.le_of_ble_eq_true rfl)
  rw [lg_entry_eq]
  generalize (lg_sl ([.ref (ad 387), .int a1]) ++ List.replicate (2 - (lg_sl ([.ref (ad 387), .int a1])).length) Slot.unset).toArray = ls at hl ⊢
  have hl : lv_has ls 2 [(0, .ref (ad 387)), (1, .int a1)] := hl
  have hS : va_S (AA ad) s.heap s.heap [] := va_S.rf
  have hF : Fr L_X12_sign σ0 σ0 := Fr.rf
  have hFL : FrL LL_X12_sign τ0 τ0 := FrL.rf
  obtain ⟨hx, hb, _, hown, hts, _, hk, hr, _, _⟩ := C
  have hrt4 := rg_12_4 hR (k := 387) (by decide) (by decide)
  have hrt3 := rg_12_3 hR (k := 387) (by decide) (by decide)
  refine lv_aload_n hx hb dX12_sign_0 rfl (lv_at hl 0 rfl) ?_
  refine lv_iload_n hx hb dX12_sign_1 rfl (lv_at hl 1 rfl) ?_
  refine r_cVi (k := 387) (As := [.int a1]) (rest := []) ⟨hx, hb, hml, hown, hts⟩ hK hP hN hS (c_X12_isSign l D cA ad hI σ0 τ0 hR a1 (by omega)) (cwV 1 hts gX12_sign_X12_isSign rfl rfl rfl (by decide +kernel) ⟨by decide, by decide⟩) (rv_M hK hP (by decide) (by decide)) rfl hl.1 rfl (Nat.le_of_ble_eq_true rfl) dX12_sign_2 (Nat.zero_le _) (Nat.zero_le _) (fun r1 u1 H1 locs1 hp1 hP hS => ?_)
  obtain ⟨σ1, τ1⟩ := u1
  obtain ⟨hR, f1, fL1, hq1, hp1_0⟩ : P_X12_isSign σ0 τ0 a1 r1 σ1 τ1 := hp1
  have hP : va_P D vwCl (gw cA ad σ1 τ1) H1 := hP
  obtain rfl := FrL.nil fL1
  obtain rfl := Fr.nil f1
  refine r_if_ne (tgt := 14) hx hb dX12_sign_5 (by decide) (fun c2 => ?_) (fun c2 => ?_)
  · replace hp1_0 := hp1_0.resolve_left (by omega)
    refine lv_aload_n hx hb dX12_sign_14 rfl (lv_at hl 0 rfl) ?_
    refine r_cVv (k := 387) (As := []) (rest := []) ⟨hx, hb, hml, hown, hts⟩ hK hP hN hS (c_X12_next l D cA ad hI σ0 τ0 hR) (cwV 0 hts gX12_sign_X12_next rfl rfl rfl (by decide +kernel) ⟨by decide, by decide⟩) (rv_M hK hP (by decide) (by decide)) rfl hl.1 rfl (Nat.le_of_ble_eq_true rfl) dX12_sign_15 (Nat.zero_le _) (Nat.zero_le _) (fun u3 H3 locs3 hp3 hP hS => ?_)
    obtain ⟨σ3, τ3⟩ := u3
    obtain ⟨hR, f3, fL3, hp3_0, hp3_1, hp3_2⟩ : P_X12_next σ0 τ0 σ3 τ3 := hp3
    have hP : va_P D vwCl (gw cA ad σ3 τ3) H3 := hP
    have hFL := hFL.step fL3 (by decide)
    have hF := hF.step f3 (by decide)
    have t4 : (σ3 387 3).toInt = (σ0 387 3).toInt := congrArg Int32.toInt (f3.at 387 3 (by decide))
    have hr5 := rg_12_4 hR (k := 387) (by decide) (by decide)
    refine r_iconst hx hb dX12_sign_18 (by decide) (fun z6 ez6 => ?_)
    exact r_zret hx hb hr hK hP hS hk (by omega) dX12_sign_19 (show P_X12_sign σ0 τ0 a1 z6 σ3 τ3 from ⟨hR, hF, hFL, by omega, by omega, by omega⟩)
  · clear hp1_0
    refine lv_aload_n hx hb dX12_sign_8 rfl (lv_at hl 0 rfl) ?_
    refine r_iconst hx hb dX12_sign_9 (by decide) (fun z7 ez7 => ?_)
    refine r_cVi (k := 387) (As := [.int z7]) (rest := []) ⟨hx, hb, hml, hown, hts⟩ hK hP hN hS (c_X12_bad l D cA ad hI σ0 τ0 hR z7 (by omega)) (cwV 1 hts gX12_sign_X12_bad rfl rfl rfl (by decide +kernel) ⟨by decide, by decide⟩) (rv_M hK hP (by decide) (by decide)) rfl hl.1 rfl (Nat.le_of_ble_eq_true rfl) dX12_sign_10 (Nat.zero_le _) (Nat.zero_le _) (fun r8 u8 H8 locs8 hp8 hP hS => ?_)
    obtain ⟨σ8, τ8⟩ := u8
    obtain ⟨hR, f8, fL8, hq8⟩ : P_X12_bad σ0 τ0 z7 r8 σ8 τ8 := hp8
    have hP : va_P D vwCl (gw cA ad σ8 τ8) H8 := hP
    obtain rfl := FrL.nil fL8
    have hF := hF.step f8 (by decide)
    have t9 : (σ8 387 4).toInt = (σ0 387 4).toInt := congrArg Int32.toInt (f8.at 387 4 (by decide))
    have t10 : (σ8 387 3).toInt = (σ0 387 3).toInt := congrArg Int32.toInt (f8.at 387 3 (by decide))
    have t11 : (σ8 387 11).toInt = (σ0 387 11).toInt := congrArg Int32.toInt (f8.at 387 11 (by decide))
    exact r_zret hx hb hr hK hP hS hk (by omega) dX12_sign_13 (show P_X12_sign σ0 τ0 a1 r8 σ8 τ0 from ⟨hR, hF, hFL, by omega, by omega, by omega⟩)
theorem in_X12_whyLine_12 : ∀ w ∈ u_ws RX12 TX12 47, w ∈ wsX12_whyLine := by decide +kernel
theorem lk_X12_whyLine_33 : Cond.fieldLink RX12 33 "CuckooSharesModel" "s" "[I" ∈ wsX12_whyLine := by decide +kernel
abbrev L_X12_whyLine : List Rc := [(394, 394, 0, 7), (395, 395, 0, 7), (396, 396, 0, 7)]
abbrev LL_X12_whyLine : List Rc := []
def P_X12_whyLine (σ0 : Nat → Nat → Int32) (τ0 : Nat → Nat → Int64) (a1 : Int32) (a2 : Int32) (a3 : Int32) (r : Int32) (σ : Nat → Nat → Int32) (τ : Nat → Nat → Int64) : Prop := Rg σ ∧ Fr L_X12_whyLine σ0 σ ∧ FrL LL_X12_whyLine τ0 τ ∧ (0 ≤ r.toInt ∧ r.toInt ≤ 9) ∧ (r.toInt ≠ 0 ∨ a1.toInt ≠ 0 ∨ (0 ≤ a2.toInt ∧ a2.toInt ≤ 3))
set_option maxHeartbeats 4000000 in
theorem c_X12_whyLine (l : Launch) (D : va_G) (cA : Nat → ClassId) (ad : Nat → Nat) (hI : Inj ad) (σ0 : Nat → Nat → Int32) (τ0 : Nat → Nat → Int64) (hR : Rg σ0) (a1 : Int32) (a2 : Int32) (a3 : Int32) (hpre0 : a1.toInt < 1 ∨ 3 < a1.toInt ∨ (0 ≤ a2.toInt ∧ a2.toInt ≤ 7)) (hpre1 : a1.toInt ≠ 2 ∨ (0 ≤ a3.toInt ∧ a3.toInt ≤ 9)) (hpre2 : a1.toInt ≠ 3 ∨ (0 ≤ a3.toInt ∧ a3.toInt ≤ 7)) : Met l yX12_whyLine wsX12_whyLine ({ frames := 3, cells := 0, slots := 0, locals := 68 } : Room) (WQc D cA ad [.ref (ad 387), .int a1, .int a2, .int a3] σ0 τ0) (va_Qi (fun (r : Int32) (u : SS) => P_X12_whyLine σ0 τ0 a1 a2 a3 r u.1 u.2) (WB D cA ad) (AA ad)) 0 0 (AA ad) := by
  refine Met.ofW (cc := cX12_whyLine) (maxL := 4) (ret := (some .int)) (by decide) rfl ?_
  intro p e s m args below meth c s₁ B hml hv
  obtain ⟨rfl, hP, hK, hN⟩ := hv
  have C : Cy p s m _ meth c cX12_whyLine 4 wsX12_whyLine RX12 D cA ad (some .int) := ⟨B.exec, B.bytes, hml, findClass_of_methodNamed B.named, atoms_spec (ws := wsX12_whyLine) B.pre, hK, B.notSynchronized, B.returns, hI, hN⟩
  have hl := lv_entry ([.ref (ad 387), .int a1, .int a2, .int a3]) (n := 4) (Nat.le_of_ble_eq_true rfl)
  rw [lg_entry_eq]
  generalize (lg_sl ([.ref (ad 387), .int a1, .int a2, .int a3]) ++ List.replicate (4 - (lg_sl ([.ref (ad 387), .int a1, .int a2, .int a3])).length) Slot.unset).toArray = ls at hl ⊢
  have hl : lv_has ls 4 [(0, .ref (ad 387)), (1, .int a1), (2, .int a2), (3, .int a3)] := hl
  have hS : va_S (AA ad) s.heap s.heap [] := va_S.rf
  have hF : Fr L_X12_whyLine σ0 σ0 := Fr.rf
  have hFL : FrL LL_X12_whyLine τ0 τ0 := FrL.rf
  obtain ⟨hx, hb, _, hown, hts, _, hk, hr, _, _⟩ := C
  refine lv_iload_n hx hb dX12_whyLine_0 rfl (lv_at hl 1 rfl) ?_
  by_cases c1 : a1.toInt = 0
  · refine lv_tableIn (off := 35) (tgt := 36) hx hb dX12_whyLine_1 (by omega) (by omega) (by rw [c1]; rfl) (by decide) ?_
    refine lv_aload_n hx hb dX12_whyLine_36 rfl (lv_at hl 0 rfl) ?_
    refine lv_iload_n hx hb dX12_whyLine_37 rfl (lv_at hl 2 rfl) ?_
    refine r_cVi (k := 387) (As := [.int a2]) (rest := []) ⟨hx, hb, hml, hown, hts⟩ hK hP hN hS (c_X12_isFlight l D cA ad hI σ0 τ0 hR a2) (cwV 1 hts gX12_whyLine_X12_isFlight rfl rfl rfl (by decide +kernel) ⟨by decide, by decide⟩) (rv_M hK hP (by decide) (by decide)) rfl hl.1 rfl (Nat.le_of_ble_eq_true rfl) dX12_whyLine_38 (Nat.zero_le _) (Nat.zero_le _) (fun r2 u2 H2 locs2 hp2 hP hS => ?_)
    obtain ⟨σ2, τ2⟩ := u2
    obtain ⟨hR, f2, fL2, hq2, hp2_0, hp2_1⟩ : P_X12_isFlight σ0 τ0 a2 r2 σ2 τ2 := hp2
    have hP : va_P D vwCl (gw cA ad σ2 τ2) H2 := hP
    obtain rfl := FrL.nil fL2
    obtain rfl := Fr.nil f2
    refine r_if_ne (tgt := 49) hx hb dX12_whyLine_41 (by decide) (fun c3 => ?_) (fun c3 => ?_)
    · replace hp2_0 := hp2_0.resolve_left (by omega)
      refine lv_aload_n hx hb dX12_whyLine_49 rfl (lv_at hl 0 rfl) ?_
      refine fg_12_6 (k := 387) hx hb hts in_X12_whyLine_12 hown hK hP (by decide) (by decide) (hts _ lk_X12_whyLine_33) dX12_whyLine_50 ?_
      refine r_sipush hx hb dX12_whyLine_53 (by decide) (fun z4 ez4 => ?_)
      refine ad_ms (k := 389) (j := 212) hx hb hK hP (by decide) (by decide) (by omega) (by omega) dX12_whyLine_56 ?_
      have hr5 := ra_ms_5 hR (k := 389) (j := 212) (by decide) (by decide) (by decide) (by decide)
      refine r_if_le (tgt := 64) hx hb dX12_whyLine_57 (by decide) (fun c6 => ?_) (fun c6 => ?_)
      · refine r_iconst hx hb dX12_whyLine_64 (by decide) (fun z7 ez7 => ?_)
        exact r_iret hx hb hr hK hP hS hk dX12_whyLine_65 (show P_X12_whyLine σ0 τ0 a1 a2 a3 z7 σ0 τ0 from ⟨hR, hF, hFL, by omega, by omega⟩)
      · refine r_iconst hx hb dX12_whyLine_60 (by decide) (fun z8 ez8 => ?_)
        refine lv_goto (tgt := 65) hx hb dX12_whyLine_61 (by decide) ?_
        exact r_iret hx hb hr hK hP hS hk dX12_whyLine_65 (show P_X12_whyLine σ0 τ0 a1 a2 a3 z8 σ0 τ0 from ⟨hR, hF, hFL, by omega, by omega⟩)
    · clear hp2_0
      refine r_bipush hx hb dX12_whyLine_44 (by decide) (fun z9 ez9 => ?_)
      refine lv_goto (tgt := 65) hx hb dX12_whyLine_46 (by decide) ?_
      exact r_iret hx hb hr hK hP hS hk dX12_whyLine_65 (show P_X12_whyLine σ0 τ0 a1 a2 a3 z9 σ0 τ0 from ⟨hR, hF, hFL, by omega, by omega⟩)
  by_cases c10 : a1.toInt = 1
  · refine lv_tableIn (off := 65) (tgt := 66) hx hb dX12_whyLine_1 (by omega) (by omega) (by rw [c10]; rfl) (by decide) ?_
    refine lv_aload_n hx hb dX12_whyLine_66 rfl (lv_at hl 0 rfl) ?_
    refine lv_iload_n hx hb dX12_whyLine_67 rfl (lv_at hl 2 rfl) ?_
    refine lv_iload_n hx hb dX12_whyLine_68 rfl (lv_at hl 3 rfl) ?_
    refine r_cVi (k := 387) (As := [.int a2, .int a3]) (rest := []) ⟨hx, hb, hml, hown, hts⟩ hK hP hN hS (c_X12_whyMove l D cA ad hI σ0 τ0 hR a2 a3 (by omega)) (cwV 2 hts gX12_whyLine_X12_whyMove rfl rfl rfl (by decide +kernel) ⟨by decide, by decide⟩) (rv_M hK hP (by decide) (by decide)) rfl hl.1 rfl (Nat.le_of_ble_eq_true rfl) dX12_whyLine_69 (Nat.zero_le _) (Nat.zero_le _) (fun r11 u11 H11 locs11 hp11 hP hS => ?_)
    obtain ⟨σ11, τ11⟩ := u11
    obtain ⟨hR, f11, fL11, hq11⟩ : P_X12_whyMove σ0 τ0 a2 a3 r11 σ11 τ11 := hp11
    have hP : va_P D vwCl (gw cA ad σ11 τ11) H11 := hP
    obtain rfl := FrL.nil fL11
    obtain rfl := Fr.nil f11
    exact r_iret hx hb hr hK hP hS hk dX12_whyLine_72 (show P_X12_whyLine σ0 τ0 a1 a2 a3 r11 σ0 τ0 from ⟨hR, hF, hFL, by omega, by omega⟩)
  by_cases c12 : a1.toInt = 2
  · refine lv_tableIn (off := 72) (tgt := 73) hx hb dX12_whyLine_1 (by omega) (by omega) (by rw [c12]; rfl) (by decide) ?_
    refine lv_aload_n hx hb dX12_whyLine_73 rfl (lv_at hl 0 rfl) ?_
    refine lv_iload_n hx hb dX12_whyLine_74 rfl (lv_at hl 2 rfl) ?_
    refine lv_iload_n hx hb dX12_whyLine_75 rfl (lv_at hl 3 rfl) ?_
    refine r_cVi (k := 387) (As := [.int a2, .int a3]) (rest := []) ⟨hx, hb, hml, hown, hts⟩ hK hP hN hS (c_X12_whySwear l D cA ad hI σ0 τ0 hR a2 a3 (by omega) (by omega)) (cwV 2 hts gX12_whyLine_X12_whySwear rfl rfl rfl (by decide +kernel) ⟨by decide, by decide⟩) (rv_M hK hP (by decide) (by decide)) rfl hl.1 rfl (Nat.le_of_ble_eq_true rfl) dX12_whyLine_76 (Nat.zero_le _) (Nat.zero_le _) (fun r13 u13 H13 locs13 hp13 hP hS => ?_)
    obtain ⟨σ13, τ13⟩ := u13
    obtain ⟨hR, f13, fL13, hq13⟩ : P_X12_whySwear σ0 τ0 a2 a3 r13 σ13 τ13 := hp13
    have hP : va_P D vwCl (gw cA ad σ13 τ13) H13 := hP
    obtain rfl := FrL.nil fL13
    obtain rfl := Fr.nil f13
    exact r_iret hx hb hr hK hP hS hk dX12_whyLine_79 (show P_X12_whyLine σ0 τ0 a1 a2 a3 r13 σ0 τ0 from ⟨hR, hF, hFL, by omega, by omega⟩)
  by_cases c14 : a1.toInt = 3
  · refine lv_tableIn (off := 79) (tgt := 80) hx hb dX12_whyLine_1 (by omega) (by omega) (by rw [c14]; rfl) (by decide) ?_
    refine lv_iload_n hx hb dX12_whyLine_80 rfl (lv_at hl 2 rfl) ?_
    refine lv_iload_n hx hb dX12_whyLine_81 rfl (lv_at hl 3 rfl) ?_
    refine r_icmp_ne (tgt := 90) hx hb dX12_whyLine_82 (by decide) (fun c15 => ?_) (fun c15 => ?_)
    · refine lv_aload_n hx hb dX12_whyLine_90 rfl (lv_at hl 0 rfl) ?_
      refine lv_iload_n hx hb dX12_whyLine_91 rfl (lv_at hl 2 rfl) ?_
      refine lv_iload_n hx hb dX12_whyLine_92 rfl (lv_at hl 3 rfl) ?_
      refine r_cVi (k := 387) (As := [.int a2, .int a3]) (rest := []) ⟨hx, hb, hml, hown, hts⟩ hK hP hN hS (c_X12_whyAccuse l D cA ad hI σ0 τ0 hR a2 a3 (by omega) (by omega)) (cwV 2 hts gX12_whyLine_X12_whyAccuse rfl rfl rfl (by decide +kernel) ⟨by decide, by decide⟩) (rv_M hK hP (by decide) (by decide)) rfl hl.1 rfl (Nat.le_of_ble_eq_true rfl) dX12_whyLine_93 (Nat.zero_le _) (Nat.zero_le _) (fun r16 u16 H16 locs16 hp16 hP hS => ?_)
      obtain ⟨σ16, τ16⟩ := u16
      obtain ⟨hR, f16, fL16, hq16⟩ : P_X12_whyAccuse σ0 τ0 a2 a3 r16 σ16 τ16 := hp16
      have hP : va_P D vwCl (gw cA ad σ16 τ16) H16 := hP
      obtain rfl := FrL.nil fL16
      have hF := hF.step f16 (by decide)
      exact r_iret hx hb hr hK hP hS hk dX12_whyLine_96 (show P_X12_whyLine σ0 τ0 a1 a2 a3 r16 σ16 τ0 from ⟨hR, hF, hFL, by omega, by omega⟩)
    · refine r_bipush hx hb dX12_whyLine_85 (by decide) (fun z17 ez17 => ?_)
      refine lv_goto (tgt := 96) hx hb dX12_whyLine_87 (by decide) ?_
      exact r_iret hx hb hr hK hP hS hk dX12_whyLine_96 (show P_X12_whyLine σ0 τ0 a1 a2 a3 z17 σ0 τ0 from ⟨hR, hF, hFL, by omega, by omega⟩)
  by_cases c18 : a1.toInt = 4
  · refine lv_tableIn (off := 96) (tgt := 97) hx hb dX12_whyLine_1 (by omega) (by omega) (by rw [c18]; rfl) (by decide) ?_
    refine lv_aload_n hx hb dX12_whyLine_97 rfl (lv_at hl 0 rfl) ?_
    refine r_cVi (k := 387) (As := []) (rest := []) ⟨hx, hb, hml, hown, hts⟩ hK hP hN hS (c_X12_whyShare l D cA ad hI σ0 τ0 hR) (cwV 0 hts gX12_whyLine_X12_whyShare rfl rfl rfl (by decide +kernel) ⟨by decide, by decide⟩) (rv_M hK hP (by decide) (by decide)) rfl hl.1 rfl (Nat.le_of_ble_eq_true rfl) dX12_whyLine_98 (Nat.zero_le _) (Nat.zero_le _) (fun r19 u19 H19 locs19 hp19 hP hS => ?_)
    obtain ⟨σ19, τ19⟩ := u19
    obtain ⟨hR, f19, fL19, hq19⟩ : P_X12_whyShare σ0 τ0 r19 σ19 τ19 := hp19
    have hP : va_P D vwCl (gw cA ad σ19 τ19) H19 := hP
    obtain rfl := FrL.nil fL19
    obtain rfl := Fr.nil f19
    exact r_iret hx hb hr hK hP hS hk dX12_whyLine_101 (show P_X12_whyLine σ0 τ0 a1 a2 a3 r19 σ0 τ0 from ⟨hR, hF, hFL, by omega, by omega⟩)
  refine lv_tableOut (tgt := 102) hx hb dX12_whyLine_1 (by omega) (by decide) ?_
  refine r_iconst hx hb dX12_whyLine_102 (by decide) (fun z20 ez20 => ?_)
  exact r_iret hx hb hr hK hP hS hk dX12_whyLine_103 (show P_X12_whyLine σ0 τ0 a1 a2 a3 z20 σ0 τ0 from ⟨hR, hF, hFL, by omega, by omega⟩)
theorem in_X12_roll_12 : ∀ w ∈ u_ws RX12 TX12 47, w ∈ wsX12_roll := by decide +kernel
theorem lk_X12_roll_1 : Cond.fieldLink RX12 1 "CuckooSharesModel" "thrown" "I" ∈ wsX12_roll := by decide +kernel
theorem lk_X12_roll_159 : Cond.fieldLink RX12 159 "CuckooSharesModel" "token" "I" ∈ wsX12_roll := by decide +kernel
theorem lk_X12_roll_176 : Cond.fieldLink RX12 176 "CuckooSharesModel" "fault" "I" ∈ wsX12_roll := by decide +kernel
theorem lk_X12_roll_179 : Cond.fieldLink RX12 179 "CuckooSharesModel" "faultAt" "I" ∈ wsX12_roll := by decide +kernel
theorem lk_X12_roll_256 : Cond.fieldLink RX12 256 "CuckooSharesModel" "undoMany" "I" ∈ wsX12_roll := by decide +kernel
theorem lk_X12_roll_33 : Cond.fieldLink RX12 33 "CuckooSharesModel" "s" "[I" ∈ wsX12_roll := by decide +kernel
theorem lk_X12_roll_40 : Cond.fieldLink RX12 40 "CuckooSharesModel" "read" "[I" ∈ wsX12_roll := by decide +kernel
theorem lk_X12_roll_416 : Cond.fieldLink RX12 416 "CuckooSharesModel" "told" "I" ∈ wsX12_roll := by decide +kernel
theorem lk_X12_roll_428 : Cond.fieldLink RX12 428 "CuckooSharesModel" "hasRolled" "Z" ∈ wsX12_roll := by decide +kernel
theorem lk_X12_roll_62 : Cond.fieldLink RX12 62 "CuckooSharesModel" "undone" "[I" ∈ wsX12_roll := by decide +kernel
theorem lk_X12_roll_65 : Cond.fieldLink RX12 65 "CuckooSharesModel" "before" "[I" ∈ wsX12_roll := by decide +kernel
theorem lk_X12_roll_68 : Cond.fieldLink RX12 68 "CuckooSharesModel" "rolledAt" "[I" ∈ wsX12_roll := by decide +kernel
abbrev L_X12_roll : List Rc := [(387, 387, 0, 0), (387, 387, 2, 5), (387, 387, 34, 34), (399, 399, 0, 34), (400, 400, 0, 3), (387, 387, 36, 36), (387, 387, 29, 29), (398, 398, 0, 279), (389, 389, 211, 245), (387, 387, 18, 18), (387, 387, 11, 16), (391, 391, 0, 122), (394, 394, 0, 7), (395, 395, 0, 7), (396, 396, 0, 7), (387, 387, 26, 26), (397, 397, 0, 7)]
abbrev LL_X12_roll : List Rc := [(387, 387, 17, 17)]
def P_X12_roll (σ0 : Nat → Nat → Int32) (τ0 : Nat → Nat → Int64) (a1 : Int32) (r : Int32) (σ : Nat → Nat → Int32) (τ : Nat → Nat → Int64) : Prop := Rg σ ∧ Fr L_X12_roll σ0 σ ∧ FrL LL_X12_roll τ0 τ ∧ (((a1.toInt = 0 ∨ a1.toInt = 1) ∧ (σ 387 2).toInt = 0) ∨ (a1.toInt ≠ 0 ∧ a1.toInt ≠ 1 ∧ (σ 387 2).toInt = (σ0 387 2).toInt))
def J_X12_roll_39 (p : Program) (l : Launch) (e : Env) (s : State) (m : MethodId) (args : Array Value) (below : List Frame) (meth : Method) (c : Code) (D : va_G) (cA : Nat → ClassId) (ad : Nat → Nat) (σ0 : Nat → Nat → Int32) (τ0 : Nat → Nat → Int64) (a1 : Int32) (n : Nat) : Prop := ∀ (σ : Nat → Nat → Int32) (τ : Nat → Nat → Int64) (H : Heap) (locs : List Loc)  (ls : Array Slot), Rg σ → Fr L_X12_roll σ0 σ → FrL LL_X12_roll τ0 τ → va_P D vwCl (gw cA ad σ τ) H → va_S (AA ad) s.heap H locs → (0 ≤ a1.toInt ∧ a1.toInt ≤ 1) → (0 ≤ (σ 387 29).toInt ∧ (σ 387 29).toInt ≤ 8) → (0 ≤ (σ 387 3).toInt ∧ (σ 387 3).toInt ≤ 940) → (0 ≤ (σ 387 2).toInt ∧ (σ 387 2).toInt ≤ 0) → (0 ≤ (σ 387 34).toInt ∧ (σ 387 34).toInt ≤ 40) → (0 ≤ (σ 387 4).toInt ∧ (σ 387 4).toInt ≤ 940) → (MLt σ) → lv_has ls 7 [(0, .ref (ad 387)), (1, .int a1)] → 21175 * (940 - (σ 387 4).toInt) + 21174 < (n : Int) → W p l e ({ frames := 6, cells := 0, slots := 0, locals := 135 } : Room) s m args below meth c H locs 0 0 (MQ below (va_Qi (fun (r : Int32) (u : SS) => P_X12_roll σ0 τ0 a1 r u.1 u.2) (WB D cA ad) (AA ad)) args s 0 0 (AA ad)) (F0 m 39 ls [])
def J_X12_roll_89 (p : Program) (l : Launch) (e : Env) (s : State) (m : MethodId) (args : Array Value) (below : List Frame) (meth : Method) (c : Code) (D : va_G) (cA : Nat → ClassId) (ad : Nat → Nat) (σ0 : Nat → Nat → Int32) (τ0 : Nat → Nat → Int64) (a1 : Int32) (n : Nat) : Prop := ∀ (σ : Nat → Nat → Int32) (τ : Nat → Nat → Int64) (H : Heap) (locs : List Loc) (x2 : Int32) (ls : Array Slot), Rg σ → Fr L_X12_roll σ0 σ → FrL LL_X12_roll τ0 τ → va_P D vwCl (gw cA ad σ τ) H → va_S (AA ad) s.heap H locs → (0 ≤ a1.toInt ∧ a1.toInt ≤ 1) → (0 ≤ x2.toInt ∧ x2.toInt ≤ 4) → (0 ≤ (σ 387 29).toInt ∧ (σ 387 29).toInt ≤ 8) → (0 ≤ (σ 387 3).toInt ∧ (σ 387 3).toInt ≤ 940) → (0 ≤ (σ 387 2).toInt ∧ (σ 387 2).toInt ≤ 0) → (0 ≤ (σ 387 34).toInt ∧ (σ 387 34).toInt ≤ 40) → (0 ≤ (σ 387 4).toInt ∧ (σ 387 4).toInt ≤ 940) → (0 ≤ (σ 387 11).toInt ∧ (σ 387 11).toInt ≤ 0) → (MLt σ) → lv_has ls 7 [(0, .ref (ad 387)), (1, .int a1), (2, .int x2)] → 3529 * (4 - x2.toInt) + 3528 < (n : Int) → W p l e ({ frames := 6, cells := 0, slots := 0, locals := 135 } : Room) s m args below meth c H locs 0 0 (MQ below (va_Qi (fun (r : Int32) (u : SS) => P_X12_roll σ0 τ0 a1 r u.1 u.2) (WB D cA ad) (AA ad)) args s 0 0 (AA ad)) (F0 m 89 ls [])
def J_X12_roll_120 (p : Program) (l : Launch) (e : Env) (s : State) (m : MethodId) (args : Array Value) (below : List Frame) (meth : Method) (c : Code) (D : va_G) (cA : Nat → ClassId) (ad : Nat → Nat) (σ0 : Nat → Nat → Int32) (τ0 : Nat → Nat → Int64) (a1 : Int32) (n : Nat) : Prop := ∀ (σ : Nat → Nat → Int32) (τ : Nat → Nat → Int64) (H : Heap) (locs : List Loc) (x2 : Int32) (x3 : Int32) (x4 : Int32) (ls : Array Slot), Rg σ → Fr L_X12_roll σ0 σ → FrL LL_X12_roll τ0 τ → va_P D vwCl (gw cA ad σ τ) H → va_S (AA ad) s.heap H locs → (0 ≤ a1.toInt ∧ a1.toInt ≤ 1) → (-1 ≤ x3.toInt ∧ x3.toInt ≤ 39) → (0 ≤ x4.toInt ∧ x4.toInt ≤ 40) → (0 ≤ (σ 387 29).toInt ∧ (σ 387 29).toInt ≤ 8) → (0 ≤ (σ 387 3).toInt ∧ (σ 387 3).toInt ≤ 940) → (0 ≤ (σ 387 2).toInt ∧ (σ 387 2).toInt ≤ 0) → (0 ≤ (σ 387 34).toInt ∧ (σ 387 34).toInt ≤ 40) → (0 ≤ (σ 387 4).toInt ∧ (σ 387 4).toInt ≤ 940) → (0 ≤ (σ 387 11).toInt ∧ (σ 387 11).toInt ≤ 0) → (MLt σ) → lv_has ls 7 [(0, .ref (ad 387)), (1, .int a1), (2, .int x2), (3, .int x3), (4, .int x4)] → 84 * (40 - x4.toInt) + 83 < (n : Int) → W p l e ({ frames := 6, cells := 0, slots := 0, locals := 135 } : Room) s m args below meth c H locs 0 0 (MQ below (va_Qi (fun (r : Int32) (u : SS) => P_X12_roll σ0 τ0 a1 r u.1 u.2) (WB D cA ad) (AA ad)) args s 0 0 (AA ad)) (F0 m 120 ls [])
def J_X12_roll_245 (p : Program) (l : Launch) (e : Env) (s : State) (m : MethodId) (args : Array Value) (below : List Frame) (meth : Method) (c : Code) (D : va_G) (cA : Nat → ClassId) (ad : Nat → Nat) (σ0 : Nat → Nat → Int32) (τ0 : Nat → Nat → Int64) (a1 : Int32) (n : Nat) : Prop := ∀ (σ : Nat → Nat → Int32) (τ : Nat → Nat → Int64) (H : Heap) (locs : List Loc) (x2 : Int32) (x3 : Int32) (x4 : Int32) (ls : Array Slot), Rg σ → Fr L_X12_roll σ0 σ → FrL LL_X12_roll τ0 τ → va_P D vwCl (gw cA ad σ τ) H → va_S (AA ad) s.heap H locs → (0 ≤ a1.toInt ∧ a1.toInt ≤ 1) → (-1 ≤ x3.toInt ∧ x3.toInt ≤ 39) → (0 ≤ x4.toInt ∧ x4.toInt ≤ 40) → (0 ≤ (σ 387 29).toInt ∧ (σ 387 29).toInt ≤ 8) → (0 ≤ (σ 387 3).toInt ∧ (σ 387 3).toInt ≤ 940) → (0 ≤ (σ 387 2).toInt ∧ (σ 387 2).toInt ≤ 0) → (0 ≤ (σ 387 34).toInt ∧ (σ 387 34).toInt ≤ 40) → (0 ≤ (σ 387 4).toInt ∧ (σ 387 4).toInt ≤ 940) → (0 ≤ (σ 387 11).toInt ∧ (σ 387 11).toInt ≤ 0) → lv_has ls 7 [(0, .ref (ad 387)), (1, .int a1), (2, .int x2), (3, .int x3), (4, .int x4)] → 82 < (n : Int) → W p l e ({ frames := 6, cells := 0, slots := 0, locals := 135 } : Room) s m args below meth c H locs 0 0 (MQ below (va_Qi (fun (r : Int32) (u : SS) => P_X12_roll σ0 τ0 a1 r u.1 u.2) (WB D cA ad) (AA ad)) args s 0 0 (AA ad)) (F0 m 245 ls [])
def J_X12_roll_300 (p : Program) (l : Launch) (e : Env) (s : State) (m : MethodId) (args : Array Value) (below : List Frame) (meth : Method) (c : Code) (D : va_G) (cA : Nat → ClassId) (ad : Nat → Nat) (σ0 : Nat → Nat → Int32) (τ0 : Nat → Nat → Int64) (a1 : Int32) (n : Nat) : Prop := ∀ (σ : Nat → Nat → Int32) (τ : Nat → Nat → Int64) (H : Heap) (locs : List Loc) (x2 : Int32) (x3 : Int32) (x4 : Int32) (ls : Array Slot), Rg σ → Fr L_X12_roll σ0 σ → FrL LL_X12_roll τ0 τ → va_P D vwCl (gw cA ad σ τ) H → va_S (AA ad) s.heap H locs → (1 ≤ a1.toInt ∧ a1.toInt ≤ 1) → (-1 ≤ x3.toInt ∧ x3.toInt ≤ 39) → (0 ≤ x4.toInt ∧ x4.toInt ≤ 39) → (0 ≤ (σ 387 3).toInt ∧ (σ 387 3).toInt ≤ 940) → (0 ≤ (σ 387 2).toInt ∧ (σ 387 2).toInt ≤ 0) → (0 ≤ (σ 387 34).toInt ∧ (σ 387 34).toInt ≤ 40) → (0 ≤ (σ 387 4).toInt ∧ (σ 387 4).toInt ≤ 940) → (0 ≤ (σ 387 11).toInt ∧ (σ 387 11).toInt ≤ 0) → (1 ≤ (σ 400 1).toInt) → (1 ≤ (σ 387 29).toInt ∧ (σ 387 29).toInt ≤ 8) → (1 ≤ (σ 387 29).toInt) → lv_has ls 7 [(0, .ref (ad 387)), (1, .int a1), (2, .int x2), (3, .int x3), (4, .int x4)] → 2 * (39 - x4.toInt) + 1 < (n : Int) → W p l e ({ frames := 6, cells := 0, slots := 0, locals := 135 } : Room) s m args below meth c H locs 0 0 (MQ below (va_Qi (fun (r : Int32) (u : SS) => P_X12_roll σ0 τ0 a1 r u.1 u.2) (WB D cA ad) (AA ad)) args s 0 0 (AA ad)) (F0 m 300 ls [])
set_option maxHeartbeats 4000000 in
theorem B_X12_roll_39 (p : Program) (l : Launch) (e : Env) (s : State) (m : MethodId) (args : Array Value) (below : List Frame) (meth : Method) (c : Code) (D : va_G) (cA : Nat → ClassId) (ad : Nat → Nat) (σ0 : Nat → Nat → Int32) (τ0 : Nat → Nat → Int64) (a1 : Int32) (n : Nat) (C : Cy p s m args meth c cX12_roll 7 wsX12_roll RX12 D cA ad (some .int))  (K39 : J_X12_roll_39 p l e s m args below meth c D cA ad σ0 τ0 a1 n) (K89 : J_X12_roll_89 p l e s m args below meth c D cA ad σ0 τ0 a1 n) (K120 : J_X12_roll_120 p l e s m args below meth c D cA ad σ0 τ0 a1 n) (K245 : J_X12_roll_245 p l e s m args below meth c D cA ad σ0 τ0 a1 n) (K300 : J_X12_roll_300 p l e s m args below meth c D cA ad σ0 τ0 a1 n) : J_X12_roll_39 p l e s m args below meth c D cA ad σ0 τ0 a1 (n + 1) := by
  obtain ⟨hx, hb, hml, hown, hts, hK, hk, hr, hI, hN⟩ := C
  intro σ τ H locs ls hR hF hFL hP hS hc0 hc1 hc2 hc3 hc4 hc5 gMLt hl hm
  refine lv_aload_n hx hb dX12_roll_39 rfl (lv_at hl 0 rfl) ?_
  refine fg_12_11 (k := 387) hx hb hts in_X12_roll_12 hown hK hP (by decide) (by decide) (hts _ lk_X12_roll_159) dX12_roll_40 ?_
  refine r_if_eq (tgt := 83) hx hb dX12_roll_43 (by decide) (fun c1 => ?_) (fun c1 => ?_)
  · refine lv_aload_n hx hb dX12_roll_83 rfl (lv_at hl 0 rfl) ?_
    refine r_cVv (k := 387) (As := []) (rest := []) ⟨hx, hb, hml, hown, hts⟩ hK hP hN hS (c_X12_tries l D cA ad hI σ τ hR) (cwV 0 hts gX12_roll_X12_tries rfl rfl rfl (by decide +kernel) ⟨by decide, by decide⟩) (rv_M hK hP (by decide) (by decide)) rfl hl.1 rfl (Nat.le_of_ble_eq_true rfl) dX12_roll_84 (Nat.zero_le _) (Nat.zero_le _) (fun u2 H2 locs2 hp2 hP hS => ?_)
    obtain ⟨σ2, τ2⟩ := u2
    obtain ⟨hR, f2, fL2⟩ : P_X12_tries σ τ σ2 τ2 := hp2
    have hP : va_P D vwCl (gw cA ad σ2 τ2) H2 := hP
    obtain rfl := FrL.nil fL2
    have hF := hF.step f2 (by decide)
    have gMLt := MLt.fr gMLt hR f2 (by decide)
    have t3 : (σ2 387 29).toInt = (σ 387 29).toInt := congrArg Int32.toInt (f2.at 387 29 (by decide))
    have t4 : (σ2 387 3).toInt = (σ 387 3).toInt := congrArg Int32.toInt (f2.at 387 3 (by decide))
    have t5 : (σ2 387 2).toInt = (σ 387 2).toInt := congrArg Int32.toInt (f2.at 387 2 (by decide))
    have t6 : (σ2 387 34).toInt = (σ 387 34).toInt := congrArg Int32.toInt (f2.at 387 34 (by decide))
    have t7 : (σ2 387 4).toInt = (σ 387 4).toInt := congrArg Int32.toInt (f2.at 387 4 (by decide))
    have t8 : (σ2 387 11).toInt = (σ 387 11).toInt := congrArg Int32.toInt (f2.at 387 11 (by decide))
    refine r_iconst hx hb dX12_roll_87 (by decide) (fun z9 ez9 => ?_)
    refine lv_istore_n (lv' := [(2, .int z9), (0, .ref (ad 387)), (1, .int a1)]) hx hb dX12_roll_88 rfl hl (by decide) rfl (fun ls hl => ?_)
    exact K89 σ2 τ H2 locs2 z9 ls hR hF hFL hP hS (by omega) (by omega) (by omega) (by omega) (by omega) (by omega) (by omega) (by omega) gMLt (lv_sub hl [1, 2, 0] rfl) (by omega)
  · refine lv_aload_n hx hb dX12_roll_46 rfl (lv_at hl 0 rfl) ?_
    refine r_cVi (k := 387) (As := []) (rest := []) ⟨hx, hb, hml, hown, hts⟩ hK hP hN hS (c_X12_rollLine l D cA ad hI σ τ hR) (cwV 0 hts gX12_roll_X12_rollLine rfl rfl rfl (by decide +kernel) ⟨by decide, by decide⟩) (rv_M hK hP (by decide) (by decide)) rfl hl.1 rfl (Nat.le_of_ble_eq_true rfl) dX12_roll_47 (Nat.zero_le _) (Nat.zero_le _) (fun r10 u10 H10 locs10 hp10 hP hS => ?_)
    obtain ⟨σ10, τ10⟩ := u10
    obtain ⟨hR, f10, fL10, hq10, hp10_0, hp10_1, hp10_2⟩ : P_X12_rollLine σ τ r10 σ10 τ10 := hp10
    have rl := hp10_2
    have hP : va_P D vwCl (gw cA ad σ10 τ10) H10 := hP
    have hFL := hFL.step fL10 (by decide)
    have hF := hF.step f10 (by decide)
    have t11 : (σ10 387 29).toInt = (σ 387 29).toInt := congrArg Int32.toInt (f10.at 387 29 (by decide))
    have t12 : (σ10 387 3).toInt = (σ 387 3).toInt := congrArg Int32.toInt (f10.at 387 3 (by decide))
    have t13 : (σ10 387 2).toInt = (σ 387 2).toInt := congrArg Int32.toInt (f10.at 387 2 (by decide))
    have t14 : (σ10 387 34).toInt = (σ 387 34).toInt := congrArg Int32.toInt (f10.at 387 34 (by decide))
    have hr15 := rg_12_4 hR (k := 387) (by decide) (by decide)
    refine r_if_eq (tgt := 62) hx hb dX12_roll_50 (by decide) (fun c16 => ?_) (fun c16 => ?_)
    · clear hp10_1 hp10_2
      refine r_bipush hx hb dX12_roll_62 (by decide) (fun z17 ez17 => ?_)
      refine lv_aload_n hx hb dX12_roll_64 rfl (lv_at hl 0 rfl) ?_
      refine fg_12_16 (k := 387) hx hb hts in_X12_roll_12 hown hK hP (by decide) (by decide) (hts _ lk_X12_roll_179) dX12_roll_65 ?_
      refine r_isubU hx hb dX12_roll_68 (fun z18 => ?_)
      exact r_iret hx hb hr hK hP hS hk dX12_roll_69 (show P_X12_roll σ0 τ0 a1 z18 σ10 τ10 from ⟨hR, hF, hFL, by omega⟩)
    · replace hp10_1 := hp10_1.resolve_left (by omega)
      replace hp10_2 := hp10_2.resolve_left (by omega)
      refine lv_aload_n hx hb dX12_roll_53 rfl (lv_at hl 0 rfl) ?_
      refine r_bipush hx hb dX12_roll_54 (by decide) (fun z19 ez19 => ?_)
      refine r_cVi (k := 387) (As := [.int z19]) (rest := []) ⟨hx, hb, hml, hown, hts⟩ hK hP hN hS (c_X12_sign l D cA ad hI σ10 τ10 hR z19 (by omega)) (cwV 1 hts gX12_roll_X12_sign rfl rfl rfl (by decide +kernel) ⟨by decide, by decide⟩) (rv_M hK hP (by decide) (by decide)) rfl hl.1 rfl (Nat.le_of_ble_eq_true rfl) dX12_roll_56 (Nat.zero_le _) (Nat.zero_le _) (fun r20 u20 H20 locs20 hp20 hP hS => ?_)
      obtain ⟨σ20, τ20⟩ := u20
      obtain ⟨hR, f20, fL20, hq20, hp20_0, hp20_1⟩ : P_X12_sign σ10 τ10 z19 r20 σ20 τ20 := hp20
      have fs := f20
      have hP : va_P D vwCl (gw cA ad σ20 τ20) H20 := hP
      have hFL := hFL.step fL20 (by decide)
      have hF := hF.step f20 (by decide)
      have t21 : (σ20 387 29).toInt = (σ10 387 29).toInt := congrArg Int32.toInt (f20.at 387 29 (by decide))
      have t22 : (σ20 387 3).toInt = (σ10 387 3).toInt := congrArg Int32.toInt (f20.at 387 3 (by decide))
      have t23 : (σ20 387 2).toInt = (σ10 387 2).toInt := congrArg Int32.toInt (f20.at 387 2 (by decide))
      have t24 : (σ20 387 34).toInt = (σ10 387 34).toInt := congrArg Int32.toInt (f20.at 387 34 (by decide))
      have hr25 := rg_12_4 hR (k := 387) (by decide) (by decide)
      refine r_if_ne (tgt := 70) hx hb dX12_roll_59 (by decide) (fun c26 => ?_) (fun c26 => ?_)
      · replace hp20_1 := hp20_1.resolve_left (by omega)
        refine lv_aload_n hx hb dX12_roll_70 rfl (lv_at hl 0 rfl) ?_
        refine lv_dup hx hb dX12_roll_71 rfl ?_
        refine fg_12_34 (k := 387) hx hb hts in_X12_roll_12 hown hK hP (by decide) (by decide) (hts _ lk_X12_roll_416) dX12_roll_72 ?_
        refine r_iconst hx hb dX12_roll_75 (by decide) (fun z27 ez27 => ?_)
        refine r_iadd hx hb dX12_roll_76 (by omega) (fun z28 ez28 => ?_)
        refine fp_12_34 (k := 387) hx hb hts in_X12_roll_12 hown hK hP (by decide) (by decide) (hts _ lk_X12_roll_416) hI hR hS (by omega) dX12_roll_77 (fun σ29 H29 locs29 u29 v29 hR hP hS => ?_)
        have un := u29
        have vn := v29
        have hF := hF.puts u29 2 rfl (by decide) (by decide) (by decide) (by decide)
        have t30 : (σ29 387 29).toInt = (σ20 387 29).toInt := congrArg Int32.toInt (u29 387 29 (by omega))
        have t31 : (σ29 387 3).toInt = (σ20 387 3).toInt := congrArg Int32.toInt (u29 387 3 (by omega))
        have t32 : (σ29 387 2).toInt = (σ20 387 2).toInt := congrArg Int32.toInt (u29 387 2 (by omega))
        have t33 : (σ29 387 4).toInt = (σ20 387 4).toInt := congrArg Int32.toInt (u29 387 4 (by omega))
        have t34 : (σ29 387 11).toInt = (σ20 387 11).toInt := congrArg Int32.toInt (u29 387 11 (by omega))
        have gMLt := MLt.step gMLt (by omega) (by omega) (rl.resolve_left (by omega)).2 fs (by decide) un (by omega)
        refine lv_goto (tgt := 39) hx hb dX12_roll_80 (by decide) ?_
        exact K39 σ29 τ20 H29 locs29  ls hR hF hFL hP hS (by omega) (by omega) (by omega) (by omega) (by omega) (by omega) gMLt (lv_sub hl [0, 1] rfl) (by omega)
      · clear hp20_1
        refine r_bipush hx hb dX12_roll_62 (by decide) (fun z35 ez35 => ?_)
        refine lv_aload_n hx hb dX12_roll_64 rfl (lv_at hl 0 rfl) ?_
        refine fg_12_16 (k := 387) hx hb hts in_X12_roll_12 hown hK hP (by decide) (by decide) (hts _ lk_X12_roll_179) dX12_roll_65 ?_
        refine r_isubU hx hb dX12_roll_68 (fun z36 => ?_)
        exact r_iret hx hb hr hK hP hS hk dX12_roll_69 (show P_X12_roll σ0 τ0 a1 z36 σ20 τ20 from ⟨hR, hF, hFL, by omega⟩)
set_option maxHeartbeats 4000000 in
theorem B_X12_roll_89 (p : Program) (l : Launch) (e : Env) (s : State) (m : MethodId) (args : Array Value) (below : List Frame) (meth : Method) (c : Code) (D : va_G) (cA : Nat → ClassId) (ad : Nat → Nat) (σ0 : Nat → Nat → Int32) (τ0 : Nat → Nat → Int64) (a1 : Int32) (n : Nat) (C : Cy p s m args meth c cX12_roll 7 wsX12_roll RX12 D cA ad (some .int))  (K39 : J_X12_roll_39 p l e s m args below meth c D cA ad σ0 τ0 a1 n) (K89 : J_X12_roll_89 p l e s m args below meth c D cA ad σ0 τ0 a1 n) (K120 : J_X12_roll_120 p l e s m args below meth c D cA ad σ0 τ0 a1 n) (K245 : J_X12_roll_245 p l e s m args below meth c D cA ad σ0 τ0 a1 n) (K300 : J_X12_roll_300 p l e s m args below meth c D cA ad σ0 τ0 a1 n) : J_X12_roll_89 p l e s m args below meth c D cA ad σ0 τ0 a1 (n + 1) := by
  obtain ⟨hx, hb, hml, hown, hts, hK, hk, hr, hI, hN⟩ := C
  intro σ τ H locs x2 ls hR hF hFL hP hS hc0 hc1 hc2 hc3 hc4 hc5 hc6 hc7 gMLt hl hm
  refine lv_iload_n hx hb dX12_roll_89 rfl (lv_at hl 2 rfl) ?_
  refine r_iconst hx hb dX12_roll_90 (by decide) (fun z1 ez1 => ?_)
  refine r_icmp_ge (tgt := 107) hx hb dX12_roll_91 (by decide) (fun c2 => ?_) (fun c2 => ?_)
  · refine lv_aload_n hx hb dX12_roll_107 rfl (lv_at hl 0 rfl) ?_
    refine r_sipush hx hb dX12_roll_108 (by decide) (fun z3 ez3 => ?_)
    refine r_cVi (k := 387) (As := [.int z3]) (rest := []) ⟨hx, hb, hml, hown, hts⟩ hK hP hN hS (c_X12_sum l D cA ad hI σ τ hR z3 (by omega)) (cwV 1 hts gX12_roll_X12_sum rfl rfl rfl (by decide +kernel) ⟨by decide, by decide⟩) (rv_M hK hP (by decide) (by decide)) rfl hl.1 rfl (Nat.le_of_ble_eq_true rfl) dX12_roll_111 (Nat.zero_le _) (Nat.zero_le _) (fun r4 u4 H4 locs4 hp4 hP hS => ?_)
    obtain ⟨σ4, τ4⟩ := u4
    obtain ⟨hR, f4, fL4⟩ : P_X12_sum σ τ z3 r4 σ4 τ4 := hp4
    have hP : va_P D vwCl (gw cA ad σ4 τ4) H4 := hP
    obtain rfl := FrL.nil fL4
    obtain rfl := Fr.nil f4
    refine lv_istore_n (lv' := [(2, .int r4), (0, .ref (ad 387)), (1, .int a1)]) hx hb dX12_roll_114 rfl hl (by decide) rfl (fun ls hl => ?_)
    refine r_iconst hx hb dX12_roll_115 (by decide) (fun z5 ez5 => ?_)
    refine lv_istore_n (lv' := [(3, .int z5), (2, .int r4), (0, .ref (ad 387)), (1, .int a1)]) hx hb dX12_roll_116 rfl hl (by decide) rfl (fun ls hl => ?_)
    refine r_iconst hx hb dX12_roll_117 (by decide) (fun z6 ez6 => ?_)
    refine lv_istore (lv' := [(4, .int z6), (3, .int z5), (2, .int r4), (0, .ref (ad 387)), (1, .int a1)]) hx hb dX12_roll_118 hl (by decide) rfl (fun ls hl => ?_)
    exact K120 σ τ H4 locs4 r4 z5 z6 ls hR hF hFL hP hS (by omega) (by omega) (by omega) (by omega) (by omega) (by omega) (by omega) (by omega) (by omega) gMLt (lv_sub hl [3, 4, 2, 1, 0] rfl) (by omega)
  · refine lv_aload_n hx hb dX12_roll_94 rfl (lv_at hl 0 rfl) ?_
    refine fg_12_35 (k := 387) hx hb hts in_X12_roll_12 hown hK hP (by decide) (by decide) (hts _ lk_X12_roll_68) dX12_roll_95 ?_
    refine lv_iload_n hx hb dX12_roll_98 rfl (lv_at hl 2 rfl) ?_
    refine r_iconst hx hb dX12_roll_99 (by decide) (fun z7 ez7 => ?_)
    obtain ⟨j8, ej8⟩ : ∃ j : Nat, x2.toInt = (j : Int) := ⟨_, ti_nat (by omega)⟩
    refine as_mrolled (k := 400) (j := j8) hx hb hK hP hI hR hS (by decide) (by decide) ej8 (by omega) dX12_roll_100 (fun σ9 H9 locs9 u9 v9 hR hP hS => ?_)
    have hF := hF.puts u9 4 rfl (by decide) (by decide) (by omega) (by omega)
    have gMLt := MLt.putV gMLt hR u9 (by intro q hq; simp only [Gd_MLt, List.mem_cons, List.not_mem_nil, or_false] at hq; rcases hq with rfl | rfl <;> dsimp only [inRc] <;> omega)
    have t10 : (σ9 387 29).toInt = (σ 387 29).toInt := congrArg Int32.toInt (u9 387 29 (by omega))
    have t11 : (σ9 387 3).toInt = (σ 387 3).toInt := congrArg Int32.toInt (u9 387 3 (by omega))
    have t12 : (σ9 387 2).toInt = (σ 387 2).toInt := congrArg Int32.toInt (u9 387 2 (by omega))
    have t13 : (σ9 387 34).toInt = (σ 387 34).toInt := congrArg Int32.toInt (u9 387 34 (by omega))
    have t14 : (σ9 387 4).toInt = (σ 387 4).toInt := congrArg Int32.toInt (u9 387 4 (by omega))
    have t15 : (σ9 387 11).toInt = (σ 387 11).toInt := congrArg Int32.toInt (u9 387 11 (by omega))
    refine r_iinc (k := 2) (lv1 := fun z16 => [(2, .int z16), (0, .ref (ad 387)), (1, .int a1)]) hx hb dX12_roll_101 hl rfl (by decide) (fun _ => rfl) (by decide) (by omega) (fun z16 ls ez16 hl => ?_)
    refine lv_goto (tgt := 89) hx hb dX12_roll_104 (by decide) ?_
    exact K89 σ9 τ H9 locs9 z16 ls hR hF hFL hP hS (by omega) (by omega) (by omega) (by omega) (by omega) (by omega) (by omega) (by omega) gMLt (lv_sub hl [1, 2, 0] rfl) (by omega)
set_option maxHeartbeats 4000000 in
theorem B_X12_roll_120 (p : Program) (l : Launch) (e : Env) (s : State) (m : MethodId) (args : Array Value) (below : List Frame) (meth : Method) (c : Code) (D : va_G) (cA : Nat → ClassId) (ad : Nat → Nat) (σ0 : Nat → Nat → Int32) (τ0 : Nat → Nat → Int64) (a1 : Int32) (n : Nat) (C : Cy p s m args meth c cX12_roll 7 wsX12_roll RX12 D cA ad (some .int))  (K39 : J_X12_roll_39 p l e s m args below meth c D cA ad σ0 τ0 a1 n) (K89 : J_X12_roll_89 p l e s m args below meth c D cA ad σ0 τ0 a1 n) (K120 : J_X12_roll_120 p l e s m args below meth c D cA ad σ0 τ0 a1 n) (K245 : J_X12_roll_245 p l e s m args below meth c D cA ad σ0 τ0 a1 n) (K300 : J_X12_roll_300 p l e s m args below meth c D cA ad σ0 τ0 a1 n) : J_X12_roll_120 p l e s m args below meth c D cA ad σ0 τ0 a1 (n + 1) := by
  obtain ⟨hx, hb, hml, hown, hts, hK, hk, hr, hI, hN⟩ := C
  intro σ τ H locs x2 x3 x4 ls hR hF hFL hP hS hc0 hc1 hc2 hc3 hc4 hc5 hc6 hc7 hc8 gMLt hl hm
  refine lv_iload hx hb dX12_roll_120 (lv_at hl 4 rfl) ?_
  refine lv_aload_n hx hb dX12_roll_122 rfl (lv_at hl 0 rfl) ?_
  refine fg_12_34 (k := 387) hx hb hts in_X12_roll_12 hown hK hP (by decide) (by decide) (hts _ lk_X12_roll_416) dX12_roll_123 ?_
  refine r_icmp_ge (tgt := 245) hx hb dX12_roll_126 (by decide) (fun c1 => ?_) (fun c1 => ?_)
  · exact K245 σ τ H locs x2 x3 x4 ls hR hF hFL hP hS (by omega) (by omega) (by omega) (by omega) (by omega) (by omega) (by omega) (by omega) (by omega) (lv_sub hl [0, 1, 2, 3, 4] rfl) (by omega)
  · refine lv_iload_n hx hb dX12_roll_129 rfl (lv_at hl 3 rfl) ?_
    refine r_if_ge (tgt := 245) hx hb dX12_roll_130 (by decide) (fun c2 => ?_) (fun c2 => ?_)
    · exact K245 σ τ H locs x2 x3 x4 ls hR hF hFL hP hS (by omega) (by omega) (by omega) (by omega) (by omega) (by omega) (by omega) (by omega) (by omega) (lv_sub hl [0, 1, 2, 3, 4] rfl) (by omega)
    · refine r_iconst hx hb dX12_roll_133 (by decide) (fun z3 ez3 => ?_)
      refine lv_iload hx hb dX12_roll_134 (lv_at hl 4 rfl) ?_
      refine r_imulL (n := 3) hx hb dX12_roll_136 (by omega) (by omega) (fun z4 ez4 => ?_)
      refine lv_istore (lv' := [(5, .int z4), (0, .ref (ad 387)), (1, .int a1), (2, .int x2), (3, .int x3), (4, .int x4)]) hx hb dX12_roll_137 hl (by decide) rfl (fun ls hl => ?_)
      refine lv_aload_n hx hb dX12_roll_139 rfl (lv_at hl 1 rfl) ?_
      refine lv_aload_n hx hb dX12_roll_140 rfl (lv_at hl 1 rfl) ?_
      refine fg_12_8 (k := 387) hx hb hts in_X12_roll_12 hown hK hP (by decide) (by decide) (hts _ lk_X12_roll_40) dX12_roll_141 ?_
      refine lv_iload hx hb dX12_roll_144 (lv_at hl 0 rfl) ?_
      obtain ⟨j5, ej5⟩ : ∃ j : Nat, z4.toInt = (j : Int) := ⟨_, ti_nat (by omega)⟩
      refine ad_mread (k := 391) (j := j5) hx hb hK hP (by decide) (by decide) ej5 (by omega) dX12_roll_146 ?_
      refine lv_aload_n hx hb dX12_roll_147 rfl (lv_at hl 1 rfl) ?_
      refine fg_12_8 (k := 387) hx hb hts in_X12_roll_12 hown hK hP (by decide) (by decide) (hts _ lk_X12_roll_40) dX12_roll_148 ?_
      refine lv_iload hx hb dX12_roll_151 (lv_at hl 0 rfl) ?_
      refine r_iconst hx hb dX12_roll_153 (by decide) (fun z6 ez6 => ?_)
      refine r_iadd hx hb dX12_roll_154 (by omega) (fun z7 ez7 => ?_)
      obtain ⟨j8, ej8⟩ : ∃ j : Nat, z7.toInt = (j : Int) := ⟨_, ti_nat (by omega)⟩
      refine ad_mread (k := 391) (j := j8) hx hb hK hP (by decide) (by decide) ej8 (by omega) dX12_roll_155 ?_
      refine lv_aload_n hx hb dX12_roll_156 rfl (lv_at hl 1 rfl) ?_
      refine fg_12_8 (k := 387) hx hb hts in_X12_roll_12 hown hK hP (by decide) (by decide) (hts _ lk_X12_roll_40) dX12_roll_157 ?_
      refine lv_iload hx hb dX12_roll_160 (lv_at hl 0 rfl) ?_
      refine r_iconst hx hb dX12_roll_162 (by decide) (fun z9 ez9 => ?_)
      refine r_iadd hx hb dX12_roll_163 (by omega) (fun z10 ez10 => ?_)
      obtain ⟨j11, ej11⟩ : ∃ j : Nat, z10.toInt = (j : Int) := ⟨_, ti_nat (by omega)⟩
      refine ad_mread (k := 391) (j := j11) hx hb hK hP (by decide) (by decide) ej11 (by omega) dX12_roll_164 ?_
      have hz := MLt.at gMLt (x := x4) (j1 := j5) (j2 := j8) (j3 := j11) (by omega) (by omega) (by omega) (by omega) (by omega)
      refine r_cVi (k := 387) (As := [.int (σ 391 j5), .int (σ 391 j8), .int (σ 391 j11)]) (rest := []) ⟨hx, hb, hml, hown, hts⟩ hK hP hN hS (c_X12_whyLine l D cA ad hI σ τ hR (σ 391 j5) (σ 391 j8) (σ 391 j11) (by omega) (by omega) (by omega)) (cwV 3 hts gX12_roll_X12_whyLine rfl rfl rfl (by decide +kernel) ⟨by decide, by decide⟩) (rv_M hK hP (by decide) (by decide)) rfl hl.1 rfl (Nat.le_of_ble_eq_true rfl) dX12_roll_165 (Nat.zero_le _) (Nat.zero_le _) (fun r12 u12 H12 locs12 hp12 hP hS => ?_)
      obtain ⟨σ12, τ12⟩ := u12
      obtain ⟨hR, f12, fL12, hq12, hp12_0⟩ : P_X12_whyLine σ τ (σ 391 j5) (σ 391 j8) (σ 391 j11) r12 σ12 τ12 := hp12
      have hP : va_P D vwCl (gw cA ad σ12 τ12) H12 := hP
      obtain rfl := FrL.nil fL12
      have hF := hF.step f12 (by decide)
      have gMLt := MLt.fr gMLt hR f12 (by decide)
      have t13 : (σ12 387 29).toInt = (σ 387 29).toInt := congrArg Int32.toInt (f12.at 387 29 (by decide))
      have t14 : (σ12 387 3).toInt = (σ 387 3).toInt := congrArg Int32.toInt (f12.at 387 3 (by decide))
      have t15 : (σ12 387 2).toInt = (σ 387 2).toInt := congrArg Int32.toInt (f12.at 387 2 (by decide))
      have t16 : (σ12 387 34).toInt = (σ 387 34).toInt := congrArg Int32.toInt (f12.at 387 34 (by decide))
      have t17 : (σ12 387 4).toInt = (σ 387 4).toInt := congrArg Int32.toInt (f12.at 387 4 (by decide))
      have t18 : (σ12 387 11).toInt = (σ 387 11).toInt := congrArg Int32.toInt (f12.at 387 11 (by decide))
      have t19 : (σ12 391 j5).toInt = (σ 391 j5).toInt := congrArg Int32.toInt (f12.atV 391 j5 (by intro q hq; simp only [L_X12_whyLine, List.mem_cons, List.not_mem_nil, or_false] at hq; rcases hq with rfl | rfl | rfl <;> dsimp only <;> omega))
      have t20 : (σ12 391 j8).toInt = (σ 391 j8).toInt := congrArg Int32.toInt (f12.atV 391 j8 (by intro q hq; simp only [L_X12_whyLine, List.mem_cons, List.not_mem_nil, or_false] at hq; rcases hq with rfl | rfl | rfl <;> dsimp only <;> omega))
      have t21 : (σ12 391 j11).toInt = (σ 391 j11).toInt := congrArg Int32.toInt (f12.atV 391 j11 (by intro q hq; simp only [L_X12_whyLine, List.mem_cons, List.not_mem_nil, or_false] at hq; rcases hq with rfl | rfl | rfl <;> dsimp only <;> omega))
      refine lv_istore (lv' := [(6, .int r12), (5, .int z4), (0, .ref (ad 387)), (1, .int a1), (2, .int x2), (3, .int x3), (4, .int x4)]) hx hb dX12_roll_168 hl (by decide) rfl (fun ls hl => ?_)
      refine lv_iload hx hb dX12_roll_170 (lv_at hl 0 rfl) ?_
      refine r_if_le (tgt := 200) hx hb dX12_roll_172 (by decide) (fun c22 => ?_) (fun c22 => ?_)
      · refine lv_aload_n hx hb dX12_roll_200 rfl (lv_at hl 2 rfl) ?_
        refine lv_aload_n hx hb dX12_roll_201 rfl (lv_at hl 2 rfl) ?_
        refine fg_12_8 (k := 387) hx hb hts in_X12_roll_12 hown hK hP (by decide) (by decide) (hts _ lk_X12_roll_40) dX12_roll_202 ?_
        refine lv_iload hx hb dX12_roll_205 (lv_at hl 1 rfl) ?_
        refine ad_mread (k := 391) (j := j5) hx hb hK hP (by decide) (by decide) ej5 (by omega) dX12_roll_207 ?_
        refine lv_aload_n hx hb dX12_roll_208 rfl (lv_at hl 2 rfl) ?_
        refine fg_12_8 (k := 387) hx hb hts in_X12_roll_12 hown hK hP (by decide) (by decide) (hts _ lk_X12_roll_40) dX12_roll_209 ?_
        refine lv_iload hx hb dX12_roll_212 (lv_at hl 1 rfl) ?_
        refine r_iconst hx hb dX12_roll_214 (by decide) (fun z23 ez23 => ?_)
        refine r_iadd hx hb dX12_roll_215 (by omega) (fun z24 ez24 => ?_)
        refine ad_mread (k := 391) (j := j8) hx hb hK hP (by decide) (by decide) (by omega) (by omega) dX12_roll_216 ?_
        refine lv_aload_n hx hb dX12_roll_217 rfl (lv_at hl 2 rfl) ?_
        refine fg_12_8 (k := 387) hx hb hts in_X12_roll_12 hown hK hP (by decide) (by decide) (hts _ lk_X12_roll_40) dX12_roll_218 ?_
        refine lv_iload hx hb dX12_roll_221 (lv_at hl 1 rfl) ?_
        refine r_iconst hx hb dX12_roll_223 (by decide) (fun z25 ez25 => ?_)
        refine r_iadd hx hb dX12_roll_224 (by omega) (fun z26 ez26 => ?_)
        refine ad_mread (k := 391) (j := j11) hx hb hK hP (by decide) (by decide) (by omega) (by omega) dX12_roll_225 ?_
        have hz := MLt.at gMLt (x := x4) (j1 := j5) (j2 := j8) (j3 := j11) (by omega) (by omega) (by omega) (by omega) (by omega)
        refine r_cVv (k := 387) (As := [.int (σ12 391 j5), .int (σ12 391 j8), .int (σ12 391 j11)]) (rest := []) ⟨hx, hb, hml, hown, hts⟩ hK hP hN hS (c_X12_livesLine l D cA ad hI σ12 τ hR (σ12 391 j5) (σ12 391 j8) (σ12 391 j11) (by omega) (by omega) (by omega) (by omega) (by omega)) (cwV 3 hts gX12_roll_X12_livesLine rfl rfl rfl (by decide +kernel) ⟨by decide, by decide⟩) (rv_M hK hP (by decide) (by decide)) rfl hl.1 rfl (Nat.le_of_ble_eq_true rfl) dX12_roll_226 (Nat.zero_le _) (Nat.zero_le _) (fun u27 H27 locs27 hp27 hP hS => ?_)
        obtain ⟨σ27, τ27⟩ := u27
        obtain ⟨hR, f27, fL27⟩ : P_X12_livesLine σ12 τ (σ12 391 j5) (σ12 391 j8) (σ12 391 j11) σ27 τ27 := hp27
        have hP : va_P D vwCl (gw cA ad σ27 τ27) H27 := hP
        obtain rfl := FrL.nil fL27
        have hF := hF.step f27 (by decide)
        have gMLt := MLt.fr gMLt hR f27 (by decide)
        have t28 : (σ27 387 29).toInt = (σ12 387 29).toInt := congrArg Int32.toInt (f27.at 387 29 (by decide))
        have t29 : (σ27 387 3).toInt = (σ12 387 3).toInt := congrArg Int32.toInt (f27.at 387 3 (by decide))
        have t30 : (σ27 387 2).toInt = (σ12 387 2).toInt := congrArg Int32.toInt (f27.at 387 2 (by decide))
        have t31 : (σ27 387 34).toInt = (σ12 387 34).toInt := congrArg Int32.toInt (f27.at 387 34 (by decide))
        have t32 : (σ27 387 4).toInt = (σ12 387 4).toInt := congrArg Int32.toInt (f27.at 387 4 (by decide))
        have t33 : (σ27 387 11).toInt = (σ12 387 11).toInt := congrArg Int32.toInt (f27.at 387 11 (by decide))
        have t34 : (σ27 391 j5).toInt = (σ12 391 j5).toInt := congrArg Int32.toInt (f27.atV 391 j5 (by intro q hq; simp only [L_X12_livesLine, List.mem_cons, List.not_mem_nil, or_false] at hq; rcases hq with rfl | rfl | rfl | rfl | rfl | rfl <;> dsimp only <;> omega))
        have t35 : (σ27 391 j8).toInt = (σ12 391 j8).toInt := congrArg Int32.toInt (f27.atV 391 j8 (by intro q hq; simp only [L_X12_livesLine, List.mem_cons, List.not_mem_nil, or_false] at hq; rcases hq with rfl | rfl | rfl | rfl | rfl | rfl <;> dsimp only <;> omega))
        have t36 : (σ27 391 j11).toInt = (σ12 391 j11).toInt := congrArg Int32.toInt (f27.atV 391 j11 (by intro q hq; simp only [L_X12_livesLine, List.mem_cons, List.not_mem_nil, or_false] at hq; rcases hq with rfl | rfl | rfl | rfl | rfl | rfl <;> dsimp only <;> omega))
        refine lv_aload_n hx hb dX12_roll_229 rfl (lv_at hl 2 rfl) ?_
        refine fg_12_35 (k := 387) hx hb hts in_X12_roll_12 hown hK hP (by decide) (by decide) (hts _ lk_X12_roll_68) dX12_roll_230 ?_
        refine r_iconst hx hb dX12_roll_233 (by decide) (fun z37 ez37 => ?_)
        refine lv_dup2_11 hx hb dX12_roll_234 rfl rfl ?_
        refine ad_mrolled (k := 400) (j := 1) hx hb hK hP (by decide) (by decide) (by omega) (by omega) dX12_roll_235 ?_
        refine r_iconst hx hb dX12_roll_236 (by decide) (fun z38 ez38 => ?_)
        refine r_iaddU hx hb dX12_roll_237 (fun z39 => ?_)
        refine as_mrolled (k := 400) (j := 1) hx hb hK hP hI hR hS (by decide) (by decide) (by omega) (by omega) dX12_roll_238 (fun σ40 H40 locs40 u40 v40 hR hP hS => ?_)
        have hF := hF.puts u40 4 rfl (by decide) (by decide) (by decide) (by decide)
        have gMLt := MLt.put gMLt hR u40 (by decide)
        have t41 : (σ40 387 29).toInt = (σ27 387 29).toInt := congrArg Int32.toInt (u40 387 29 (by omega))
        have t42 : (σ40 387 3).toInt = (σ27 387 3).toInt := congrArg Int32.toInt (u40 387 3 (by omega))
        have t43 : (σ40 387 2).toInt = (σ27 387 2).toInt := congrArg Int32.toInt (u40 387 2 (by omega))
        have t44 : (σ40 387 34).toInt = (σ27 387 34).toInt := congrArg Int32.toInt (u40 387 34 (by omega))
        have t45 : (σ40 387 4).toInt = (σ27 387 4).toInt := congrArg Int32.toInt (u40 387 4 (by omega))
        have t46 : (σ40 387 11).toInt = (σ27 387 11).toInt := congrArg Int32.toInt (u40 387 11 (by omega))
        have t47 : (σ40 391 j5).toInt = (σ27 391 j5).toInt := congrArg Int32.toInt (u40 391 j5 (by omega))
        have t48 : (σ40 391 j8).toInt = (σ27 391 j8).toInt := congrArg Int32.toInt (u40 391 j8 (by omega))
        have t49 : (σ40 391 j11).toInt = (σ27 391 j11).toInt := congrArg Int32.toInt (u40 391 j11 (by omega))
        refine r_iinc (k := 6) (lv1 := fun z50 => [(4, .int z50), (6, .int r12), (5, .int z4), (0, .ref (ad 387)), (1, .int a1), (2, .int x2), (3, .int x3)]) hx hb dX12_roll_239 hl rfl (by decide) (fun _ => rfl) (by decide) (by omega) (fun z50 ls ez50 hl => ?_)
        refine lv_goto (tgt := 120) hx hb dX12_roll_242 (by decide) ?_
        exact K120 σ40 τ H40 locs40 x2 x3 z50 ls hR hF hFL hP hS (by omega) (by omega) (by omega) (by omega) (by omega) (by omega) (by omega) (by omega) (by omega) gMLt (lv_sub hl [3, 4, 5, 6, 0] rfl) (by omega)
      · refine lv_aload_n hx hb dX12_roll_175 rfl (lv_at hl 2 rfl) ?_
        refine fg_12_35 (k := 387) hx hb hts in_X12_roll_12 hown hK hP (by decide) (by decide) (hts _ lk_X12_roll_68) dX12_roll_176 ?_
        refine r_iconst hx hb dX12_roll_179 (by decide) (fun z51 ez51 => ?_)
        refine r_bipush hx hb dX12_roll_180 (by decide) (fun z52 ez52 => ?_)
        refine lv_aload_n hx hb dX12_roll_182 rfl (lv_at hl 2 rfl) ?_
        refine fg_12_8 (k := 387) hx hb hts in_X12_roll_12 hown hK hP (by decide) (by decide) (hts _ lk_X12_roll_40) dX12_roll_183 ?_
        refine lv_iload hx hb dX12_roll_186 (lv_at hl 1 rfl) ?_
        refine ad_mread (k := 391) (j := j5) hx hb hK hP (by decide) (by decide) ej5 (by omega) dX12_roll_188 ?_
        refine r_imulU hx hb dX12_roll_189 (fun z53 => ?_)
        refine lv_iload hx hb dX12_roll_190 (lv_at hl 0 rfl) ?_
        refine r_iaddU hx hb dX12_roll_192 (fun z54 => ?_)
        refine as_mrolled (k := 400) (j := 0) hx hb hK hP hI hR hS (by decide) (by decide) (by omega) (by omega) dX12_roll_193 (fun σ55 H55 locs55 u55 v55 hR hP hS => ?_)
        have hF := hF.puts u55 4 rfl (by decide) (by decide) (by decide) (by decide)
        have gMLt := MLt.put gMLt hR u55 (by decide)
        have t56 : (σ55 387 29).toInt = (σ12 387 29).toInt := congrArg Int32.toInt (u55 387 29 (by omega))
        have t57 : (σ55 387 3).toInt = (σ12 387 3).toInt := congrArg Int32.toInt (u55 387 3 (by omega))
        have t58 : (σ55 387 2).toInt = (σ12 387 2).toInt := congrArg Int32.toInt (u55 387 2 (by omega))
        have t59 : (σ55 387 34).toInt = (σ12 387 34).toInt := congrArg Int32.toInt (u55 387 34 (by omega))
        have t60 : (σ55 387 4).toInt = (σ12 387 4).toInt := congrArg Int32.toInt (u55 387 4 (by omega))
        have t61 : (σ55 387 11).toInt = (σ12 387 11).toInt := congrArg Int32.toInt (u55 387 11 (by omega))
        have t62 : (σ55 391 j5).toInt = (σ12 391 j5).toInt := congrArg Int32.toInt (u55 391 j5 (by omega))
        have t63 : (σ55 391 j8).toInt = (σ12 391 j8).toInt := congrArg Int32.toInt (u55 391 j8 (by omega))
        have t64 : (σ55 391 j11).toInt = (σ12 391 j11).toInt := congrArg Int32.toInt (u55 391 j11 (by omega))
        refine lv_iload hx hb dX12_roll_194 (lv_at hl 6 rfl) ?_
        refine lv_istore_n (lv' := [(3, .int x4), (6, .int r12), (5, .int z4), (0, .ref (ad 387)), (1, .int a1), (2, .int x2), (4, .int x4)]) hx hb dX12_roll_196 rfl hl (by decide) rfl (fun ls hl => ?_)
        refine lv_goto (tgt := 239) hx hb dX12_roll_197 (by decide) ?_
        refine r_iinc (k := 6) (lv1 := fun z65 => [(4, .int z65), (3, .int x4), (6, .int r12), (5, .int z4), (0, .ref (ad 387)), (1, .int a1), (2, .int x2)]) hx hb dX12_roll_239 hl rfl (by decide) (fun _ => rfl) (by decide) (by omega) (fun z65 ls ez65 hl => ?_)
        refine lv_goto (tgt := 120) hx hb dX12_roll_242 (by decide) ?_
        exact K120 σ55 τ H55 locs55 x2 x4 z65 ls hR hF hFL hP hS (by omega) (by omega) (by omega) (by omega) (by omega) (by omega) (by omega) (by omega) (by omega) gMLt (lv_sub hl [4, 5, 6, 1, 0] rfl) (by omega)
set_option maxHeartbeats 4000000 in
theorem B_X12_roll_245 (p : Program) (l : Launch) (e : Env) (s : State) (m : MethodId) (args : Array Value) (below : List Frame) (meth : Method) (c : Code) (D : va_G) (cA : Nat → ClassId) (ad : Nat → Nat) (σ0 : Nat → Nat → Int32) (τ0 : Nat → Nat → Int64) (a1 : Int32) (n : Nat) (C : Cy p s m args meth c cX12_roll 7 wsX12_roll RX12 D cA ad (some .int))  (K39 : J_X12_roll_39 p l e s m args below meth c D cA ad σ0 τ0 a1 n) (K89 : J_X12_roll_89 p l e s m args below meth c D cA ad σ0 τ0 a1 n) (K120 : J_X12_roll_120 p l e s m args below meth c D cA ad σ0 τ0 a1 n) (K245 : J_X12_roll_245 p l e s m args below meth c D cA ad σ0 τ0 a1 n) (K300 : J_X12_roll_300 p l e s m args below meth c D cA ad σ0 τ0 a1 n) : J_X12_roll_245 p l e s m args below meth c D cA ad σ0 τ0 a1 (n + 1) := by
  obtain ⟨hx, hb, hml, hown, hts, hK, hk, hr, hI, hN⟩ := C
  intro σ τ H locs x2 x3 x4 ls hR hF hFL hP hS hc0 hc1 hc2 hc3 hc4 hc5 hc6 hc7 hc8 hl hm
  refine lv_aload_n hx hb dX12_roll_245 rfl (lv_at hl 0 rfl) ?_
  refine fg_12_35 (k := 387) hx hb hts in_X12_roll_12 hown hK hP (by decide) (by decide) (hts _ lk_X12_roll_68) dX12_roll_246 ?_
  refine r_iconst hx hb dX12_roll_249 (by decide) (fun z1 ez1 => ?_)
  refine lv_aload_n hx hb dX12_roll_250 rfl (lv_at hl 0 rfl) ?_
  refine fg_12_6 (k := 387) hx hb hts in_X12_roll_12 hown hK hP (by decide) (by decide) (hts _ lk_X12_roll_33) dX12_roll_251 ?_
  refine r_sipush hx hb dX12_roll_254 (by decide) (fun z2 ez2 => ?_)
  refine ad_ms (k := 389) (j := 211) hx hb hK hP (by decide) (by decide) (by omega) (by omega) dX12_roll_257 ?_
  refine as_mrolled (k := 400) (j := 2) hx hb hK hP hI hR hS (by decide) (by decide) (by omega) (by omega) dX12_roll_258 (fun σ3 H3 locs3 u3 v3 hR hP hS => ?_)
  have hF := hF.puts u3 4 rfl (by decide) (by decide) (by decide) (by decide)
  have t4 : (σ3 387 29).toInt = (σ 387 29).toInt := congrArg Int32.toInt (u3 387 29 (by omega))
  have t5 : (σ3 387 3).toInt = (σ 387 3).toInt := congrArg Int32.toInt (u3 387 3 (by omega))
  have t6 : (σ3 387 2).toInt = (σ 387 2).toInt := congrArg Int32.toInt (u3 387 2 (by omega))
  have t7 : (σ3 387 34).toInt = (σ 387 34).toInt := congrArg Int32.toInt (u3 387 34 (by omega))
  have t8 : (σ3 387 4).toInt = (σ 387 4).toInt := congrArg Int32.toInt (u3 387 4 (by omega))
  have t9 : (σ3 387 11).toInt = (σ 387 11).toInt := congrArg Int32.toInt (u3 387 11 (by omega))
  have t10 : (σ3 389 211).toInt = (σ 389 211).toInt := congrArg Int32.toInt (u3 389 211 (by omega))
  refine lv_aload_n hx hb dX12_roll_259 rfl (lv_at hl 0 rfl) ?_
  refine fg_12_35 (k := 387) hx hb hts in_X12_roll_12 hown hK hP (by decide) (by decide) (hts _ lk_X12_roll_68) dX12_roll_260 ?_
  refine r_iconst hx hb dX12_roll_263 (by decide) (fun z11 ez11 => ?_)
  refine lv_aload_n hx hb dX12_roll_264 rfl (lv_at hl 0 rfl) ?_
  refine r_sipush hx hb dX12_roll_265 (by decide) (fun z12 ez12 => ?_)
  refine r_cVi (k := 387) (As := [.int z12]) (rest := [.int z11, .ref (ad 400)]) ⟨hx, hb, hml, hown, hts⟩ hK hP hN hS (c_X12_sum l D cA ad hI σ3 τ hR z12 (by omega)) (cwV 1 hts gX12_roll_X12_sum rfl rfl rfl (by decide +kernel) ⟨by decide, by decide⟩) (rv_M hK hP (by decide) (by decide)) rfl hl.1 rfl (Nat.le_of_ble_eq_true rfl) dX12_roll_268 (Nat.zero_le _) (Nat.zero_le _) (fun r13 u13 H13 locs13 hp13 hP hS => ?_)
  obtain ⟨σ13, τ13⟩ := u13
  obtain ⟨hR, f13, fL13⟩ : P_X12_sum σ3 τ z12 r13 σ13 τ13 := hp13
  have hP : va_P D vwCl (gw cA ad σ13 τ13) H13 := hP
  obtain rfl := FrL.nil fL13
  obtain rfl := Fr.nil f13
  refine lv_iload_n hx hb dX12_roll_271 rfl (lv_at hl 2 rfl) ?_
  refine r_isubU hx hb dX12_roll_272 (fun z14 => ?_)
  refine as_mrolled (k := 400) (j := 3) hx hb hK hP hI hR hS (by decide) (by decide) (by omega) (by omega) dX12_roll_273 (fun σ15 H15 locs15 u15 v15 hR hP hS => ?_)
  have hF := hF.puts u15 4 rfl (by decide) (by decide) (by decide) (by decide)
  have t16 : (σ15 387 29).toInt = (σ3 387 29).toInt := congrArg Int32.toInt (u15 387 29 (by omega))
  have t17 : (σ15 387 3).toInt = (σ3 387 3).toInt := congrArg Int32.toInt (u15 387 3 (by omega))
  have t18 : (σ15 387 2).toInt = (σ3 387 2).toInt := congrArg Int32.toInt (u15 387 2 (by omega))
  have t19 : (σ15 387 34).toInt = (σ3 387 34).toInt := congrArg Int32.toInt (u15 387 34 (by omega))
  have t20 : (σ15 387 4).toInt = (σ3 387 4).toInt := congrArg Int32.toInt (u15 387 4 (by omega))
  have t21 : (σ15 387 11).toInt = (σ3 387 11).toInt := congrArg Int32.toInt (u15 387 11 (by omega))
  have t22 : (σ15 389 211).toInt = (σ3 389 211).toInt := congrArg Int32.toInt (u15 389 211 (by omega))
  have t23 : (σ15 400 2).toInt = (σ3 400 2).toInt := congrArg Int32.toInt (u15 400 2 (by omega))
  refine lv_aload_n hx hb dX12_roll_274 rfl (lv_at hl 0 rfl) ?_
  refine r_iconst hx hb dX12_roll_275 (by decide) (fun z24 ez24 => ?_)
  refine fp_12_36 (k := 387) hx hb hts in_X12_roll_12 hown hK hP (by decide) (by decide) (hts _ lk_X12_roll_428) hI hR hS (by omega) dX12_roll_276 (fun σ25 H25 locs25 u25 v25 hR hP hS => ?_)
  have hF := hF.puts u25 5 rfl (by decide) (by decide) (by decide) (by decide)
  have t26 : (σ25 387 29).toInt = (σ15 387 29).toInt := congrArg Int32.toInt (u25 387 29 (by omega))
  have t27 : (σ25 387 3).toInt = (σ15 387 3).toInt := congrArg Int32.toInt (u25 387 3 (by omega))
  have t28 : (σ25 387 2).toInt = (σ15 387 2).toInt := congrArg Int32.toInt (u25 387 2 (by omega))
  have t29 : (σ25 387 34).toInt = (σ15 387 34).toInt := congrArg Int32.toInt (u25 387 34 (by omega))
  have t30 : (σ25 387 4).toInt = (σ15 387 4).toInt := congrArg Int32.toInt (u25 387 4 (by omega))
  have t31 : (σ25 387 11).toInt = (σ15 387 11).toInt := congrArg Int32.toInt (u25 387 11 (by omega))
  have t32 : (σ25 389 211).toInt = (σ15 389 211).toInt := congrArg Int32.toInt (u25 389 211 (by omega))
  have t33 : (σ25 400 2).toInt = (σ15 400 2).toInt := congrArg Int32.toInt (u25 400 2 (by omega))
  have t34 : (σ25 400 3).toInt = (σ15 400 3).toInt := congrArg Int32.toInt (u25 400 3 (by omega))
  refine lv_iload_n hx hb dX12_roll_279 rfl (lv_at hl 1 rfl) ?_
  refine r_iconst hx hb dX12_roll_280 (by decide) (fun z35 ez35 => ?_)
  refine r_icmp_ne (tgt := 337) hx hb dX12_roll_281 (by decide) (fun c36 => ?_) (fun c36 => ?_)
  · refine lv_iload_n hx hb dX12_roll_337 rfl (lv_at hl 1 rfl) ?_
    refine r_if_ne (tgt := 345) hx hb dX12_roll_338 (by decide) (fun c37 => ?_) (fun c37 => ?_)
    · exfalso; omega
    · refine lv_aload_n hx hb dX12_roll_341 rfl (lv_at hl 0 rfl) ?_
      refine r_cVv (k := 387) (As := []) (rest := []) ⟨hx, hb, hml, hown, hts⟩ hK hP hN hS (c_X12_back l D cA ad hI σ25 τ hR) (cwV 0 hts gX12_roll_X12_back rfl rfl rfl (by decide +kernel) ⟨by decide, by decide⟩) (rv_M hK hP (by decide) (by decide)) rfl hl.1 rfl (Nat.le_of_ble_eq_true rfl) dX12_roll_342 (Nat.zero_le _) (Nat.zero_le _) (fun u38 H38 locs38 hp38 hP hS => ?_)
      obtain ⟨σ38, τ38⟩ := u38
      obtain ⟨hR, f38, fL38⟩ : P_X12_back σ25 τ σ38 τ38 := hp38
      have hP : va_P D vwCl (gw cA ad σ38 τ38) H38 := hP
      obtain rfl := FrL.nil fL38
      have hF := hF.step f38 (by decide)
      have t39 : (σ38 387 29).toInt = (σ25 387 29).toInt := congrArg Int32.toInt (f38.at 387 29 (by decide))
      have t40 : (σ38 387 3).toInt = (σ25 387 3).toInt := congrArg Int32.toInt (f38.at 387 3 (by decide))
      have t41 : (σ38 387 2).toInt = (σ25 387 2).toInt := congrArg Int32.toInt (f38.at 387 2 (by decide))
      have t42 : (σ38 387 34).toInt = (σ25 387 34).toInt := congrArg Int32.toInt (f38.at 387 34 (by decide))
      have t43 : (σ38 387 4).toInt = (σ25 387 4).toInt := congrArg Int32.toInt (f38.at 387 4 (by decide))
      have t44 : (σ38 387 11).toInt = (σ25 387 11).toInt := congrArg Int32.toInt (f38.at 387 11 (by decide))
      have t45 : (σ38 400 2).toInt = (σ25 400 2).toInt := congrArg Int32.toInt (f38.at 400 2 (by decide))
      have t46 : (σ38 400 3).toInt = (σ25 400 3).toInt := congrArg Int32.toInt (f38.at 400 3 (by decide))
      refine lv_iload_n hx hb dX12_roll_345 rfl (lv_at hl 3 rfl) ?_
      exact r_iret hx hb hr hK hP hS hk dX12_roll_346 (show P_X12_roll σ0 τ0 a1 x3 σ38 τ from ⟨hR, hF, hFL, by omega⟩)
  · refine lv_aload_n hx hb dX12_roll_284 rfl (lv_at hl 0 rfl) ?_
    refine fg_12_35 (k := 387) hx hb hts in_X12_roll_12 hown hK hP (by decide) (by decide) (hts _ lk_X12_roll_68) dX12_roll_285 ?_
    refine r_iconst hx hb dX12_roll_288 (by decide) (fun z47 ez47 => ?_)
    refine ad_mrolled (k := 400) (j := 1) hx hb hK hP (by decide) (by decide) (by omega) (by omega) dX12_roll_289 ?_
    refine r_if_le (tgt := 337) hx hb dX12_roll_290 (by decide) (fun c48 => ?_) (fun c48 => ?_)
    · refine lv_iload_n hx hb dX12_roll_337 rfl (lv_at hl 1 rfl) ?_
      refine r_if_ne (tgt := 345) hx hb dX12_roll_338 (by decide) (fun c49 => ?_) (fun c49 => ?_)
      · refine lv_iload_n hx hb dX12_roll_345 rfl (lv_at hl 3 rfl) ?_
        exact r_iret hx hb hr hK hP hS hk dX12_roll_346 (show P_X12_roll σ0 τ0 a1 x3 σ25 τ from ⟨hR, hF, hFL, by omega⟩)
      · exfalso; omega
    · refine lv_aload_n hx hb dX12_roll_293 rfl (lv_at hl 0 rfl) ?_
      refine r_cVv (k := 387) (As := []) (rest := []) ⟨hx, hb, hml, hown, hts⟩ hK hP hN hS (c_X12_keep l D cA ad hI σ25 τ hR) (cwV 0 hts gX12_roll_X12_keep rfl rfl rfl (by decide +kernel) ⟨by decide, by decide⟩) (rv_M hK hP (by decide) (by decide)) rfl hl.1 rfl (Nat.le_of_ble_eq_true rfl) dX12_roll_294 (Nat.zero_le _) (Nat.zero_le _) (fun u50 H50 locs50 hp50 hP hS => ?_)
      obtain ⟨σ50, τ50⟩ := u50
      obtain ⟨hR, f50, fL50, hp50_0⟩ : P_X12_keep σ25 τ σ50 τ50 := hp50
      have hP : va_P D vwCl (gw cA ad σ50 τ50) H50 := hP
      obtain rfl := FrL.nil fL50
      have hF := hF.step f50 (by decide)
      have t51 : (σ50 387 3).toInt = (σ25 387 3).toInt := congrArg Int32.toInt (f50.at 387 3 (by decide))
      have t52 : (σ50 387 2).toInt = (σ25 387 2).toInt := congrArg Int32.toInt (f50.at 387 2 (by decide))
      have t53 : (σ50 387 34).toInt = (σ25 387 34).toInt := congrArg Int32.toInt (f50.at 387 34 (by decide))
      have t54 : (σ50 387 4).toInt = (σ25 387 4).toInt := congrArg Int32.toInt (f50.at 387 4 (by decide))
      have t55 : (σ50 387 11).toInt = (σ25 387 11).toInt := congrArg Int32.toInt (f50.at 387 11 (by decide))
      have t56 : (σ50 389 211).toInt = (σ25 389 211).toInt := congrArg Int32.toInt (f50.at 389 211 (by decide))
      have t57 : (σ50 400 2).toInt = (σ25 400 2).toInt := congrArg Int32.toInt (f50.at 400 2 (by decide))
      have t58 : (σ50 400 3).toInt = (σ25 400 3).toInt := congrArg Int32.toInt (f50.at 400 3 (by decide))
      have t59 : (σ50 400 1).toInt = (σ25 400 1).toInt := congrArg Int32.toInt (f50.at 400 1 (by decide))
      have hr60 := rg_12_29 hR (k := 387) (by decide) (by decide)
      refine r_iconst hx hb dX12_roll_297 (by decide) (fun z61 ez61 => ?_)
      refine lv_istore (lv' := [(4, .int z61), (0, .ref (ad 387)), (1, .int a1), (2, .int x2), (3, .int x3)]) hx hb dX12_roll_298 hl (by decide) rfl (fun ls hl => ?_)
      exact K300 σ50 τ H50 locs50 x2 x3 z61 ls hR hF hFL hP hS (by omega) (by omega) (by omega) (by omega) (by omega) (by omega) (by omega) (by omega) (by omega) (by omega) (by omega) (lv_sub hl [1, 2, 3, 4, 0] rfl) (by omega)
set_option maxHeartbeats 4000000 in
theorem B_X12_roll_300 (p : Program) (l : Launch) (e : Env) (s : State) (m : MethodId) (args : Array Value) (below : List Frame) (meth : Method) (c : Code) (D : va_G) (cA : Nat → ClassId) (ad : Nat → Nat) (σ0 : Nat → Nat → Int32) (τ0 : Nat → Nat → Int64) (a1 : Int32) (n : Nat) (C : Cy p s m args meth c cX12_roll 7 wsX12_roll RX12 D cA ad (some .int))  (K39 : J_X12_roll_39 p l e s m args below meth c D cA ad σ0 τ0 a1 n) (K89 : J_X12_roll_89 p l e s m args below meth c D cA ad σ0 τ0 a1 n) (K120 : J_X12_roll_120 p l e s m args below meth c D cA ad σ0 τ0 a1 n) (K245 : J_X12_roll_245 p l e s m args below meth c D cA ad σ0 τ0 a1 n) (K300 : J_X12_roll_300 p l e s m args below meth c D cA ad σ0 τ0 a1 n) : J_X12_roll_300 p l e s m args below meth c D cA ad σ0 τ0 a1 (n + 1) := by
  obtain ⟨hx, hb, hml, hown, hts, hK, hk, hr, hI, hN⟩ := C
  intro σ τ H locs x2 x3 x4 ls hR hF hFL hP hS hc0 hc1 hc2 hc3 hc4 hc5 hc6 hc7 hc8 hc9 hi0 hl hm
  refine lv_iload hx hb dX12_roll_300 (lv_at hl 4 rfl) ?_
  refine r_bipush hx hb dX12_roll_302 (by decide) (fun z1 ez1 => ?_)
  refine r_icmp_ge (tgt := 337) hx hb dX12_roll_304 (by decide) (fun c2 => ?_) (fun c2 => ?_)
  · refine lv_iload_n hx hb dX12_roll_337 rfl (lv_at hl 1 rfl) ?_
    refine r_if_ne (tgt := 345) hx hb dX12_roll_338 (by decide) (fun c3 => ?_) (fun c3 => ?_)
    · refine lv_iload_n hx hb dX12_roll_345 rfl (lv_at hl 3 rfl) ?_
      exact r_iret hx hb hr hK hP hS hk dX12_roll_346 (show P_X12_roll σ0 τ0 a1 x3 σ τ from ⟨hR, hF, hFL, by omega⟩)
    · exfalso; omega
  · refine lv_aload_n hx hb dX12_roll_307 rfl (lv_at hl 0 rfl) ?_
    refine fg_12_27 (k := 387) hx hb hts in_X12_roll_12 hown hK hP (by decide) (by decide) (hts _ lk_X12_roll_62) dX12_roll_308 ?_
    refine r_bipush hx hb dX12_roll_311 (by decide) (fun z4 ez4 => ?_)
    refine lv_aload_n hx hb dX12_roll_313 rfl (lv_at hl 0 rfl) ?_
    refine fg_12_29 (k := 387) hx hb hts in_X12_roll_12 hown hK hP (by decide) (by decide) (hts _ lk_X12_roll_256) dX12_roll_314 ?_
    refine r_iconst hx hb dX12_roll_317 (by decide) (fun z5 ez5 => ?_)
    refine r_isub hx hb dX12_roll_318 (by omega) (fun z6 ez6 => ?_)
    refine r_imulL (n := 35) hx hb dX12_roll_319 (by omega) (by omega) (fun z7 ez7 => ?_)
    refine lv_iload hx hb dX12_roll_320 (lv_at hl 4 rfl) ?_
    refine r_iadd hx hb dX12_roll_322 (by omega) (fun z8 ez8 => ?_)
    refine lv_aload_n hx hb dX12_roll_323 rfl (lv_at hl 0 rfl) ?_
    refine fg_12_28 (k := 387) hx hb hts in_X12_roll_12 hown hK hP (by decide) (by decide) (hts _ lk_X12_roll_65) dX12_roll_324 ?_
    refine lv_iload hx hb dX12_roll_327 (lv_at hl 4 rfl) ?_
    obtain ⟨j9, ej9⟩ : ∃ j : Nat, x4.toInt = (j : Int) := ⟨_, ti_nat (by omega)⟩
    refine ad_mbefore (k := 399) (j := j9) hx hb hK hP (by decide) (by decide) ej9 (by omega) dX12_roll_329 ?_
    obtain ⟨j10, ej10⟩ : ∃ j : Nat, z8.toInt = (j : Int) := ⟨_, ti_nat (by omega)⟩
    refine as_mundone (k := 398) (j := j10) hx hb hK hP hI hR hS (by decide) (by decide) ej10 (by omega) (mc_ub hR (((σ 387 29).toInt - 1).toNat) (by omega) (by omega) (by omega)) dX12_roll_330 (fun σ11 H11 locs11 u11 v11 hR hP hS => ?_)
    have hF := hF.puts u11 7 rfl (by decide) (by decide) (by omega) (by omega)
    have t12 : (σ11 387 3).toInt = (σ 387 3).toInt := congrArg Int32.toInt (u11 387 3 (by omega))
    have t13 : (σ11 387 2).toInt = (σ 387 2).toInt := congrArg Int32.toInt (u11 387 2 (by omega))
    have t14 : (σ11 387 34).toInt = (σ 387 34).toInt := congrArg Int32.toInt (u11 387 34 (by omega))
    have t15 : (σ11 387 4).toInt = (σ 387 4).toInt := congrArg Int32.toInt (u11 387 4 (by omega))
    have t16 : (σ11 387 11).toInt = (σ 387 11).toInt := congrArg Int32.toInt (u11 387 11 (by omega))
    have t17 : (σ11 389 211).toInt = (σ 389 211).toInt := congrArg Int32.toInt (u11 389 211 (by omega))
    have t18 : (σ11 400 2).toInt = (σ 400 2).toInt := congrArg Int32.toInt (u11 400 2 (by omega))
    have t19 : (σ11 400 3).toInt = (σ 400 3).toInt := congrArg Int32.toInt (u11 400 3 (by omega))
    have t20 : (σ11 400 1).toInt = (σ 400 1).toInt := congrArg Int32.toInt (u11 400 1 (by omega))
    have t21 : (σ11 387 29).toInt = (σ 387 29).toInt := congrArg Int32.toInt (u11 387 29 (by omega))
    have t22 : (σ11 399 j9).toInt = (σ 399 j9).toInt := congrArg Int32.toInt (u11 399 j9 (by omega))
    refine r_iinc (k := 4) (lv1 := fun z23 => [(4, .int z23), (0, .ref (ad 387)), (1, .int a1), (2, .int x2), (3, .int x3)]) hx hb dX12_roll_331 hl rfl (by decide) (fun _ => rfl) (by decide) (by omega) (fun z23 ls ez23 hl => ?_)
    refine lv_goto (tgt := 300) hx hb dX12_roll_334 (by decide) ?_
    exact K300 σ11 τ H11 locs11 x2 x3 z23 ls hR hF hFL hP hS (by omega) (by omega) (by omega) (by omega) (by omega) (by omega) (by omega) (by omega) (by omega) (by omega) (by omega) (lv_sub hl [1, 2, 3, 4, 0] rfl) (by omega)
theorem A_X12_roll (p : Program) (l : Launch) (e : Env) (s : State) (m : MethodId) (args : Array Value) (below : List Frame) (meth : Method) (c : Code) (D : va_G) (cA : Nat → ClassId) (ad : Nat → Nat) (σ0 : Nat → Nat → Int32) (τ0 : Nat → Nat → Int64) (a1 : Int32) (C : Cy p s m args meth c cX12_roll 7 wsX12_roll RX12 D cA ad (some .int))  : ∀ n : Nat, J_X12_roll_39 p l e s m args below meth c D cA ad σ0 τ0 a1 n ∧ J_X12_roll_89 p l e s m args below meth c D cA ad σ0 τ0 a1 n ∧ J_X12_roll_120 p l e s m args below meth c D cA ad σ0 τ0 a1 n ∧ J_X12_roll_245 p l e s m args below meth c D cA ad σ0 τ0 a1 n ∧ J_X12_roll_300 p l e s m args below meth c D cA ad σ0 τ0 a1 n := by
  intro n
  induction n with
  | zero =>
    exact ⟨(by intro σ τ H locs ls hR hF hFL hP hS hc0 hc1 hc2 hc3 hc4 hc5 gMLt hl hm; exfalso; omega), (by intro σ τ H locs x2 ls hR hF hFL hP hS hc0 hc1 hc2 hc3 hc4 hc5 hc6 hc7 gMLt hl hm; exfalso; omega), (by intro σ τ H locs x2 x3 x4 ls hR hF hFL hP hS hc0 hc1 hc2 hc3 hc4 hc5 hc6 hc7 hc8 gMLt hl hm; exfalso; omega), (by intro σ τ H locs x2 x3 x4 ls hR hF hFL hP hS hc0 hc1 hc2 hc3 hc4 hc5 hc6 hc7 hc8 hl hm; exfalso; omega), (by intro σ τ H locs x2 x3 x4 ls hR hF hFL hP hS hc0 hc1 hc2 hc3 hc4 hc5 hc6 hc7 hc8 hc9 hi0 hl hm; exfalso; omega)⟩
  | succ n ih =>
    exact ⟨B_X12_roll_39 p l e s m args below meth c D cA ad σ0 τ0 a1 n C  ih.1 ih.2.1 ih.2.2.1 ih.2.2.2.1 ih.2.2.2.2, B_X12_roll_89 p l e s m args below meth c D cA ad σ0 τ0 a1 n C  ih.1 ih.2.1 ih.2.2.1 ih.2.2.2.1 ih.2.2.2.2, B_X12_roll_120 p l e s m args below meth c D cA ad σ0 τ0 a1 n C  ih.1 ih.2.1 ih.2.2.1 ih.2.2.2.1 ih.2.2.2.2, B_X12_roll_245 p l e s m args below meth c D cA ad σ0 τ0 a1 n C  ih.1 ih.2.1 ih.2.2.1 ih.2.2.2.1 ih.2.2.2.2, B_X12_roll_300 p l e s m args below meth c D cA ad σ0 τ0 a1 n C  ih.1 ih.2.1 ih.2.2.1 ih.2.2.2.1 ih.2.2.2.2⟩
set_option maxHeartbeats 4000000 in
theorem c_X12_roll (l : Launch) (D : va_G) (cA : Nat → ClassId) (ad : Nat → Nat) (hI : Inj ad) (σ0 : Nat → Nat → Int32) (τ0 : Nat → Nat → Int64) (hR : Rg σ0) (a1 : Int32)  : Met l yX12_roll wsX12_roll ({ frames := 6, cells := 0, slots := 0, locals := 135 } : Room) (WQc D cA ad [.ref (ad 387), .int a1] σ0 τ0) (va_Qi (fun (r : Int32) (u : SS) => P_X12_roll σ0 τ0 a1 r u.1 u.2) (WB D cA ad) (AA ad)) 0 0 (AA ad) := by
  refine Met.ofW (cc := cX12_roll) (maxL := 7) (ret := (some .int)) (by decide) rfl ?_
  intro p e s m args below meth c s₁ B hml hv
  obtain ⟨rfl, hP, hK, hN⟩ := hv
  have C : Cy p s m _ meth c cX12_roll 7 wsX12_roll RX12 D cA ad (some .int) := ⟨B.exec, B.bytes, hml, findClass_of_methodNamed B.named, atoms_spec (ws := wsX12_roll) B.pre, hK, B.notSynchronized, B.returns, hI, hN⟩
  have hl := lv_entry ([.ref (ad 387), .int a1]) (n := 7) (Nat.le_of_ble_eq_true rfl)
  rw [lg_entry_eq]
  generalize (lg_sl ([.ref (ad 387), .int a1]) ++ List.replicate (7 - (lg_sl ([.ref (ad 387), .int a1])).length) Slot.unset).toArray = ls at hl ⊢
  have hl : lv_has ls 7 [(0, .ref (ad 387)), (1, .int a1)] := hl
  have hS : va_S (AA ad) s.heap s.heap [] := va_S.rf
  have hF : Fr L_X12_roll σ0 σ0 := Fr.rf
  have hFL : FrL LL_X12_roll τ0 τ0 := FrL.rf
  have hA := A_X12_roll p l e s m _ below meth c D cA ad σ0 τ0 a1 C  39893698
  have K39 := hA.1
  have K89 := hA.2.1
  have K120 := hA.2.2.1
  have K245 := hA.2.2.2.1
  have K300 := hA.2.2.2.2
  clear hA
  obtain ⟨hx, hb, _, hown, hts, _, hk, hr, _, _⟩ := C
  have hrt4 := rg_12_4 hR (k := 387) (by decide) (by decide)
  have hrt3 := rg_12_3 hR (k := 387) (by decide) (by decide)
  have hrt34 := rg_12_34 hR (k := 387) (by decide) (by decide)
  have hrt29 := rg_12_29 hR (k := 387) (by decide) (by decide)
  have hrt2 := rg_12_2 hR (k := 387) (by decide) (by decide)
  refine lv_aload_n hx hb dX12_roll_0 rfl (lv_at hl 0 rfl) ?_
  refine r_iconst hx hb dX12_roll_1 (by decide) (fun z1 ez1 => ?_)
  refine fp_12_0 (k := 387) hx hb hts in_X12_roll_12 hown hK hP (by decide) (by decide) (hts _ lk_X12_roll_1) hI hR hS (by omega) dX12_roll_2 (fun σ2 H2 locs2 u2 v2 hR hP hS => ?_)
  have hF := hF.puts u2 0 rfl (by decide) (by decide) (by decide) (by decide)
  have t3 : (σ2 387 4).toInt = (σ0 387 4).toInt := congrArg Int32.toInt (u2 387 4 (by omega))
  have t4 : (σ2 387 3).toInt = (σ0 387 3).toInt := congrArg Int32.toInt (u2 387 3 (by omega))
  have t5 : (σ2 387 11).toInt = (σ0 387 11).toInt := congrArg Int32.toInt (u2 387 11 (by omega))
  have t6 : (σ2 387 34).toInt = (σ0 387 34).toInt := congrArg Int32.toInt (u2 387 34 (by omega))
  have t7 : (σ2 387 29).toInt = (σ0 387 29).toInt := congrArg Int32.toInt (u2 387 29 (by omega))
  have t8 : (σ2 387 2).toInt = (σ0 387 2).toInt := congrArg Int32.toInt (u2 387 2 (by omega))
  refine lv_iload_n hx hb dX12_roll_5 rfl (lv_at hl 1 rfl) ?_
  refine r_iconst hx hb dX12_roll_6 (by decide) (fun z9 ez9 => ?_)
  refine r_iconst hx hb dX12_roll_7 (by decide) (fun z10 ez10 => ?_)
  refine r_cSi (As := [.int a1, .int z9, .int z10]) (rest := []) ⟨hx, hb, hml, hown, hts⟩ hK hP hN hS (c_X12_isIn l D cA ad hI σ2 τ0 hR a1 z9 z10) (va_cwS 3 hts gX12_roll_X12_isIn rfl rfl rfl (by decide +kernel) ⟨by decide, by decide⟩) rfl hl.1 rfl (Nat.le_of_ble_eq_true rfl) dX12_roll_8 (Nat.zero_le _) (Nat.zero_le _) (fun r11 u11 H11 locs11 hp11 hP hS => ?_)
  obtain ⟨σ11, τ11⟩ := u11
  obtain ⟨hR, f11, fL11, hq11, hp11_0, hp11_1⟩ : P_X12_isIn σ2 τ0 a1 z9 z10 r11 σ11 τ11 := hp11
  have hP : va_P D vwCl (gw cA ad σ11 τ11) H11 := hP
  obtain rfl := FrL.nil fL11
  obtain rfl := Fr.nil f11
  refine r_if_ne (tgt := 18) hx hb dX12_roll_11 (by decide) (fun c12 => ?_) (fun c12 => ?_)
  · replace hp11_0 := hp11_0.resolve_left (by omega)
    refine lv_aload_n hx hb dX12_roll_18 rfl (lv_at hl 0 rfl) ?_
    refine r_sipush hx hb dX12_roll_19 (by decide) (fun z13 ez13 => ?_)
    refine r_cVv (k := 387) (As := [.int z13]) (rest := []) ⟨hx, hb, hml, hown, hts⟩ hK hP hN hS (c_X12_taken l D cA ad hI σ2 τ0 hR z13 (by omega)) (cwV 1 hts gX12_roll_X12_taken rfl rfl rfl (by decide +kernel) ⟨by decide, by decide⟩) (rv_M hK hP (by decide) (by decide)) rfl hl.1 rfl (Nat.le_of_ble_eq_true rfl) dX12_roll_22 (Nat.zero_le _) (Nat.zero_le _) (fun u14 H14 locs14 hp14 hP hS => ?_)
    obtain ⟨σ14, τ14⟩ := u14
    obtain ⟨hR, f14, fL14, hp14_0, hp14_1, hp14_2, hp14_3⟩ : P_X12_taken σ2 τ0 z13 σ14 τ14 := hp14
    have hP : va_P D vwCl (gw cA ad σ14 τ14) H14 := hP
    obtain rfl := FrL.nil fL14
    have hF := hF.step f14 (by decide)
    have t15 : (σ14 387 11).toInt = (σ2 387 11).toInt := congrArg Int32.toInt (f14.at 387 11 (by decide))
    have t16 : (σ14 387 34).toInt = (σ2 387 34).toInt := congrArg Int32.toInt (f14.at 387 34 (by decide))
    have t17 : (σ14 387 29).toInt = (σ2 387 29).toInt := congrArg Int32.toInt (f14.at 387 29 (by decide))
    have hr18 := rg_12_4 hR (k := 387) (by decide) (by decide)
    have hr19 := rg_12_3 hR (k := 387) (by decide) (by decide)
    have hr20 := rg_12_2 hR (k := 387) (by decide) (by decide)
    refine lv_aload_n hx hb dX12_roll_25 rfl (lv_at hl 0 rfl) ?_
    refine r_iconst hx hb dX12_roll_26 (by decide) (fun z21 ez21 => ?_)
    refine fp_12_15 (k := 387) hx hb hts in_X12_roll_12 hown hK hP (by decide) (by decide) (hts _ lk_X12_roll_176) hI hR hS dX12_roll_27 (fun σ22 H22 locs22 u22 v22 hR hP hS => ?_)
    have hF := hF.puts u22 10 rfl (by decide) (by decide) (by decide) (by decide)
    have t23 : (σ22 387 11).toInt = (σ14 387 11).toInt := congrArg Int32.toInt (u22 387 11 (by omega))
    have t24 : (σ22 387 34).toInt = (σ14 387 34).toInt := congrArg Int32.toInt (u22 387 34 (by omega))
    have t25 : (σ22 387 29).toInt = (σ14 387 29).toInt := congrArg Int32.toInt (u22 387 29 (by omega))
    have t26 : (σ22 387 4).toInt = (σ14 387 4).toInt := congrArg Int32.toInt (u22 387 4 (by omega))
    have t27 : (σ22 387 3).toInt = (σ14 387 3).toInt := congrArg Int32.toInt (u22 387 3 (by omega))
    have t28 : (σ22 387 2).toInt = (σ14 387 2).toInt := congrArg Int32.toInt (u22 387 2 (by omega))
    refine lv_aload_n hx hb dX12_roll_30 rfl (lv_at hl 0 rfl) ?_
    refine r_iconst hx hb dX12_roll_31 (by decide) (fun z29 ez29 => ?_)
    refine fp_12_34 (k := 387) hx hb hts in_X12_roll_12 hown hK hP (by decide) (by decide) (hts _ lk_X12_roll_416) hI hR hS (by omega) dX12_roll_32 (fun σ30 H30 locs30 u30 v30 hR hP hS => ?_)
    have hF := hF.puts u30 2 rfl (by decide) (by decide) (by decide) (by decide)
    have t31 : (σ30 387 11).toInt = (σ22 387 11).toInt := congrArg Int32.toInt (u30 387 11 (by omega))
    have t32 : (σ30 387 29).toInt = (σ22 387 29).toInt := congrArg Int32.toInt (u30 387 29 (by omega))
    have t33 : (σ30 387 4).toInt = (σ22 387 4).toInt := congrArg Int32.toInt (u30 387 4 (by omega))
    have t34 : (σ30 387 3).toInt = (σ22 387 3).toInt := congrArg Int32.toInt (u30 387 3 (by omega))
    have t35 : (σ30 387 2).toInt = (σ22 387 2).toInt := congrArg Int32.toInt (u30 387 2 (by omega))
    have gMLt := MLt.zero (σ := σ30) (by omega)
    refine lv_aload_n hx hb dX12_roll_35 rfl (lv_at hl 0 rfl) ?_
    refine r_cVv (k := 387) (As := []) (rest := []) ⟨hx, hb, hml, hown, hts⟩ hK hP hN hS (c_X12_next l D cA ad hI σ30 τ0 hR) (cwV 0 hts gX12_roll_X12_next rfl rfl rfl (by decide +kernel) ⟨by decide, by decide⟩) (rv_M hK hP (by decide) (by decide)) rfl hl.1 rfl (Nat.le_of_ble_eq_true rfl) dX12_roll_36 (Nat.zero_le _) (Nat.zero_le _) (fun u36 H36 locs36 hp36 hP hS => ?_)
    obtain ⟨σ36, τ36⟩ := u36
    obtain ⟨hR, f36, fL36, hp36_0, hp36_1, hp36_2⟩ : P_X12_next σ30 τ0 σ36 τ36 := hp36
    have hP : va_P D vwCl (gw cA ad σ36 τ36) H36 := hP
    have hFL := hFL.step fL36 (by decide)
    have hF := hF.step f36 (by decide)
    have gMLt := MLt.fr gMLt hR f36 (by decide)
    have t37 : (σ36 387 29).toInt = (σ30 387 29).toInt := congrArg Int32.toInt (f36.at 387 29 (by decide))
    have t38 : (σ36 387 3).toInt = (σ30 387 3).toInt := congrArg Int32.toInt (f36.at 387 3 (by decide))
    have t39 : (σ36 387 2).toInt = (σ30 387 2).toInt := congrArg Int32.toInt (f36.at 387 2 (by decide))
    have t40 : (σ36 387 34).toInt = (σ30 387 34).toInt := congrArg Int32.toInt (f36.at 387 34 (by decide))
    have hr41 := rg_12_4 hR (k := 387) (by decide) (by decide)
    exact K39 σ36 τ36 H36 locs36  ls hR hF hFL hP hS (by omega) (by omega) (by omega) (by omega) (by omega) (by omega) gMLt (lv_sub hl [0, 1] rfl) (by omega)
  · clear hp11_0
    refine r_sipush hx hb dX12_roll_14 (by decide) (fun z42 ez42 => ?_)
    exact r_iret hx hb hr hK hP hS hk dX12_roll_17 (show P_X12_roll σ0 τ0 a1 z42 σ2 τ0 from ⟨hR, hF, hFL, by omega⟩)
