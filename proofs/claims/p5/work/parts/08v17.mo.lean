theorem in_X12_whyLine_12 : ∀ w ∈ u_ws RX12 TX12 47, w ∈ wsX12_whyLine := by decide +kernel
theorem lk_X12_whyLine_33 : Cond.fieldLink RX12 33 "CuckooSharesModel" "s" "[I" ∈ wsX12_whyLine := by decide +kernel
abbrev L_X12_whyLine : List Rc := [(394, 394, 0, 7), (395, 395, 0, 7), (396, 396, 0, 7)]
abbrev LL_X12_whyLine : List Rc := []
def P_X12_whyLine (σ0 : Nat → Nat → Int32) (τ0 : Nat → Nat → Int64) (a1 : Int32) (a2 : Int32) (a3 : Int32) (r : Int32) (σ : Nat → Nat → Int32) (τ : Nat → Nat → Int64) : Prop := Rg σ ∧ Fr L_X12_whyLine σ0 σ ∧ FrL LL_X12_whyLine τ0 τ ∧ (0 ≤ r.toInt ∧ r.toInt ≤ 9) ∧ (r.toInt ≠ 0 ∨ a1.toInt ≠ 0 ∨ (0 ≤ a2.toInt ∧ a2.toInt ≤ 3))
set_option maxHeartbeats 4000000 in
theorem c_X12_whyLine (l : Launch) (D : va_G) (cA : Nat → ClassId) (ad : Nat → Nat) (hI : Inj ad) (σ0 : Nat → Nat → Int32) (τ0 : Nat → Nat → Int64) (hR : Rg σ0) (a1 : Int32) (a2 : Int32) (a3 : Int32) (hpre0 : a1.toInt < 1 ∨ 3 < a1.toInt ∨ (0 ≤ a2.toInt ∧ a2.toInt ≤ 7)) (hpre1 : a1.toInt ≠ 2 ∨ (0 ≤ a3.toInt ∧ a3.toInt ≤ 9)) (hpre2 : a1.toInt ≠ 3 ∨ (0 ≤ a3.toInt ∧ a3.toInt ≤ 7)) : Met l yX12_whyLine wsX12_whyLine ({ frames := 3, cells := 0, slots := 0, locals := 68 } : Room) (WQc D cA ad [.ref (ad 387), .int a1, .int a2, .int a3] σ0 τ0) (va_Qi (fun (r : Int32) (u : SS) => P_X12_whyLine σ0 τ0 a1 a2 a3 r u.1 u.2) (WB D cA ad) (AA ad)) 0 0 (AA ad) := by
  refine Met.ofW (cc := cX12_whyLine) (maxL := 4) (ret := (some .int)) (by decide) rfl ?_
  intro p e s m args below meth c s₁ B hml hv
  obtain ⟨rfl, hP, hK, hN⟩ := hv
  have C : Cy p s m _ meth c cX12_whyLine 4 wsX12_whyLine RX12 D cA ad (some .int) := ⟨B.exec, B.bytes, hml, findClass_of_methodNamed B.named, atoms_spec (ws := wsX12_whyLine) B.pre, hK, B.notSynchronized, B.returns, hI, hN⟩
  have hl := lv_entry ([.ref (ad 387), .int a1, .int a2, .int a3]) (n := 4) (Nat.le_of_ble_eq_true rfl)
  rw [lg_entry_eq]
  generalize (lg_sl ([.ref (ad 387), .int a1, .int a2, .int a3]) ++ List.replicate (4 - (lg_sl ([.ref (ad 387), .int a1, .int a2, .int a3])).length) Slot.unset).toArray = ls at hl ⊢
  have hl : lv_has ls 4 [(0, .ref (ad 387)), (1, .int a1), (2, .int a2), (3, .int a3)] := hl
  have hS : va_S (AA ad) s.heap s.heap [] := va_S.rf
  have hF : Fr L_X12_whyLine σ0 σ0 := Fr.rf
  have hFL : FrL LL_X12_whyLine τ0 τ0 := FrL.rf
  obtain ⟨hx, hb, _, hown, hts, _, hk, hr, _, _⟩ := C
  refine lv_iload_n hx hb dX12_whyLine_0 rfl (lv_at hl 1 rfl) ?_
  by_cases c1 : a1.toInt = 0
  · refine lv_tableIn (off := 35) (tgt := 36) hx hb dX12_whyLine_1 (by omega) (by omega) (by rw [c1]; rfl) (by decide) ?_
    refine lv_aload_n hx hb dX12_whyLine_36 rfl (lv_at hl 0 rfl) ?_
    refine lv_iload_n hx hb dX12_whyLine_37 rfl (lv_at hl 2 rfl) ?_
    refine r_cVi (k := 387) (As := [.int a2]) (rest := []) ⟨hx, hb, hml, hown, hts⟩ hK hP hN hS (c_X12_isFlight l D cA ad hI σ0 τ0 hR a2) (cwV 1 hts gX12_whyLine_X12_isFlight rfl rfl rfl (by decide +kernel) ⟨by decide, by decide⟩) (rv_M hK hP (by decide) (by decide)) rfl hl.1 rfl (Nat.le_of_ble_eq_true rfl) dX12_whyLine_38 (Nat.zero_le _) (Nat.zero_le _) (fun r2 u2 H2 locs2 hp2 hP hS => ?_)
    obtain ⟨σ2, τ2⟩ := u2
    obtain ⟨hR, f2, fL2, hq2, hp2_0, hp2_1⟩ : P_X12_isFlight σ0 τ0 a2 r2 σ2 τ2 := hp2
    have hP : va_P D vwCl (gw cA ad σ2 τ2) H2 := hP
    obtain rfl := FrL.nil fL2
    obtain rfl := Fr.nil f2
    refine r_if_ne (tgt := 49) hx hb dX12_whyLine_41 (by decide) (fun c3 => ?_) (fun c3 => ?_)
    · replace hp2_0 := hp2_0.resolve_left (by omega)
      refine lv_aload_n hx hb dX12_whyLine_49 rfl (lv_at hl 0 rfl) ?_
      refine fg_12_6 (k := 387) hx hb hts in_X12_whyLine_12 hown hK hP (by decide) (by decide) (hts _ lk_X12_whyLine_33) dX12_whyLine_50 ?_
      refine r_sipush hx hb dX12_whyLine_53 (by decide) (fun z4 ez4 => ?_)
      refine ad_ms (k := 389) (j := 212) hx hb hK hP (by decide) (by decide) (by omega) (by omega) dX12_whyLine_56 ?_
      have hr5 := ra_ms_5 hR (k := 389) (j := 212) (by decide) (by decide) (by decide) (by decide)
      refine r_if_le (tgt := 64) hx hb dX12_whyLine_57 (by decide) (fun c6 => ?_) (fun c6 => ?_)
      · refine r_iconst hx hb dX12_whyLine_64 (by decide) (fun z7 ez7 => ?_)
        exact r_iret hx hb hr hK hP hS hk dX12_whyLine_65 (show P_X12_whyLine σ0 τ0 a1 a2 a3 z7 σ0 τ0 from ⟨hR, hF, hFL, by omega, by omega⟩)
      · refine r_iconst hx hb dX12_whyLine_60 (by decide) (fun z8 ez8 => ?_)
        refine lv_goto (tgt := 65) hx hb dX12_whyLine_61 (by decide) ?_
        exact r_iret hx hb hr hK hP hS hk dX12_whyLine_65 (show P_X12_whyLine σ0 τ0 a1 a2 a3 z8 σ0 τ0 from ⟨hR, hF, hFL, by omega, by omega⟩)
    · clear hp2_0
      refine r_bipush hx hb dX12_whyLine_44 (by decide) (fun z9 ez9 => ?_)
      refine lv_goto (tgt := 65) hx hb dX12_whyLine_46 (by decide) ?_
      exact r_iret hx hb hr hK hP hS hk dX12_whyLine_65 (show P_X12_whyLine σ0 τ0 a1 a2 a3 z9 σ0 τ0 from ⟨hR, hF, hFL, by omega, by omega⟩)
  by_cases c10 : a1.toInt = 1
  · refine lv_tableIn (off := 65) (tgt := 66) hx hb dX12_whyLine_1 (by omega) (by omega) (by rw [c10]; rfl) (by decide) ?_
    refine lv_aload_n hx hb dX12_whyLine_66 rfl (lv_at hl 0 rfl) ?_
    refine lv_iload_n hx hb dX12_whyLine_67 rfl (lv_at hl 2 rfl) ?_
    refine lv_iload_n hx hb dX12_whyLine_68 rfl (lv_at hl 3 rfl) ?_
    refine r_cVi (k := 387) (As := [.int a2, .int a3]) (rest := []) ⟨hx, hb, hml, hown, hts⟩ hK hP hN hS (c_X12_whyMove l D cA ad hI σ0 τ0 hR a2 a3 (by omega)) (cwV 2 hts gX12_whyLine_X12_whyMove rfl rfl rfl (by decide +kernel) ⟨by decide, by decide⟩) (rv_M hK hP (by decide) (by decide)) rfl hl.1 rfl (Nat.le_of_ble_eq_true rfl) dX12_whyLine_69 (Nat.zero_le _) (Nat.zero_le _) (fun r11 u11 H11 locs11 hp11 hP hS => ?_)
    obtain ⟨σ11, τ11⟩ := u11
    obtain ⟨hR, f11, fL11, hq11⟩ : P_X12_whyMove σ0 τ0 a2 a3 r11 σ11 τ11 := hp11
    have hP : va_P D vwCl (gw cA ad σ11 τ11) H11 := hP
    obtain rfl := FrL.nil fL11
    obtain rfl := Fr.nil f11
    exact r_iret hx hb hr hK hP hS hk dX12_whyLine_72 (show P_X12_whyLine σ0 τ0 a1 a2 a3 r11 σ0 τ0 from ⟨hR, hF, hFL, by omega, by omega⟩)
  by_cases c12 : a1.toInt = 2
  · refine lv_tableIn (off := 72) (tgt := 73) hx hb dX12_whyLine_1 (by omega) (by omega) (by rw [c12]; rfl) (by decide) ?_
    refine lv_aload_n hx hb dX12_whyLine_73 rfl (lv_at hl 0 rfl) ?_
    refine lv_iload_n hx hb dX12_whyLine_74 rfl (lv_at hl 2 rfl) ?_
    refine lv_iload_n hx hb dX12_whyLine_75 rfl (lv_at hl 3 rfl) ?_
    refine r_cVi (k := 387) (As := [.int a2, .int a3]) (rest := []) ⟨hx, hb, hml, hown, hts⟩ hK hP hN hS (c_X12_whySwear l D cA ad hI σ0 τ0 hR a2 a3 (by omega) (by omega)) (cwV 2 hts gX12_whyLine_X12_whySwear rfl rfl rfl (by decide +kernel) ⟨by decide, by decide⟩) (rv_M hK hP (by decide) (by decide)) rfl hl.1 rfl (Nat.le_of_ble_eq_true rfl) dX12_whyLine_76 (Nat.zero_le _) (Nat.zero_le _) (fun r13 u13 H13 locs13 hp13 hP hS => ?_)
    obtain ⟨σ13, τ13⟩ := u13
    obtain ⟨hR, f13, fL13, hq13⟩ : P_X12_whySwear σ0 τ0 a2 a3 r13 σ13 τ13 := hp13
    have hP : va_P D vwCl (gw cA ad σ13 τ13) H13 := hP
    obtain rfl := FrL.nil fL13
    obtain rfl := Fr.nil f13
    exact r_iret hx hb hr hK hP hS hk dX12_whyLine_79 (show P_X12_whyLine σ0 τ0 a1 a2 a3 r13 σ0 τ0 from ⟨hR, hF, hFL, by omega, by omega⟩)
  by_cases c14 : a1.toInt = 3
  · refine lv_tableIn (off := 79) (tgt := 80) hx hb dX12_whyLine_1 (by omega) (by omega) (by rw [c14]; rfl) (by decide) ?_
    refine lv_iload_n hx hb dX12_whyLine_80 rfl (lv_at hl 2 rfl) ?_
    refine lv_iload_n hx hb dX12_whyLine_81 rfl (lv_at hl 3 rfl) ?_
    refine r_icmp_ne (tgt := 90) hx hb dX12_whyLine_82 (by decide) (fun c15 => ?_) (fun c15 => ?_)
    · refine lv_aload_n hx hb dX12_whyLine_90 rfl (lv_at hl 0 rfl) ?_
      refine lv_iload_n hx hb dX12_whyLine_91 rfl (lv_at hl 2 rfl) ?_
      refine lv_iload_n hx hb dX12_whyLine_92 rfl (lv_at hl 3 rfl) ?_
      refine r_cVi (k := 387) (As := [.int a2, .int a3]) (rest := []) ⟨hx, hb, hml, hown, hts⟩ hK hP hN hS (c_X12_whyAccuse l D cA ad hI σ0 τ0 hR a2 a3 (by omega) (by omega)) (cwV 2 hts gX12_whyLine_X12_whyAccuse rfl rfl rfl (by decide +kernel) ⟨by decide, by decide⟩) (rv_M hK hP (by decide) (by decide)) rfl hl.1 rfl (Nat.le_of_ble_eq_true rfl) dX12_whyLine_93 (Nat.zero_le _) (Nat.zero_le _) (fun r16 u16 H16 locs16 hp16 hP hS => ?_)
      obtain ⟨σ16, τ16⟩ := u16
      obtain ⟨hR, f16, fL16, hq16⟩ : P_X12_whyAccuse σ0 τ0 a2 a3 r16 σ16 τ16 := hp16
      have hP : va_P D vwCl (gw cA ad σ16 τ16) H16 := hP
      obtain rfl := FrL.nil fL16
      have hF := hF.step f16 (by decide)
      exact r_iret hx hb hr hK hP hS hk dX12_whyLine_96 (show P_X12_whyLine σ0 τ0 a1 a2 a3 r16 σ16 τ0 from ⟨hR, hF, hFL, by omega, by omega⟩)
    · refine r_bipush hx hb dX12_whyLine_85 (by decide) (fun z17 ez17 => ?_)
      refine lv_goto (tgt := 96) hx hb dX12_whyLine_87 (by decide) ?_
      exact r_iret hx hb hr hK hP hS hk dX12_whyLine_96 (show P_X12_whyLine σ0 τ0 a1 a2 a3 z17 σ0 τ0 from ⟨hR, hF, hFL, by omega, by omega⟩)
  by_cases c18 : a1.toInt = 4
  · refine lv_tableIn (off := 96) (tgt := 97) hx hb dX12_whyLine_1 (by omega) (by omega) (by rw [c18]; rfl) (by decide) ?_
    refine lv_aload_n hx hb dX12_whyLine_97 rfl (lv_at hl 0 rfl) ?_
    refine r_cVi (k := 387) (As := []) (rest := []) ⟨hx, hb, hml, hown, hts⟩ hK hP hN hS (c_X12_whyShare l D cA ad hI σ0 τ0 hR) (cwV 0 hts gX12_whyLine_X12_whyShare rfl rfl rfl (by decide +kernel) ⟨by decide, by decide⟩) (rv_M hK hP (by decide) (by decide)) rfl hl.1 rfl (Nat.le_of_ble_eq_true rfl) dX12_whyLine_98 (Nat.zero_le _) (Nat.zero_le _) (fun r19 u19 H19 locs19 hp19 hP hS => ?_)
    obtain ⟨σ19, τ19⟩ := u19
    obtain ⟨hR, f19, fL19, hq19⟩ : P_X12_whyShare σ0 τ0 r19 σ19 τ19 := hp19
    have hP : va_P D vwCl (gw cA ad σ19 τ19) H19 := hP
    obtain rfl := FrL.nil fL19
    obtain rfl := Fr.nil f19
    exact r_iret hx hb hr hK hP hS hk dX12_whyLine_101 (show P_X12_whyLine σ0 τ0 a1 a2 a3 r19 σ0 τ0 from ⟨hR, hF, hFL, by omega, by omega⟩)
  refine lv_tableOut (tgt := 102) hx hb dX12_whyLine_1 (by omega) (by decide) ?_
  refine r_iconst hx hb dX12_whyLine_102 (by decide) (fun z20 ez20 => ?_)
  exact r_iret hx hb hr hK hP hS hk dX12_whyLine_103 (show P_X12_whyLine σ0 τ0 a1 a2 a3 z20 σ0 τ0 from ⟨hR, hF, hFL, by omega, by omega⟩)
theorem in_X12_roll_12 : ∀ w ∈ u_ws RX12 TX12 47, w ∈ wsX12_roll := by decide +kernel
theorem lk_X12_roll_1 : Cond.fieldLink RX12 1 "CuckooSharesModel" "thrown" "I" ∈ wsX12_roll := by decide +kernel
theorem lk_X12_roll_159 : Cond.fieldLink RX12 159 "CuckooSharesModel" "token" "I" ∈ wsX12_roll := by decide +kernel
theorem lk_X12_roll_176 : Cond.fieldLink RX12 176 "CuckooSharesModel" "fault" "I" ∈ wsX12_roll := by decide +kernel
theorem lk_X12_roll_179 : Cond.fieldLink RX12 179 "CuckooSharesModel" "faultAt" "I" ∈ wsX12_roll := by decide +kernel
theorem lk_X12_roll_256 : Cond.fieldLink RX12 256 "CuckooSharesModel" "undoMany" "I" ∈ wsX12_roll := by decide +kernel
theorem lk_X12_roll_33 : Cond.fieldLink RX12 33 "CuckooSharesModel" "s" "[I" ∈ wsX12_roll := by decide +kernel
theorem lk_X12_roll_40 : Cond.fieldLink RX12 40 "CuckooSharesModel" "read" "[I" ∈ wsX12_roll := by decide +kernel
theorem lk_X12_roll_416 : Cond.fieldLink RX12 416 "CuckooSharesModel" "told" "I" ∈ wsX12_roll := by decide +kernel
theorem lk_X12_roll_428 : Cond.fieldLink RX12 428 "CuckooSharesModel" "hasRolled" "Z" ∈ wsX12_roll := by decide +kernel
theorem lk_X12_roll_62 : Cond.fieldLink RX12 62 "CuckooSharesModel" "undone" "[I" ∈ wsX12_roll := by decide +kernel
theorem lk_X12_roll_65 : Cond.fieldLink RX12 65 "CuckooSharesModel" "before" "[I" ∈ wsX12_roll := by decide +kernel
theorem lk_X12_roll_68 : Cond.fieldLink RX12 68 "CuckooSharesModel" "rolledAt" "[I" ∈ wsX12_roll := by decide +kernel
abbrev L_X12_roll : List Rc := [(387, 387, 0, 0), (387, 387, 2, 5), (387, 387, 34, 34), (399, 399, 0, 34), (400, 400, 0, 3), (387, 387, 36, 36), (387, 387, 29, 29), (398, 398, 0, 279), (389, 389, 211, 245), (387, 387, 18, 18), (387, 387, 11, 16), (391, 391, 0, 122), (394, 394, 0, 7), (395, 395, 0, 7), (396, 396, 0, 7), (387, 387, 26, 26), (397, 397, 0, 7)]
abbrev LL_X12_roll : List Rc := [(387, 387, 17, 17)]
def P_X12_roll (σ0 : Nat → Nat → Int32) (τ0 : Nat → Nat → Int64) (a1 : Int32) (b : Nat → Int) (N : Nat) (nm : Nat → Int) (hc : Nat) (mm : Nat → Int) (mc : Nat) (r : Int32) (σ : Nat → Nat → Int32) (τ : Nat → Nat → Int64) : Prop := Rg σ ∧ Fr L_X12_roll σ0 σ ∧ FrL LL_X12_roll τ0 τ ∧ (((a1.toInt = 0 ∨ a1.toInt = 1) ∧ (σ 387 2).toInt = 0) ∨ (a1.toInt ≠ 0 ∧ a1.toInt ≠ 1 ∧ (σ 387 2).toInt = (σ0 387 2).toInt)) ∧ ((a1.toInt ≠ 0 ∧ a1.toInt ≠ 1 ∧ (σ 387 15).toInt = (σ0 387 15).toInt) ∨ ((a1.toInt = 0 ∨ a1.toInt = 1) ∧ (σ 387 15).toInt = kndP (rolP b N 400 nm hc mm mc 42 0 (posq b N 400 0)))) ∧ RV τ  ∧ WJ σ τ nm hc ∧ WK σ τ mm mc
def J_X12_roll_39 (p : Program) (l : Launch) (e : Env) (s : State) (m : MethodId) (args : Array Value) (below : List Frame) (meth : Method) (c : Code) (D : va_G) (cA : Nat → ClassId) (ad : Nat → Nat) (σ0 : Nat → Nat → Int32) (τ0 : Nat → Nat → Int64) (a1 : Int32) (b : Nat → Int) (N : Nat) (nm : Nat → Int) (hc : Nat) (mm : Nat → Int) (mc : Nat) (n : Nat) : Prop := ∀ (σ : Nat → Nat → Int32) (τ : Nat → Nat → Int64) (H : Heap) (locs : List Loc) (fu : Nat) (nn : Nat) (q : Nat) (ls : Array Slot), Rg σ → Fr L_X12_roll σ0 σ → FrL LL_X12_roll τ0 τ → va_P D vwCl (gw cA ad σ τ) H → va_S (AA ad) s.heap H locs → (0 ≤ a1.toInt ∧ a1.toInt ≤ 1) → (0 ≤ (σ 387 29).toInt ∧ (σ 387 29).toInt ≤ 8) → (0 ≤ (σ 387 3).toInt ∧ (σ 387 3).toInt ≤ 940) → (0 ≤ (σ 387 2).toInt ∧ (σ 387 2).toInt ≤ 0) → (0 ≤ (σ 387 34).toInt ∧ (σ 387 34).toInt ≤ 40) → (0 ≤ (σ 387 4).toInt ∧ (σ 387 4).toInt ≤ 940) → (rolP b N 400 nm hc mm mc 42 0 (posq b N 400 0) = rolP b N 400 nm hc mm mc fu nn q) → ((σ 387 34).toInt = (nn : Int)) → (fu + nn = 42) → (nn ≤ 40) → ((σ 387 15).toInt = 0) → (RV τ ) → (WJ σ τ nm hc) → (WK σ τ mm mc) → (MLt σ) → (MT σ b N 400) → (MK σ τ b N 400 q) → lv_has ls 7 [(0, .ref (ad 387)), (1, .int a1)] → 20923 * (940 - (σ 387 4).toInt) + 20922 < (n : Int) → W p l e ({ frames := 6, cells := 0, slots := 0, locals := 135 } : Room) s m args below meth c H locs 0 0 (MQ below (va_Qi (fun (r : Int32) (u : SS) => P_X12_roll σ0 τ0 a1 b N nm hc mm mc r u.1 u.2) (WB D cA ad) (AA ad)) args s 0 0 (AA ad)) (F0 m 39 ls [])
def J_X12_roll_89 (p : Program) (l : Launch) (e : Env) (s : State) (m : MethodId) (args : Array Value) (below : List Frame) (meth : Method) (c : Code) (D : va_G) (cA : Nat → ClassId) (ad : Nat → Nat) (σ0 : Nat → Nat → Int32) (τ0 : Nat → Nat → Int64) (a1 : Int32) (b : Nat → Int) (N : Nat) (nm : Nat → Int) (hc : Nat) (mm : Nat → Int) (mc : Nat) (n : Nat) : Prop := ∀ (σ : Nat → Nat → Int32) (τ : Nat → Nat → Int64) (H : Heap) (locs : List Loc) (x2 : Int32) (ls : Array Slot), Rg σ → Fr L_X12_roll σ0 σ → FrL LL_X12_roll τ0 τ → va_P D vwCl (gw cA ad σ τ) H → va_S (AA ad) s.heap H locs → (0 ≤ a1.toInt ∧ a1.toInt ≤ 1) → (0 ≤ x2.toInt ∧ x2.toInt ≤ 4) → (0 ≤ (σ 387 29).toInt ∧ (σ 387 29).toInt ≤ 8) → (0 ≤ (σ 387 3).toInt ∧ (σ 387 3).toInt ≤ 940) → (0 ≤ (σ 387 2).toInt ∧ (σ 387 2).toInt ≤ 0) → (0 ≤ (σ 387 34).toInt ∧ (σ 387 34).toInt ≤ 40) → (0 ≤ (σ 387 4).toInt ∧ (σ 387 4).toInt ≤ 940) → (0 ≤ (σ 387 11).toInt ∧ (σ 387 11).toInt ≤ 0) → ((σ 387 15).toInt = kndP (rolP b N 400 nm hc mm mc 42 0 (posq b N 400 0))) → (RV τ ) → (WJ σ τ nm hc) → (WK σ τ mm mc) → (MLt σ) → lv_has ls 7 [(0, .ref (ad 387)), (1, .int a1), (2, .int x2)] → 3487 * (4 - x2.toInt) + 3486 < (n : Int) → W p l e ({ frames := 6, cells := 0, slots := 0, locals := 135 } : Room) s m args below meth c H locs 0 0 (MQ below (va_Qi (fun (r : Int32) (u : SS) => P_X12_roll σ0 τ0 a1 b N nm hc mm mc r u.1 u.2) (WB D cA ad) (AA ad)) args s 0 0 (AA ad)) (F0 m 89 ls [])
def J_X12_roll_120 (p : Program) (l : Launch) (e : Env) (s : State) (m : MethodId) (args : Array Value) (below : List Frame) (meth : Method) (c : Code) (D : va_G) (cA : Nat → ClassId) (ad : Nat → Nat) (σ0 : Nat → Nat → Int32) (τ0 : Nat → Nat → Int64) (a1 : Int32) (b : Nat → Int) (N : Nat) (nm : Nat → Int) (hc : Nat) (mm : Nat → Int) (mc : Nat) (n : Nat) : Prop := ∀ (σ : Nat → Nat → Int32) (τ : Nat → Nat → Int64) (H : Heap) (locs : List Loc) (x2 : Int32) (x3 : Int32) (x4 : Int32) (ls : Array Slot), Rg σ → Fr L_X12_roll σ0 σ → FrL LL_X12_roll τ0 τ → va_P D vwCl (gw cA ad σ τ) H → va_S (AA ad) s.heap H locs → (0 ≤ a1.toInt ∧ a1.toInt ≤ 1) → (-1 ≤ x3.toInt ∧ x3.toInt ≤ 39) → (0 ≤ x4.toInt ∧ x4.toInt ≤ 40) → (0 ≤ (σ 387 29).toInt ∧ (σ 387 29).toInt ≤ 8) → (0 ≤ (σ 387 3).toInt ∧ (σ 387 3).toInt ≤ 940) → (0 ≤ (σ 387 2).toInt ∧ (σ 387 2).toInt ≤ 0) → (0 ≤ (σ 387 34).toInt ∧ (σ 387 34).toInt ≤ 40) → (0 ≤ (σ 387 4).toInt ∧ (σ 387 4).toInt ≤ 940) → (0 ≤ (σ 387 11).toInt ∧ (σ 387 11).toInt ≤ 0) → ((σ 387 15).toInt = kndP (rolP b N 400 nm hc mm mc 42 0 (posq b N 400 0))) → (RV τ ) → (WJ σ τ nm hc) → (WK σ τ mm mc) → (MLt σ) → lv_has ls 7 [(0, .ref (ad 387)), (1, .int a1), (2, .int x2), (3, .int x3), (4, .int x4)] → 83 * (40 - x4.toInt) + 82 < (n : Int) → W p l e ({ frames := 6, cells := 0, slots := 0, locals := 135 } : Room) s m args below meth c H locs 0 0 (MQ below (va_Qi (fun (r : Int32) (u : SS) => P_X12_roll σ0 τ0 a1 b N nm hc mm mc r u.1 u.2) (WB D cA ad) (AA ad)) args s 0 0 (AA ad)) (F0 m 120 ls [])
def J_X12_roll_300 (p : Program) (l : Launch) (e : Env) (s : State) (m : MethodId) (args : Array Value) (below : List Frame) (meth : Method) (c : Code) (D : va_G) (cA : Nat → ClassId) (ad : Nat → Nat) (σ0 : Nat → Nat → Int32) (τ0 : Nat → Nat → Int64) (a1 : Int32) (b : Nat → Int) (N : Nat) (nm : Nat → Int) (hc : Nat) (mm : Nat → Int) (mc : Nat) (n : Nat) : Prop := ∀ (σ : Nat → Nat → Int32) (τ : Nat → Nat → Int64) (H : Heap) (locs : List Loc) (x2 : Int32) (x3 : Int32) (x4 : Int32) (ls : Array Slot), Rg σ → Fr L_X12_roll σ0 σ → FrL LL_X12_roll τ0 τ → va_P D vwCl (gw cA ad σ τ) H → va_S (AA ad) s.heap H locs → (1 ≤ a1.toInt ∧ a1.toInt ≤ 1) → (-1 ≤ x3.toInt ∧ x3.toInt ≤ 39) → (0 ≤ x4.toInt ∧ x4.toInt ≤ 39) → (0 ≤ (σ 387 3).toInt ∧ (σ 387 3).toInt ≤ 940) → (0 ≤ (σ 387 2).toInt ∧ (σ 387 2).toInt ≤ 0) → (0 ≤ (σ 387 34).toInt ∧ (σ 387 34).toInt ≤ 40) → (0 ≤ (σ 387 4).toInt ∧ (σ 387 4).toInt ≤ 940) → (0 ≤ (σ 387 11).toInt ∧ (σ 387 11).toInt ≤ 0) → (1 ≤ (σ 400 1).toInt) → (1 ≤ (σ 387 29).toInt ∧ (σ 387 29).toInt ≤ 8) → (1 ≤ (σ 387 29).toInt) → ((σ 387 15).toInt = kndP (rolP b N 400 nm hc mm mc 42 0 (posq b N 400 0))) → (RV τ ) → (WJ σ τ nm hc) → (WK σ τ mm mc) → lv_has ls 7 [(0, .ref (ad 387)), (1, .int a1), (2, .int x2), (3, .int x3), (4, .int x4)] → 2 * (39 - x4.toInt) + 1 < (n : Int) → W p l e ({ frames := 6, cells := 0, slots := 0, locals := 135 } : Room) s m args below meth c H locs 0 0 (MQ below (va_Qi (fun (r : Int32) (u : SS) => P_X12_roll σ0 τ0 a1 b N nm hc mm mc r u.1 u.2) (WB D cA ad) (AA ad)) args s 0 0 (AA ad)) (F0 m 300 ls [])
set_option maxHeartbeats 4000000 in
theorem B_X12_roll_39 (p : Program) (l : Launch) (e : Env) (s : State) (m : MethodId) (args : Array Value) (below : List Frame) (meth : Method) (c : Code) (D : va_G) (cA : Nat → ClassId) (ad : Nat → Nat) (σ0 : Nat → Nat → Int32) (τ0 : Nat → Nat → Int64) (a1 : Int32) (b : Nat → Int) (N : Nat) (nm : Nat → Int) (hc : Nat) (mm : Nat → Int) (mc : Nat) (n : Nat) (C : Cy p s m args meth c cX12_roll 7 wsX12_roll RX12 D cA ad (some .int)) (hpre0 : (σ0 387 2).toInt = (N : Int) ∧ N ≤ 940 ∧ ∀ j : Nat, j < N → bM σ0 j = b j) (gRV0 : RV τ0 ) (gWJ0 : WJ σ0 τ0 nm hc) (gWK0 : WK σ0 τ0 mm mc) (K39 : J_X12_roll_39 p l e s m args below meth c D cA ad σ0 τ0 a1 b N nm hc mm mc n) (K89 : J_X12_roll_89 p l e s m args below meth c D cA ad σ0 τ0 a1 b N nm hc mm mc n) (K120 : J_X12_roll_120 p l e s m args below meth c D cA ad σ0 τ0 a1 b N nm hc mm mc n) (K300 : J_X12_roll_300 p l e s m args below meth c D cA ad σ0 τ0 a1 b N nm hc mm mc n) : J_X12_roll_39 p l e s m args below meth c D cA ad σ0 τ0 a1 b N nm hc mm mc (n + 1) := by
  obtain ⟨hx, hb, hml, hown, hts, hK, hk, hr, hI, hN⟩ := C
  intro σ τ H locs fu nn q ls hR hF hFL hP hS hc0 hc1 hc2 hc3 hc4 hc5 irq itn ifu in4 iz15 gRV gWJ gWK gMLt gMT gMK hl hm
  have hkd := gMK.kd
  refine lv_aload_n hx hb dX12_roll_39 rfl (lv_at hl 0 rfl) ?_
  refine fg_12_11 (k := 387) hx hb hts in_X12_roll_12 hown hK hP (by decide) (by decide) (hts _ lk_X12_roll_159) dX12_roll_40 ?_
  refine r_if_eq (tgt := 83) hx hb dX12_roll_43 (by decide) (fun c1 => ?_) (fun c1 => ?_)
  · have hkz := kndP_r (show rolP b N 400 nm hc mm mc 42 0 (posq b N 400 0) = .inr nn by rw [irq, rolP_e (by omega)])
    refine lv_aload_n hx hb dX12_roll_83 rfl (lv_at hl 0 rfl) ?_
    refine r_cVv (k := 387) (As := []) (rest := []) ⟨hx, hb, hml, hown, hts⟩ hK hP hN hS (c_X12_tries l D cA ad hI σ τ hR) (cwV 0 hts gX12_roll_X12_tries rfl rfl rfl (by decide +kernel) ⟨by decide, by decide⟩) (rv_M hK hP (by decide) (by decide)) rfl hl.1 rfl (Nat.le_of_ble_eq_true rfl) dX12_roll_84 (Nat.zero_le _) (Nat.zero_le _) (fun u2 H2 locs2 hp2 hP hS => ?_)
    obtain ⟨σ2, τ2⟩ := u2
    obtain ⟨hR, f2, fL2⟩ : P_X12_tries σ τ σ2 τ2 := hp2
    have hP : va_P D vwCl (gw cA ad σ2 τ2) H2 := hP
    obtain rfl := FrL.nil fL2
    have hF := hF.step f2 (by decide)
    have gMK := gMK.ag (Agr.fr f2 (by decide))
    have gMLt := MLt.fr gMLt hR f2 (by decide)
    have gMT := gMT.ag (Agr.fr f2 (by decide))
    have gWJ := gWJ.ag (Agr.fr f2 (by decide))
    have gWK := gWK.ag (Agr.fr f2 (by decide))
    have t3 : (σ2 387 29).toInt = (σ 387 29).toInt := congrArg Int32.toInt (f2.at 387 29 (by decide))
    have t4 : (σ2 387 3).toInt = (σ 387 3).toInt := congrArg Int32.toInt (f2.at 387 3 (by decide))
    have t5 : (σ2 387 2).toInt = (σ 387 2).toInt := congrArg Int32.toInt (f2.at 387 2 (by decide))
    have t6 : (σ2 387 15).toInt = (σ 387 15).toInt := congrArg Int32.toInt (f2.at 387 15 (by decide))
    have t7 : (σ2 387 34).toInt = (σ 387 34).toInt := congrArg Int32.toInt (f2.at 387 34 (by decide))
    have t8 : (σ2 387 4).toInt = (σ 387 4).toInt := congrArg Int32.toInt (f2.at 387 4 (by decide))
    have t9 : (σ2 387 11).toInt = (σ 387 11).toInt := congrArg Int32.toInt (f2.at 387 11 (by decide))
    refine r_iconst hx hb dX12_roll_87 (by decide) (fun z10 ez10 => ?_)
    refine lv_istore_n (lv' := [(2, .int z10), (0, .ref (ad 387)), (1, .int a1)]) hx hb dX12_roll_88 rfl hl (by decide) rfl (fun ls hl => ?_)
    exact K89 σ2 τ H2 locs2 z10 ls hR hF hFL hP hS (by omega) (by omega) (by omega) (by omega) (by omega) (by omega) (by omega) (by omega) (by omega) gRV gWJ gWK gMLt (lv_sub hl [1, 2, 0] rfl) (by omega)
  · refine lv_aload_n hx hb dX12_roll_46 rfl (lv_at hl 0 rfl) ?_
    refine r_cVi (k := 387) (As := []) (rest := []) ⟨hx, hb, hml, hown, hts⟩ hK hP hN hS (c_X12_rollLine l D cA ad hI σ τ hR b N 400 q nm hc mm mc nn (by omega) (by omega) gMT gMK gRV gWJ gWK) (cwV 0 hts gX12_roll_X12_rollLine rfl rfl rfl (by decide +kernel) ⟨by decide, by decide⟩) (rv_M hK hP (by decide) (by decide)) rfl hl.1 rfl (Nat.le_of_ble_eq_true rfl) dX12_roll_47 (Nat.zero_le _) (Nat.zero_le _) (fun r11 u11 H11 locs11 hp11 hP hS => ?_)
    obtain ⟨σ11, τ11⟩ := u11
    obtain ⟨hR, f11, fL11, hq11, hp11_0, hp11_1, hp11_2, hp11_3, hp11_4, gnMT, gnRV, gnWJ, gnWK⟩ : P_X12_rollLine σ τ b N 400 q nm hc mm mc nn r11 σ11 τ11 := hp11
    have rl := hp11_2
    have o1 := hp11_3
    have hP : va_P D vwCl (gw cA ad σ11 τ11) H11 := hP
    have hFL := hFL.step fL11 (by decide)
    have gRV := gRV.agL (AgrL.fr fL11 (by decide))
    have gWJ := gWJ.agL (AgrL.fr fL11 (by decide))
    have gWK := gWK.agL (AgrL.fr fL11 (by decide))
    have hF := hF.step f11 (by decide)
    have gMT := gMT.ag (Agr.fr f11 (by decide))
    have gWJ := gWJ.ag (Agr.fr f11 (by decide))
    have gWK := gWK.ag (Agr.fr f11 (by decide))
    have t12 : (σ11 387 29).toInt = (σ 387 29).toInt := congrArg Int32.toInt (f11.at 387 29 (by decide))
    have t13 : (σ11 387 3).toInt = (σ 387 3).toInt := congrArg Int32.toInt (f11.at 387 3 (by decide))
    have t14 : (σ11 387 2).toInt = (σ 387 2).toInt := congrArg Int32.toInt (f11.at 387 2 (by decide))
    have t15 : (σ11 387 34).toInt = (σ 387 34).toInt := congrArg Int32.toInt (f11.at 387 34 (by decide))
    have hr16 := rg_12_4 hR (k := 387) (by decide) (by decide)
    refine r_if_eq (tgt := 62) hx hb dX12_roll_50 (by decide) (fun c17 => ?_) (fun c17 => ?_)
    · clear hp11_1 hp11_2 hp11_4
      refine r_bipush hx hb dX12_roll_62 (by decide) (fun z18 ez18 => ?_)
      refine lv_aload_n hx hb dX12_roll_64 rfl (lv_at hl 0 rfl) ?_
      refine fg_12_16 (k := 387) hx hb hts in_X12_roll_12 hown hK hP (by decide) (by decide) (hts _ lk_X12_roll_179) dX12_roll_65 ?_
      refine r_isubU hx hb dX12_roll_68 (fun z19 => ?_)
      exact r_iret hx hb hr hK hP hS hk dX12_roll_69 (show P_X12_roll σ0 τ0 a1 b N nm hc mm mc z19 σ11 τ11 from ⟨hR, hF, hFL, by omega, by first | exact Or.inl ⟨by omega, by omega, by omega⟩ | exact Or.inr ⟨by omega, by omega⟩ | (obtain ⟨f, e1, x1, x2⟩ := o1.no (by omega); exact Or.inr ⟨by omega, by rw [kndP_l (f := f) (by rw [irq, rolP_f (by omega) (by omega) e1])]; omega⟩) | (obtain ⟨f, e2, x1, x2⟩ := o2.no (by omega); exact Or.inr ⟨by omega, by rw [kndP_l (f := f) (by rw [irq, rolP_t (by omega) (by omega) e1 e2])]; omega⟩), gRV, gWJ, gWK⟩)
    · replace hp11_1 := hp11_1.resolve_left (by omega)
      replace hp11_2 := hp11_2.resolve_left (by omega)
      replace hp11_4 := hp11_4.resolve_left (by omega)
      obtain ⟨q1, e1, gMK⟩ := o1.ye (by omega)
      have hlt := rol_lt e1
      refine lv_aload_n hx hb dX12_roll_53 rfl (lv_at hl 0 rfl) ?_
      refine r_bipush hx hb dX12_roll_54 (by decide) (fun z20 ez20 => ?_)
      refine r_cVi (k := 387) (As := [.int z20]) (rest := []) ⟨hx, hb, hml, hown, hts⟩ hK hP hN hS (c_X12_sign_v l D cA ad hI σ11 τ11 hR z20 b N 400 _ (by omega) (by omega) gMT gMK) (cwV 1 hts gX12_roll_X12_sign rfl rfl rfl (by decide +kernel) ⟨by decide, by decide⟩) (rv_M hK hP (by decide) (by decide)) rfl hl.1 rfl (Nat.le_of_ble_eq_true rfl) dX12_roll_56 (Nat.zero_le _) (Nat.zero_le _) (fun r21 u21 H21 locs21 hp21 hP hS => ?_)
      obtain ⟨σ21, τ21⟩ := u21
      obtain ⟨hR, f21, fL21, hq21, hp21_0, hp21_1, hp21_2, hp21_3, gnMT⟩ : P_X12_sign_v σ11 τ11 z20 b N 400 _ r21 σ21 τ21 := hp21
      have o2 := hp21_2
      have fs := f21
      have hP : va_P D vwCl (gw cA ad σ21 τ21) H21 := hP
      have hFL := hFL.step fL21 (by decide)
      have gRV := gRV.agL (AgrL.fr fL21 (by decide))
      have gWJ := gWJ.agL (AgrL.fr fL21 (by decide))
      have gWK := gWK.agL (AgrL.fr fL21 (by decide))
      have hF := hF.step f21 (by decide)
      have gMT := gMT.ag (Agr.fr f21 (by decide))
      have gWJ := gWJ.ag (Agr.fr f21 (by decide))
      have gWK := gWK.ag (Agr.fr f21 (by decide))
      have t22 : (σ21 387 29).toInt = (σ11 387 29).toInt := congrArg Int32.toInt (f21.at 387 29 (by decide))
      have t23 : (σ21 387 3).toInt = (σ11 387 3).toInt := congrArg Int32.toInt (f21.at 387 3 (by decide))
      have t24 : (σ21 387 2).toInt = (σ11 387 2).toInt := congrArg Int32.toInt (f21.at 387 2 (by decide))
      have t25 : (σ21 387 34).toInt = (σ11 387 34).toInt := congrArg Int32.toInt (f21.at 387 34 (by decide))
      have hr26 := rg_12_4 hR (k := 387) (by decide) (by decide)
      refine r_if_ne (tgt := 70) hx hb dX12_roll_59 (by decide) (fun c27 => ?_) (fun c27 => ?_)
      · replace hp21_1 := hp21_1.resolve_left (by omega)
        replace hp21_3 := hp21_3.resolve_left (by omega)
        obtain ⟨q2, e2, gMK⟩ := o2.ye (by omega)
        refine lv_aload_n hx hb dX12_roll_70 rfl (lv_at hl 0 rfl) ?_
        refine lv_dup hx hb dX12_roll_71 rfl ?_
        refine fg_12_34 (k := 387) hx hb hts in_X12_roll_12 hown hK hP (by decide) (by decide) (hts _ lk_X12_roll_416) dX12_roll_72 ?_
        refine r_iconst hx hb dX12_roll_75 (by decide) (fun z28 ez28 => ?_)
        refine r_iadd hx hb dX12_roll_76 (by omega) (fun z29 ez29 => ?_)
        refine fp_12_34 (k := 387) hx hb hts in_X12_roll_12 hown hK hP (by decide) (by decide) (hts _ lk_X12_roll_416) hI hR hS (by omega) dX12_roll_77 (fun σ30 H30 locs30 u30 v30 hR hP hS => ?_)
        have un := u30
        have vn := v30
        have hF := hF.puts u30 2 rfl (by decide) (by decide) (by decide) (by decide)
        have gMK := gMK.ag (Agr.put u30 (by decide))
        have gMT := gMT.ag (Agr.put u30 (by decide))
        have gWJ := gWJ.ag (Agr.put u30 (by decide))
        have gWK := gWK.ag (Agr.put u30 (by decide))
        have t31 : (σ30 387 29).toInt = (σ21 387 29).toInt := congrArg Int32.toInt (u30 387 29 (by omega))
        have t32 : (σ30 387 3).toInt = (σ21 387 3).toInt := congrArg Int32.toInt (u30 387 3 (by omega))
        have t33 : (σ30 387 2).toInt = (σ21 387 2).toInt := congrArg Int32.toInt (u30 387 2 (by omega))
        have t34 : (σ30 387 4).toInt = (σ21 387 4).toInt := congrArg Int32.toInt (u30 387 4 (by omega))
        have t35 : (σ30 387 11).toInt = (σ21 387 11).toInt := congrArg Int32.toInt (u30 387 11 (by omega))
        have t36 : (σ30 387 15).toInt = (σ21 387 15).toInt := congrArg Int32.toInt (u30 387 15 (by omega))
        have gMLt := MLt.step gMLt (by omega) (by omega) (rl.resolve_left (by omega)).2 fs (by decide) un (by omega)
        refine lv_goto (tgt := 39) hx hb dX12_roll_80 (by decide) ?_
        exact K39 σ30 τ21 H30 locs30 (fu - 1) (nn + 1) _ ls hR hF hFL hP hS (by omega) (by omega) (by omega) (by omega) (by omega) (by omega) (by first | rfl | rw [irq, rolP_s (by omega) (by omega) e1 e2]) (by omega) (by omega) (by omega) (by omega) gRV gWJ gWK gMLt gMT gMK (lv_sub hl [0, 1] rfl) (by omega)
      · clear hp21_1 hp21_3
        refine r_bipush hx hb dX12_roll_62 (by decide) (fun z37 ez37 => ?_)
        refine lv_aload_n hx hb dX12_roll_64 rfl (lv_at hl 0 rfl) ?_
        refine fg_12_16 (k := 387) hx hb hts in_X12_roll_12 hown hK hP (by decide) (by decide) (hts _ lk_X12_roll_179) dX12_roll_65 ?_
        refine r_isubU hx hb dX12_roll_68 (fun z38 => ?_)
        exact r_iret hx hb hr hK hP hS hk dX12_roll_69 (show P_X12_roll σ0 τ0 a1 b N nm hc mm mc z38 σ21 τ21 from ⟨hR, hF, hFL, by omega, by first | exact Or.inl ⟨by omega, by omega, by omega⟩ | exact Or.inr ⟨by omega, by omega⟩ | (obtain ⟨f, e1, x1, x2⟩ := o1.no (by omega); exact Or.inr ⟨by omega, by rw [kndP_l (f := f) (by rw [irq, rolP_f (by omega) (by omega) e1])]; omega⟩) | (obtain ⟨f, e2, x1, x2⟩ := o2.no (by omega); exact Or.inr ⟨by omega, by rw [kndP_l (f := f) (by rw [irq, rolP_t (by omega) (by omega) e1 e2])]; omega⟩), gRV, gWJ, gWK⟩)
set_option maxHeartbeats 4000000 in
theorem B_X12_roll_89 (p : Program) (l : Launch) (e : Env) (s : State) (m : MethodId) (args : Array Value) (below : List Frame) (meth : Method) (c : Code) (D : va_G) (cA : Nat → ClassId) (ad : Nat → Nat) (σ0 : Nat → Nat → Int32) (τ0 : Nat → Nat → Int64) (a1 : Int32) (b : Nat → Int) (N : Nat) (nm : Nat → Int) (hc : Nat) (mm : Nat → Int) (mc : Nat) (n : Nat) (C : Cy p s m args meth c cX12_roll 7 wsX12_roll RX12 D cA ad (some .int)) (hpre0 : (σ0 387 2).toInt = (N : Int) ∧ N ≤ 940 ∧ ∀ j : Nat, j < N → bM σ0 j = b j) (gRV0 : RV τ0 ) (gWJ0 : WJ σ0 τ0 nm hc) (gWK0 : WK σ0 τ0 mm mc) (K39 : J_X12_roll_39 p l e s m args below meth c D cA ad σ0 τ0 a1 b N nm hc mm mc n) (K89 : J_X12_roll_89 p l e s m args below meth c D cA ad σ0 τ0 a1 b N nm hc mm mc n) (K120 : J_X12_roll_120 p l e s m args below meth c D cA ad σ0 τ0 a1 b N nm hc mm mc n) (K300 : J_X12_roll_300 p l e s m args below meth c D cA ad σ0 τ0 a1 b N nm hc mm mc n) : J_X12_roll_89 p l e s m args below meth c D cA ad σ0 τ0 a1 b N nm hc mm mc (n + 1) := by
  obtain ⟨hx, hb, hml, hown, hts, hK, hk, hr, hI, hN⟩ := C
  intro σ τ H locs x2 ls hR hF hFL hP hS hc0 hc1 hc2 hc3 hc4 hc5 hc6 hc7 ikr gRV gWJ gWK gMLt hl hm
  refine lv_iload_n hx hb dX12_roll_89 rfl (lv_at hl 2 rfl) ?_
  refine r_iconst hx hb dX12_roll_90 (by decide) (fun z1 ez1 => ?_)
  refine r_icmp_ge (tgt := 107) hx hb dX12_roll_91 (by decide) (fun c2 => ?_) (fun c2 => ?_)
  · refine lv_aload_n hx hb dX12_roll_107 rfl (lv_at hl 0 rfl) ?_
    refine r_sipush hx hb dX12_roll_108 (by decide) (fun z3 ez3 => ?_)
    refine r_cVi (k := 387) (As := [.int z3]) (rest := []) ⟨hx, hb, hml, hown, hts⟩ hK hP hN hS (c_X12_sum l D cA ad hI σ τ hR z3 (by omega)) (cwV 1 hts gX12_roll_X12_sum rfl rfl rfl (by decide +kernel) ⟨by decide, by decide⟩) (rv_M hK hP (by decide) (by decide)) rfl hl.1 rfl (Nat.le_of_ble_eq_true rfl) dX12_roll_111 (Nat.zero_le _) (Nat.zero_le _) (fun r4 u4 H4 locs4 hp4 hP hS => ?_)
    obtain ⟨σ4, τ4⟩ := u4
    obtain ⟨hR, f4, fL4⟩ : P_X12_sum σ τ z3 r4 σ4 τ4 := hp4
    have hP : va_P D vwCl (gw cA ad σ4 τ4) H4 := hP
    obtain rfl := FrL.nil fL4
    obtain rfl := Fr.nil f4
    refine lv_istore_n (lv' := [(2, .int r4), (0, .ref (ad 387)), (1, .int a1)]) hx hb dX12_roll_114 rfl hl (by decide) rfl (fun ls hl => ?_)
    refine r_iconst hx hb dX12_roll_115 (by decide) (fun z5 ez5 => ?_)
    refine lv_istore_n (lv' := [(3, .int z5), (2, .int r4), (0, .ref (ad 387)), (1, .int a1)]) hx hb dX12_roll_116 rfl hl (by decide) rfl (fun ls hl => ?_)
    refine r_iconst hx hb dX12_roll_117 (by decide) (fun z6 ez6 => ?_)
    refine lv_istore (lv' := [(4, .int z6), (3, .int z5), (2, .int r4), (0, .ref (ad 387)), (1, .int a1)]) hx hb dX12_roll_118 hl (by decide) rfl (fun ls hl => ?_)
    exact K120 σ τ H4 locs4 r4 z5 z6 ls hR hF hFL hP hS (by omega) (by omega) (by omega) (by omega) (by omega) (by omega) (by omega) (by omega) (by omega) (by omega) gRV gWJ gWK gMLt (lv_sub hl [3, 4, 2, 1, 0] rfl) (by omega)
  · refine lv_aload_n hx hb dX12_roll_94 rfl (lv_at hl 0 rfl) ?_
    refine fg_12_35 (k := 387) hx hb hts in_X12_roll_12 hown hK hP (by decide) (by decide) (hts _ lk_X12_roll_68) dX12_roll_95 ?_
    refine lv_iload_n hx hb dX12_roll_98 rfl (lv_at hl 2 rfl) ?_
    refine r_iconst hx hb dX12_roll_99 (by decide) (fun z7 ez7 => ?_)
    obtain ⟨j8, ej8⟩ : ∃ j : Nat, x2.toInt = (j : Int) := ⟨_, ti_nat (by omega)⟩
    refine as_mrolled (k := 400) (j := j8) hx hb hK hP hI hR hS (by decide) (by decide) ej8 (by omega) dX12_roll_100 (fun σ9 H9 locs9 u9 v9 hR hP hS => ?_)
    have hF := hF.puts u9 4 rfl (by decide) (by decide) (by omega) (by omega)
    have gMLt := MLt.putV gMLt hR u9 (by intro q hq; simp only [Gd_MLt, List.mem_cons, List.not_mem_nil, or_false] at hq; rcases hq with rfl | rfl <;> dsimp only [inRc] <;> omega)
    have gWJ := gWJ.ag (Agr.putV u9 (by intro q hq; simp only [Gd_WJ, List.mem_cons, List.not_mem_nil, or_false] at hq; rcases hq with rfl <;> dsimp only [inRc] <;> omega))
    have gWK := gWK.ag (Agr.putV u9 (by intro q hq; simp only [Gd_WK, List.mem_cons, List.not_mem_nil, or_false] at hq; rcases hq with rfl <;> dsimp only [inRc] <;> omega))
    have t10 : (σ9 387 29).toInt = (σ 387 29).toInt := congrArg Int32.toInt (u9 387 29 (by omega))
    have t11 : (σ9 387 3).toInt = (σ 387 3).toInt := congrArg Int32.toInt (u9 387 3 (by omega))
    have t12 : (σ9 387 2).toInt = (σ 387 2).toInt := congrArg Int32.toInt (u9 387 2 (by omega))
    have t13 : (σ9 387 15).toInt = (σ 387 15).toInt := congrArg Int32.toInt (u9 387 15 (by omega))
    have t14 : (σ9 387 34).toInt = (σ 387 34).toInt := congrArg Int32.toInt (u9 387 34 (by omega))
    have t15 : (σ9 387 4).toInt = (σ 387 4).toInt := congrArg Int32.toInt (u9 387 4 (by omega))
    have t16 : (σ9 387 11).toInt = (σ 387 11).toInt := congrArg Int32.toInt (u9 387 11 (by omega))
    refine r_iinc (k := 2) (lv1 := fun z17 => [(2, .int z17), (0, .ref (ad 387)), (1, .int a1)]) hx hb dX12_roll_101 hl rfl (by decide) (fun _ => rfl) (by decide) (by omega) (fun z17 ls ez17 hl => ?_)
    refine lv_goto (tgt := 89) hx hb dX12_roll_104 (by decide) ?_
    exact K89 σ9 τ H9 locs9 z17 ls hR hF hFL hP hS (by omega) (by omega) (by omega) (by omega) (by omega) (by omega) (by omega) (by omega) (by omega) gRV gWJ gWK gMLt (lv_sub hl [1, 2, 0] rfl) (by omega)
set_option maxHeartbeats 4000000 in
theorem B_X12_roll_120 (p : Program) (l : Launch) (e : Env) (s : State) (m : MethodId) (args : Array Value) (below : List Frame) (meth : Method) (c : Code) (D : va_G) (cA : Nat → ClassId) (ad : Nat → Nat) (σ0 : Nat → Nat → Int32) (τ0 : Nat → Nat → Int64) (a1 : Int32) (b : Nat → Int) (N : Nat) (nm : Nat → Int) (hc : Nat) (mm : Nat → Int) (mc : Nat) (n : Nat) (C : Cy p s m args meth c cX12_roll 7 wsX12_roll RX12 D cA ad (some .int)) (hpre0 : (σ0 387 2).toInt = (N : Int) ∧ N ≤ 940 ∧ ∀ j : Nat, j < N → bM σ0 j = b j) (gRV0 : RV τ0 ) (gWJ0 : WJ σ0 τ0 nm hc) (gWK0 : WK σ0 τ0 mm mc) (K39 : J_X12_roll_39 p l e s m args below meth c D cA ad σ0 τ0 a1 b N nm hc mm mc n) (K89 : J_X12_roll_89 p l e s m args below meth c D cA ad σ0 τ0 a1 b N nm hc mm mc n) (K120 : J_X12_roll_120 p l e s m args below meth c D cA ad σ0 τ0 a1 b N nm hc mm mc n) (K300 : J_X12_roll_300 p l e s m args below meth c D cA ad σ0 τ0 a1 b N nm hc mm mc n) : J_X12_roll_120 p l e s m args below meth c D cA ad σ0 τ0 a1 b N nm hc mm mc (n + 1) := by
  obtain ⟨hx, hb, hml, hown, hts, hK, hk, hr, hI, hN⟩ := C
  intro σ τ H locs x2 x3 x4 ls hR hF hFL hP hS hc0 hc1 hc2 hc3 hc4 hc5 hc6 hc7 hc8 ikr gRV gWJ gWK gMLt hl hm
  refine lv_iload hx hb dX12_roll_120 (lv_at hl 4 rfl) ?_
  refine lv_aload_n hx hb dX12_roll_122 rfl (lv_at hl 0 rfl) ?_
  refine fg_12_34 (k := 387) hx hb hts in_X12_roll_12 hown hK hP (by decide) (by decide) (hts _ lk_X12_roll_416) dX12_roll_123 ?_
  refine r_icmp_ge (tgt := 245) hx hb dX12_roll_126 (by decide) (fun c1 => ?_) (fun c1 => ?_)
  · refine lv_aload_n hx hb dX12_roll_245 rfl (lv_at hl 0 rfl) ?_
    refine fg_12_35 (k := 387) hx hb hts in_X12_roll_12 hown hK hP (by decide) (by decide) (hts _ lk_X12_roll_68) dX12_roll_246 ?_
    refine r_iconst hx hb dX12_roll_249 (by decide) (fun z2 ez2 => ?_)
    refine lv_aload_n hx hb dX12_roll_250 rfl (lv_at hl 0 rfl) ?_
    refine fg_12_6 (k := 387) hx hb hts in_X12_roll_12 hown hK hP (by decide) (by decide) (hts _ lk_X12_roll_33) dX12_roll_251 ?_
    refine r_sipush hx hb dX12_roll_254 (by decide) (fun z3 ez3 => ?_)
    refine ad_ms (k := 389) (j := 211) hx hb hK hP (by decide) (by decide) (by omega) (by omega) dX12_roll_257 ?_
    refine as_mrolled (k := 400) (j := 2) hx hb hK hP hI hR hS (by decide) (by decide) (by omega) (by omega) dX12_roll_258 (fun σ4 H4 locs4 u4 v4 hR hP hS => ?_)
    have hF := hF.puts u4 4 rfl (by decide) (by decide) (by decide) (by decide)
    have gMLt := MLt.put gMLt hR u4 (by decide)
    have gWJ := gWJ.ag (Agr.put u4 (by decide))
    have gWK := gWK.ag (Agr.put u4 (by decide))
    have t5 : (σ4 387 29).toInt = (σ 387 29).toInt := congrArg Int32.toInt (u4 387 29 (by omega))
    have t6 : (σ4 387 3).toInt = (σ 387 3).toInt := congrArg Int32.toInt (u4 387 3 (by omega))
    have t7 : (σ4 387 2).toInt = (σ 387 2).toInt := congrArg Int32.toInt (u4 387 2 (by omega))
    have t8 : (σ4 387 15).toInt = (σ 387 15).toInt := congrArg Int32.toInt (u4 387 15 (by omega))
    have t9 : (σ4 387 34).toInt = (σ 387 34).toInt := congrArg Int32.toInt (u4 387 34 (by omega))
    have t10 : (σ4 387 4).toInt = (σ 387 4).toInt := congrArg Int32.toInt (u4 387 4 (by omega))
    have t11 : (σ4 387 11).toInt = (σ 387 11).toInt := congrArg Int32.toInt (u4 387 11 (by omega))
    have t12 : (σ4 389 211).toInt = (σ 389 211).toInt := congrArg Int32.toInt (u4 389 211 (by omega))
    refine lv_aload_n hx hb dX12_roll_259 rfl (lv_at hl 0 rfl) ?_
    refine fg_12_35 (k := 387) hx hb hts in_X12_roll_12 hown hK hP (by decide) (by decide) (hts _ lk_X12_roll_68) dX12_roll_260 ?_
    refine r_iconst hx hb dX12_roll_263 (by decide) (fun z13 ez13 => ?_)
    refine lv_aload_n hx hb dX12_roll_264 rfl (lv_at hl 0 rfl) ?_
    refine r_sipush hx hb dX12_roll_265 (by decide) (fun z14 ez14 => ?_)
    refine r_cVi (k := 387) (As := [.int z14]) (rest := [.int z13, .ref (ad 400)]) ⟨hx, hb, hml, hown, hts⟩ hK hP hN hS (c_X12_sum l D cA ad hI σ4 τ hR z14 (by omega)) (cwV 1 hts gX12_roll_X12_sum rfl rfl rfl (by decide +kernel) ⟨by decide, by decide⟩) (rv_M hK hP (by decide) (by decide)) rfl hl.1 rfl (Nat.le_of_ble_eq_true rfl) dX12_roll_268 (Nat.zero_le _) (Nat.zero_le _) (fun r15 u15 H15 locs15 hp15 hP hS => ?_)
    obtain ⟨σ15, τ15⟩ := u15
    obtain ⟨hR, f15, fL15⟩ : P_X12_sum σ4 τ z14 r15 σ15 τ15 := hp15
    have hP : va_P D vwCl (gw cA ad σ15 τ15) H15 := hP
    obtain rfl := FrL.nil fL15
    obtain rfl := Fr.nil f15
    refine lv_iload_n hx hb dX12_roll_271 rfl (lv_at hl 2 rfl) ?_
    refine r_isubU hx hb dX12_roll_272 (fun z16 => ?_)
    refine as_mrolled (k := 400) (j := 3) hx hb hK hP hI hR hS (by decide) (by decide) (by omega) (by omega) dX12_roll_273 (fun σ17 H17 locs17 u17 v17 hR hP hS => ?_)
    have hF := hF.puts u17 4 rfl (by decide) (by decide) (by decide) (by decide)
    have gMLt := MLt.put gMLt hR u17 (by decide)
    have gWJ := gWJ.ag (Agr.put u17 (by decide))
    have gWK := gWK.ag (Agr.put u17 (by decide))
    have t18 : (σ17 387 29).toInt = (σ4 387 29).toInt := congrArg Int32.toInt (u17 387 29 (by omega))
    have t19 : (σ17 387 3).toInt = (σ4 387 3).toInt := congrArg Int32.toInt (u17 387 3 (by omega))
    have t20 : (σ17 387 2).toInt = (σ4 387 2).toInt := congrArg Int32.toInt (u17 387 2 (by omega))
    have t21 : (σ17 387 15).toInt = (σ4 387 15).toInt := congrArg Int32.toInt (u17 387 15 (by omega))
    have t22 : (σ17 387 34).toInt = (σ4 387 34).toInt := congrArg Int32.toInt (u17 387 34 (by omega))
    have t23 : (σ17 387 4).toInt = (σ4 387 4).toInt := congrArg Int32.toInt (u17 387 4 (by omega))
    have t24 : (σ17 387 11).toInt = (σ4 387 11).toInt := congrArg Int32.toInt (u17 387 11 (by omega))
    have t25 : (σ17 389 211).toInt = (σ4 389 211).toInt := congrArg Int32.toInt (u17 389 211 (by omega))
    have t26 : (σ17 400 2).toInt = (σ4 400 2).toInt := congrArg Int32.toInt (u17 400 2 (by omega))
    refine lv_aload_n hx hb dX12_roll_274 rfl (lv_at hl 0 rfl) ?_
    refine r_iconst hx hb dX12_roll_275 (by decide) (fun z27 ez27 => ?_)
    refine fp_12_36 (k := 387) hx hb hts in_X12_roll_12 hown hK hP (by decide) (by decide) (hts _ lk_X12_roll_428) hI hR hS (by omega) dX12_roll_276 (fun σ28 H28 locs28 u28 v28 hR hP hS => ?_)
    have hF := hF.puts u28 5 rfl (by decide) (by decide) (by decide) (by decide)
    have gMLt := MLt.put gMLt hR u28 (by decide)
    have gWJ := gWJ.ag (Agr.put u28 (by decide))
    have gWK := gWK.ag (Agr.put u28 (by decide))
    have t29 : (σ28 387 29).toInt = (σ17 387 29).toInt := congrArg Int32.toInt (u28 387 29 (by omega))
    have t30 : (σ28 387 3).toInt = (σ17 387 3).toInt := congrArg Int32.toInt (u28 387 3 (by omega))
    have t31 : (σ28 387 2).toInt = (σ17 387 2).toInt := congrArg Int32.toInt (u28 387 2 (by omega))
    have t32 : (σ28 387 15).toInt = (σ17 387 15).toInt := congrArg Int32.toInt (u28 387 15 (by omega))
    have t33 : (σ28 387 34).toInt = (σ17 387 34).toInt := congrArg Int32.toInt (u28 387 34 (by omega))
    have t34 : (σ28 387 4).toInt = (σ17 387 4).toInt := congrArg Int32.toInt (u28 387 4 (by omega))
    have t35 : (σ28 387 11).toInt = (σ17 387 11).toInt := congrArg Int32.toInt (u28 387 11 (by omega))
    have t36 : (σ28 389 211).toInt = (σ17 389 211).toInt := congrArg Int32.toInt (u28 389 211 (by omega))
    have t37 : (σ28 400 2).toInt = (σ17 400 2).toInt := congrArg Int32.toInt (u28 400 2 (by omega))
    have t38 : (σ28 400 3).toInt = (σ17 400 3).toInt := congrArg Int32.toInt (u28 400 3 (by omega))
    refine lv_iload_n hx hb dX12_roll_279 rfl (lv_at hl 1 rfl) ?_
    refine r_iconst hx hb dX12_roll_280 (by decide) (fun z39 ez39 => ?_)
    refine r_icmp_ne (tgt := 337) hx hb dX12_roll_281 (by decide) (fun c40 => ?_) (fun c40 => ?_)
    · refine lv_iload_n hx hb dX12_roll_337 rfl (lv_at hl 1 rfl) ?_
      refine r_if_ne (tgt := 345) hx hb dX12_roll_338 (by decide) (fun c41 => ?_) (fun c41 => ?_)
      · exfalso; omega
      · refine lv_aload_n hx hb dX12_roll_341 rfl (lv_at hl 0 rfl) ?_
        refine r_cVv (k := 387) (As := []) (rest := []) ⟨hx, hb, hml, hown, hts⟩ hK hP hN hS (c_X12_back l D cA ad hI σ28 τ hR) (cwV 0 hts gX12_roll_X12_back rfl rfl rfl (by decide +kernel) ⟨by decide, by decide⟩) (rv_M hK hP (by decide) (by decide)) rfl hl.1 rfl (Nat.le_of_ble_eq_true rfl) dX12_roll_342 (Nat.zero_le _) (Nat.zero_le _) (fun u42 H42 locs42 hp42 hP hS => ?_)
        obtain ⟨σ42, τ42⟩ := u42
        obtain ⟨hR, f42, fL42⟩ : P_X12_back σ28 τ σ42 τ42 := hp42
        have hP : va_P D vwCl (gw cA ad σ42 τ42) H42 := hP
        obtain rfl := FrL.nil fL42
        have hF := hF.step f42 (by decide)
        have gMLt := MLt.fr gMLt hR f42 (by decide)
        have gWJ := gWJ.ag (Agr.fr f42 (by decide))
        have gWK := gWK.ag (Agr.fr f42 (by decide))
        have t43 : (σ42 387 29).toInt = (σ28 387 29).toInt := congrArg Int32.toInt (f42.at 387 29 (by decide))
        have t44 : (σ42 387 3).toInt = (σ28 387 3).toInt := congrArg Int32.toInt (f42.at 387 3 (by decide))
        have t45 : (σ42 387 2).toInt = (σ28 387 2).toInt := congrArg Int32.toInt (f42.at 387 2 (by decide))
        have t46 : (σ42 387 15).toInt = (σ28 387 15).toInt := congrArg Int32.toInt (f42.at 387 15 (by decide))
        have t47 : (σ42 387 34).toInt = (σ28 387 34).toInt := congrArg Int32.toInt (f42.at 387 34 (by decide))
        have t48 : (σ42 387 4).toInt = (σ28 387 4).toInt := congrArg Int32.toInt (f42.at 387 4 (by decide))
        have t49 : (σ42 387 11).toInt = (σ28 387 11).toInt := congrArg Int32.toInt (f42.at 387 11 (by decide))
        have t50 : (σ42 400 2).toInt = (σ28 400 2).toInt := congrArg Int32.toInt (f42.at 400 2 (by decide))
        have t51 : (σ42 400 3).toInt = (σ28 400 3).toInt := congrArg Int32.toInt (f42.at 400 3 (by decide))
        refine lv_iload_n hx hb dX12_roll_345 rfl (lv_at hl 3 rfl) ?_
        exact r_iret hx hb hr hK hP hS hk dX12_roll_346 (show P_X12_roll σ0 τ0 a1 b N nm hc mm mc x3 σ42 τ from ⟨hR, hF, hFL, by omega, by first | exact Or.inl ⟨by omega, by omega, by omega⟩ | exact Or.inr ⟨by omega, by omega⟩ | (obtain ⟨f, e1, x1, x2⟩ := o1.no (by omega); exact Or.inr ⟨by omega, by rw [kndP_l (f := f) (by rw [irq, rolP_f (by omega) (by omega) e1])]; omega⟩) | (obtain ⟨f, e2, x1, x2⟩ := o2.no (by omega); exact Or.inr ⟨by omega, by rw [kndP_l (f := f) (by rw [irq, rolP_t (by omega) (by omega) e1 e2])]; omega⟩), gRV, gWJ, gWK⟩)
    · refine lv_aload_n hx hb dX12_roll_284 rfl (lv_at hl 0 rfl) ?_
      refine fg_12_35 (k := 387) hx hb hts in_X12_roll_12 hown hK hP (by decide) (by decide) (hts _ lk_X12_roll_68) dX12_roll_285 ?_
      refine r_iconst hx hb dX12_roll_288 (by decide) (fun z52 ez52 => ?_)
      refine ad_mrolled (k := 400) (j := 1) hx hb hK hP (by decide) (by decide) (by omega) (by omega) dX12_roll_289 ?_
      refine r_if_le (tgt := 337) hx hb dX12_roll_290 (by decide) (fun c53 => ?_) (fun c53 => ?_)
      · refine lv_iload_n hx hb dX12_roll_337 rfl (lv_at hl 1 rfl) ?_
        refine r_if_ne (tgt := 345) hx hb dX12_roll_338 (by decide) (fun c54 => ?_) (fun c54 => ?_)
        · refine lv_iload_n hx hb dX12_roll_345 rfl (lv_at hl 3 rfl) ?_
          exact r_iret hx hb hr hK hP hS hk dX12_roll_346 (show P_X12_roll σ0 τ0 a1 b N nm hc mm mc x3 σ28 τ from ⟨hR, hF, hFL, by omega, by first | exact Or.inl ⟨by omega, by omega, by omega⟩ | exact Or.inr ⟨by omega, by omega⟩ | (obtain ⟨f, e1, x1, x2⟩ := o1.no (by omega); exact Or.inr ⟨by omega, by rw [kndP_l (f := f) (by rw [irq, rolP_f (by omega) (by omega) e1])]; omega⟩) | (obtain ⟨f, e2, x1, x2⟩ := o2.no (by omega); exact Or.inr ⟨by omega, by rw [kndP_l (f := f) (by rw [irq, rolP_t (by omega) (by omega) e1 e2])]; omega⟩), gRV, gWJ, gWK⟩)
        · exfalso; omega
      · refine lv_aload_n hx hb dX12_roll_293 rfl (lv_at hl 0 rfl) ?_
        refine r_cVv (k := 387) (As := []) (rest := []) ⟨hx, hb, hml, hown, hts⟩ hK hP hN hS (c_X12_keep l D cA ad hI σ28 τ hR) (cwV 0 hts gX12_roll_X12_keep rfl rfl rfl (by decide +kernel) ⟨by decide, by decide⟩) (rv_M hK hP (by decide) (by decide)) rfl hl.1 rfl (Nat.le_of_ble_eq_true rfl) dX12_roll_294 (Nat.zero_le _) (Nat.zero_le _) (fun u55 H55 locs55 hp55 hP hS => ?_)
        obtain ⟨σ55, τ55⟩ := u55
        obtain ⟨hR, f55, fL55, hp55_0⟩ : P_X12_keep σ28 τ σ55 τ55 := hp55
        have hP : va_P D vwCl (gw cA ad σ55 τ55) H55 := hP
        obtain rfl := FrL.nil fL55
        have hF := hF.step f55 (by decide)
        have gMLt := MLt.fr gMLt hR f55 (by decide)
        have gWJ := gWJ.ag (Agr.fr f55 (by decide))
        have gWK := gWK.ag (Agr.fr f55 (by decide))
        have t56 : (σ55 387 3).toInt = (σ28 387 3).toInt := congrArg Int32.toInt (f55.at 387 3 (by decide))
        have t57 : (σ55 387 2).toInt = (σ28 387 2).toInt := congrArg Int32.toInt (f55.at 387 2 (by decide))
        have t58 : (σ55 387 15).toInt = (σ28 387 15).toInt := congrArg Int32.toInt (f55.at 387 15 (by decide))
        have t59 : (σ55 387 34).toInt = (σ28 387 34).toInt := congrArg Int32.toInt (f55.at 387 34 (by decide))
        have t60 : (σ55 387 4).toInt = (σ28 387 4).toInt := congrArg Int32.toInt (f55.at 387 4 (by decide))
        have t61 : (σ55 387 11).toInt = (σ28 387 11).toInt := congrArg Int32.toInt (f55.at 387 11 (by decide))
        have t62 : (σ55 389 211).toInt = (σ28 389 211).toInt := congrArg Int32.toInt (f55.at 389 211 (by decide))
        have t63 : (σ55 400 2).toInt = (σ28 400 2).toInt := congrArg Int32.toInt (f55.at 400 2 (by decide))
        have t64 : (σ55 400 3).toInt = (σ28 400 3).toInt := congrArg Int32.toInt (f55.at 400 3 (by decide))
        have t65 : (σ55 400 1).toInt = (σ28 400 1).toInt := congrArg Int32.toInt (f55.at 400 1 (by decide))
        have hr66 := rg_12_29 hR (k := 387) (by decide) (by decide)
        refine r_iconst hx hb dX12_roll_297 (by decide) (fun z67 ez67 => ?_)
        refine lv_istore (lv' := [(4, .int z67), (0, .ref (ad 387)), (1, .int a1), (2, .int x2), (3, .int x3)]) hx hb dX12_roll_298 hl (by decide) rfl (fun ls hl => ?_)
        exact K300 σ55 τ H55 locs55 x2 x3 z67 ls hR hF hFL hP hS (by omega) (by omega) (by omega) (by omega) (by omega) (by omega) (by omega) (by omega) (by omega) (by omega) (by omega) (by omega) gRV gWJ gWK (lv_sub hl [1, 2, 3, 4, 0] rfl) (by omega)
  · refine lv_iload_n hx hb dX12_roll_129 rfl (lv_at hl 3 rfl) ?_
    refine r_if_ge (tgt := 245) hx hb dX12_roll_130 (by decide) (fun c68 => ?_) (fun c68 => ?_)
    · refine lv_aload_n hx hb dX12_roll_245 rfl (lv_at hl 0 rfl) ?_
      refine fg_12_35 (k := 387) hx hb hts in_X12_roll_12 hown hK hP (by decide) (by decide) (hts _ lk_X12_roll_68) dX12_roll_246 ?_
      refine r_iconst hx hb dX12_roll_249 (by decide) (fun z69 ez69 => ?_)
      refine lv_aload_n hx hb dX12_roll_250 rfl (lv_at hl 0 rfl) ?_
      refine fg_12_6 (k := 387) hx hb hts in_X12_roll_12 hown hK hP (by decide) (by decide) (hts _ lk_X12_roll_33) dX12_roll_251 ?_
      refine r_sipush hx hb dX12_roll_254 (by decide) (fun z70 ez70 => ?_)
      refine ad_ms (k := 389) (j := 211) hx hb hK hP (by decide) (by decide) (by omega) (by omega) dX12_roll_257 ?_
      refine as_mrolled (k := 400) (j := 2) hx hb hK hP hI hR hS (by decide) (by decide) (by omega) (by omega) dX12_roll_258 (fun σ71 H71 locs71 u71 v71 hR hP hS => ?_)
      have hF := hF.puts u71 4 rfl (by decide) (by decide) (by decide) (by decide)
      have gMLt := MLt.put gMLt hR u71 (by decide)
      have gWJ := gWJ.ag (Agr.put u71 (by decide))
      have gWK := gWK.ag (Agr.put u71 (by decide))
      have t72 : (σ71 387 29).toInt = (σ 387 29).toInt := congrArg Int32.toInt (u71 387 29 (by omega))
      have t73 : (σ71 387 3).toInt = (σ 387 3).toInt := congrArg Int32.toInt (u71 387 3 (by omega))
      have t74 : (σ71 387 2).toInt = (σ 387 2).toInt := congrArg Int32.toInt (u71 387 2 (by omega))
      have t75 : (σ71 387 15).toInt = (σ 387 15).toInt := congrArg Int32.toInt (u71 387 15 (by omega))
      have t76 : (σ71 387 34).toInt = (σ 387 34).toInt := congrArg Int32.toInt (u71 387 34 (by omega))
      have t77 : (σ71 387 4).toInt = (σ 387 4).toInt := congrArg Int32.toInt (u71 387 4 (by omega))
      have t78 : (σ71 387 11).toInt = (σ 387 11).toInt := congrArg Int32.toInt (u71 387 11 (by omega))
      have t79 : (σ71 389 211).toInt = (σ 389 211).toInt := congrArg Int32.toInt (u71 389 211 (by omega))
      refine lv_aload_n hx hb dX12_roll_259 rfl (lv_at hl 0 rfl) ?_
      refine fg_12_35 (k := 387) hx hb hts in_X12_roll_12 hown hK hP (by decide) (by decide) (hts _ lk_X12_roll_68) dX12_roll_260 ?_
      refine r_iconst hx hb dX12_roll_263 (by decide) (fun z80 ez80 => ?_)
      refine lv_aload_n hx hb dX12_roll_264 rfl (lv_at hl 0 rfl) ?_
      refine r_sipush hx hb dX12_roll_265 (by decide) (fun z81 ez81 => ?_)
      refine r_cVi (k := 387) (As := [.int z81]) (rest := [.int z80, .ref (ad 400)]) ⟨hx, hb, hml, hown, hts⟩ hK hP hN hS (c_X12_sum l D cA ad hI σ71 τ hR z81 (by omega)) (cwV 1 hts gX12_roll_X12_sum rfl rfl rfl (by decide +kernel) ⟨by decide, by decide⟩) (rv_M hK hP (by decide) (by decide)) rfl hl.1 rfl (Nat.le_of_ble_eq_true rfl) dX12_roll_268 (Nat.zero_le _) (Nat.zero_le _) (fun r82 u82 H82 locs82 hp82 hP hS => ?_)
      obtain ⟨σ82, τ82⟩ := u82
      obtain ⟨hR, f82, fL82⟩ : P_X12_sum σ71 τ z81 r82 σ82 τ82 := hp82
      have hP : va_P D vwCl (gw cA ad σ82 τ82) H82 := hP
      obtain rfl := FrL.nil fL82
      obtain rfl := Fr.nil f82
      refine lv_iload_n hx hb dX12_roll_271 rfl (lv_at hl 2 rfl) ?_
      refine r_isubU hx hb dX12_roll_272 (fun z83 => ?_)
      refine as_mrolled (k := 400) (j := 3) hx hb hK hP hI hR hS (by decide) (by decide) (by omega) (by omega) dX12_roll_273 (fun σ84 H84 locs84 u84 v84 hR hP hS => ?_)
      have hF := hF.puts u84 4 rfl (by decide) (by decide) (by decide) (by decide)
      have gMLt := MLt.put gMLt hR u84 (by decide)
      have gWJ := gWJ.ag (Agr.put u84 (by decide))
      have gWK := gWK.ag (Agr.put u84 (by decide))
      have t85 : (σ84 387 29).toInt = (σ71 387 29).toInt := congrArg Int32.toInt (u84 387 29 (by omega))
      have t86 : (σ84 387 3).toInt = (σ71 387 3).toInt := congrArg Int32.toInt (u84 387 3 (by omega))
      have t87 : (σ84 387 2).toInt = (σ71 387 2).toInt := congrArg Int32.toInt (u84 387 2 (by omega))
      have t88 : (σ84 387 15).toInt = (σ71 387 15).toInt := congrArg Int32.toInt (u84 387 15 (by omega))
      have t89 : (σ84 387 34).toInt = (σ71 387 34).toInt := congrArg Int32.toInt (u84 387 34 (by omega))
      have t90 : (σ84 387 4).toInt = (σ71 387 4).toInt := congrArg Int32.toInt (u84 387 4 (by omega))
      have t91 : (σ84 387 11).toInt = (σ71 387 11).toInt := congrArg Int32.toInt (u84 387 11 (by omega))
      have t92 : (σ84 389 211).toInt = (σ71 389 211).toInt := congrArg Int32.toInt (u84 389 211 (by omega))
      have t93 : (σ84 400 2).toInt = (σ71 400 2).toInt := congrArg Int32.toInt (u84 400 2 (by omega))
      refine lv_aload_n hx hb dX12_roll_274 rfl (lv_at hl 0 rfl) ?_
      refine r_iconst hx hb dX12_roll_275 (by decide) (fun z94 ez94 => ?_)
      refine fp_12_36 (k := 387) hx hb hts in_X12_roll_12 hown hK hP (by decide) (by decide) (hts _ lk_X12_roll_428) hI hR hS (by omega) dX12_roll_276 (fun σ95 H95 locs95 u95 v95 hR hP hS => ?_)
      have hF := hF.puts u95 5 rfl (by decide) (by decide) (by decide) (by decide)
      have gMLt := MLt.put gMLt hR u95 (by decide)
      have gWJ := gWJ.ag (Agr.put u95 (by decide))
      have gWK := gWK.ag (Agr.put u95 (by decide))
      have t96 : (σ95 387 29).toInt = (σ84 387 29).toInt := congrArg Int32.toInt (u95 387 29 (by omega))
      have t97 : (σ95 387 3).toInt = (σ84 387 3).toInt := congrArg Int32.toInt (u95 387 3 (by omega))
      have t98 : (σ95 387 2).toInt = (σ84 387 2).toInt := congrArg Int32.toInt (u95 387 2 (by omega))
      have t99 : (σ95 387 15).toInt = (σ84 387 15).toInt := congrArg Int32.toInt (u95 387 15 (by omega))
      have t100 : (σ95 387 34).toInt = (σ84 387 34).toInt := congrArg Int32.toInt (u95 387 34 (by omega))
      have t101 : (σ95 387 4).toInt = (σ84 387 4).toInt := congrArg Int32.toInt (u95 387 4 (by omega))
      have t102 : (σ95 387 11).toInt = (σ84 387 11).toInt := congrArg Int32.toInt (u95 387 11 (by omega))
      have t103 : (σ95 389 211).toInt = (σ84 389 211).toInt := congrArg Int32.toInt (u95 389 211 (by omega))
      have t104 : (σ95 400 2).toInt = (σ84 400 2).toInt := congrArg Int32.toInt (u95 400 2 (by omega))
      have t105 : (σ95 400 3).toInt = (σ84 400 3).toInt := congrArg Int32.toInt (u95 400 3 (by omega))
      refine lv_iload_n hx hb dX12_roll_279 rfl (lv_at hl 1 rfl) ?_
      refine r_iconst hx hb dX12_roll_280 (by decide) (fun z106 ez106 => ?_)
      refine r_icmp_ne (tgt := 337) hx hb dX12_roll_281 (by decide) (fun c107 => ?_) (fun c107 => ?_)
      · refine lv_iload_n hx hb dX12_roll_337 rfl (lv_at hl 1 rfl) ?_
        refine r_if_ne (tgt := 345) hx hb dX12_roll_338 (by decide) (fun c108 => ?_) (fun c108 => ?_)
        · exfalso; omega
        · refine lv_aload_n hx hb dX12_roll_341 rfl (lv_at hl 0 rfl) ?_
          refine r_cVv (k := 387) (As := []) (rest := []) ⟨hx, hb, hml, hown, hts⟩ hK hP hN hS (c_X12_back l D cA ad hI σ95 τ hR) (cwV 0 hts gX12_roll_X12_back rfl rfl rfl (by decide +kernel) ⟨by decide, by decide⟩) (rv_M hK hP (by decide) (by decide)) rfl hl.1 rfl (Nat.le_of_ble_eq_true rfl) dX12_roll_342 (Nat.zero_le _) (Nat.zero_le _) (fun u109 H109 locs109 hp109 hP hS => ?_)
          obtain ⟨σ109, τ109⟩ := u109
          obtain ⟨hR, f109, fL109⟩ : P_X12_back σ95 τ σ109 τ109 := hp109
          have hP : va_P D vwCl (gw cA ad σ109 τ109) H109 := hP
          obtain rfl := FrL.nil fL109
          have hF := hF.step f109 (by decide)
          have gMLt := MLt.fr gMLt hR f109 (by decide)
          have gWJ := gWJ.ag (Agr.fr f109 (by decide))
          have gWK := gWK.ag (Agr.fr f109 (by decide))
          have t110 : (σ109 387 29).toInt = (σ95 387 29).toInt := congrArg Int32.toInt (f109.at 387 29 (by decide))
          have t111 : (σ109 387 3).toInt = (σ95 387 3).toInt := congrArg Int32.toInt (f109.at 387 3 (by decide))
          have t112 : (σ109 387 2).toInt = (σ95 387 2).toInt := congrArg Int32.toInt (f109.at 387 2 (by decide))
          have t113 : (σ109 387 15).toInt = (σ95 387 15).toInt := congrArg Int32.toInt (f109.at 387 15 (by decide))
          have t114 : (σ109 387 34).toInt = (σ95 387 34).toInt := congrArg Int32.toInt (f109.at 387 34 (by decide))
          have t115 : (σ109 387 4).toInt = (σ95 387 4).toInt := congrArg Int32.toInt (f109.at 387 4 (by decide))
          have t116 : (σ109 387 11).toInt = (σ95 387 11).toInt := congrArg Int32.toInt (f109.at 387 11 (by decide))
          have t117 : (σ109 400 2).toInt = (σ95 400 2).toInt := congrArg Int32.toInt (f109.at 400 2 (by decide))
          have t118 : (σ109 400 3).toInt = (σ95 400 3).toInt := congrArg Int32.toInt (f109.at 400 3 (by decide))
          refine lv_iload_n hx hb dX12_roll_345 rfl (lv_at hl 3 rfl) ?_
          exact r_iret hx hb hr hK hP hS hk dX12_roll_346 (show P_X12_roll σ0 τ0 a1 b N nm hc mm mc x3 σ109 τ from ⟨hR, hF, hFL, by omega, by first | exact Or.inl ⟨by omega, by omega, by omega⟩ | exact Or.inr ⟨by omega, by omega⟩ | (obtain ⟨f, e1, x1, x2⟩ := o1.no (by omega); exact Or.inr ⟨by omega, by rw [kndP_l (f := f) (by rw [irq, rolP_f (by omega) (by omega) e1])]; omega⟩) | (obtain ⟨f, e2, x1, x2⟩ := o2.no (by omega); exact Or.inr ⟨by omega, by rw [kndP_l (f := f) (by rw [irq, rolP_t (by omega) (by omega) e1 e2])]; omega⟩), gRV, gWJ, gWK⟩)
      · refine lv_aload_n hx hb dX12_roll_284 rfl (lv_at hl 0 rfl) ?_
        refine fg_12_35 (k := 387) hx hb hts in_X12_roll_12 hown hK hP (by decide) (by decide) (hts _ lk_X12_roll_68) dX12_roll_285 ?_
        refine r_iconst hx hb dX12_roll_288 (by decide) (fun z119 ez119 => ?_)
        refine ad_mrolled (k := 400) (j := 1) hx hb hK hP (by decide) (by decide) (by omega) (by omega) dX12_roll_289 ?_
        refine r_if_le (tgt := 337) hx hb dX12_roll_290 (by decide) (fun c120 => ?_) (fun c120 => ?_)
        · refine lv_iload_n hx hb dX12_roll_337 rfl (lv_at hl 1 rfl) ?_
          refine r_if_ne (tgt := 345) hx hb dX12_roll_338 (by decide) (fun c121 => ?_) (fun c121 => ?_)
          · refine lv_iload_n hx hb dX12_roll_345 rfl (lv_at hl 3 rfl) ?_
            exact r_iret hx hb hr hK hP hS hk dX12_roll_346 (show P_X12_roll σ0 τ0 a1 b N nm hc mm mc x3 σ95 τ from ⟨hR, hF, hFL, by omega, by first | exact Or.inl ⟨by omega, by omega, by omega⟩ | exact Or.inr ⟨by omega, by omega⟩ | (obtain ⟨f, e1, x1, x2⟩ := o1.no (by omega); exact Or.inr ⟨by omega, by rw [kndP_l (f := f) (by rw [irq, rolP_f (by omega) (by omega) e1])]; omega⟩) | (obtain ⟨f, e2, x1, x2⟩ := o2.no (by omega); exact Or.inr ⟨by omega, by rw [kndP_l (f := f) (by rw [irq, rolP_t (by omega) (by omega) e1 e2])]; omega⟩), gRV, gWJ, gWK⟩)
          · exfalso; omega
        · refine lv_aload_n hx hb dX12_roll_293 rfl (lv_at hl 0 rfl) ?_
          refine r_cVv (k := 387) (As := []) (rest := []) ⟨hx, hb, hml, hown, hts⟩ hK hP hN hS (c_X12_keep l D cA ad hI σ95 τ hR) (cwV 0 hts gX12_roll_X12_keep rfl rfl rfl (by decide +kernel) ⟨by decide, by decide⟩) (rv_M hK hP (by decide) (by decide)) rfl hl.1 rfl (Nat.le_of_ble_eq_true rfl) dX12_roll_294 (Nat.zero_le _) (Nat.zero_le _) (fun u122 H122 locs122 hp122 hP hS => ?_)
          obtain ⟨σ122, τ122⟩ := u122
          obtain ⟨hR, f122, fL122, hp122_0⟩ : P_X12_keep σ95 τ σ122 τ122 := hp122
          have hP : va_P D vwCl (gw cA ad σ122 τ122) H122 := hP
          obtain rfl := FrL.nil fL122
          have hF := hF.step f122 (by decide)
          have gMLt := MLt.fr gMLt hR f122 (by decide)
          have gWJ := gWJ.ag (Agr.fr f122 (by decide))
          have gWK := gWK.ag (Agr.fr f122 (by decide))
          have t123 : (σ122 387 3).toInt = (σ95 387 3).toInt := congrArg Int32.toInt (f122.at 387 3 (by decide))
          have t124 : (σ122 387 2).toInt = (σ95 387 2).toInt := congrArg Int32.toInt (f122.at 387 2 (by decide))
          have t125 : (σ122 387 15).toInt = (σ95 387 15).toInt := congrArg Int32.toInt (f122.at 387 15 (by decide))
          have t126 : (σ122 387 34).toInt = (σ95 387 34).toInt := congrArg Int32.toInt (f122.at 387 34 (by decide))
          have t127 : (σ122 387 4).toInt = (σ95 387 4).toInt := congrArg Int32.toInt (f122.at 387 4 (by decide))
          have t128 : (σ122 387 11).toInt = (σ95 387 11).toInt := congrArg Int32.toInt (f122.at 387 11 (by decide))
          have t129 : (σ122 389 211).toInt = (σ95 389 211).toInt := congrArg Int32.toInt (f122.at 389 211 (by decide))
          have t130 : (σ122 400 2).toInt = (σ95 400 2).toInt := congrArg Int32.toInt (f122.at 400 2 (by decide))
          have t131 : (σ122 400 3).toInt = (σ95 400 3).toInt := congrArg Int32.toInt (f122.at 400 3 (by decide))
          have t132 : (σ122 400 1).toInt = (σ95 400 1).toInt := congrArg Int32.toInt (f122.at 400 1 (by decide))
          have hr133 := rg_12_29 hR (k := 387) (by decide) (by decide)
          refine r_iconst hx hb dX12_roll_297 (by decide) (fun z134 ez134 => ?_)
          refine lv_istore (lv' := [(4, .int z134), (0, .ref (ad 387)), (1, .int a1), (2, .int x2), (3, .int x3)]) hx hb dX12_roll_298 hl (by decide) rfl (fun ls hl => ?_)
          exact K300 σ122 τ H122 locs122 x2 x3 z134 ls hR hF hFL hP hS (by omega) (by omega) (by omega) (by omega) (by omega) (by omega) (by omega) (by omega) (by omega) (by omega) (by omega) (by omega) gRV gWJ gWK (lv_sub hl [1, 2, 3, 4, 0] rfl) (by omega)
    · refine r_iconst hx hb dX12_roll_133 (by decide) (fun z135 ez135 => ?_)
      refine lv_iload hx hb dX12_roll_134 (lv_at hl 4 rfl) ?_
      refine r_imulL (n := 3) hx hb dX12_roll_136 (by omega) (by omega) (fun z136 ez136 => ?_)
      refine lv_istore (lv' := [(5, .int z136), (0, .ref (ad 387)), (1, .int a1), (2, .int x2), (3, .int x3), (4, .int x4)]) hx hb dX12_roll_137 hl (by decide) rfl (fun ls hl => ?_)
      refine lv_aload_n hx hb dX12_roll_139 rfl (lv_at hl 1 rfl) ?_
      refine lv_aload_n hx hb dX12_roll_140 rfl (lv_at hl 1 rfl) ?_
      refine fg_12_8 (k := 387) hx hb hts in_X12_roll_12 hown hK hP (by decide) (by decide) (hts _ lk_X12_roll_40) dX12_roll_141 ?_
      refine lv_iload hx hb dX12_roll_144 (lv_at hl 0 rfl) ?_
      obtain ⟨j137, ej137⟩ : ∃ j : Nat, z136.toInt = (j : Int) := ⟨_, ti_nat (by omega)⟩
      refine ad_mread (k := 391) (j := j137) hx hb hK hP (by decide) (by decide) ej137 (by omega) dX12_roll_146 ?_
      refine lv_aload_n hx hb dX12_roll_147 rfl (lv_at hl 1 rfl) ?_
      refine fg_12_8 (k := 387) hx hb hts in_X12_roll_12 hown hK hP (by decide) (by decide) (hts _ lk_X12_roll_40) dX12_roll_148 ?_
      refine lv_iload hx hb dX12_roll_151 (lv_at hl 0 rfl) ?_
      refine r_iconst hx hb dX12_roll_153 (by decide) (fun z138 ez138 => ?_)
      refine r_iadd hx hb dX12_roll_154 (by omega) (fun z139 ez139 => ?_)
      obtain ⟨j140, ej140⟩ : ∃ j : Nat, z139.toInt = (j : Int) := ⟨_, ti_nat (by omega)⟩
      refine ad_mread (k := 391) (j := j140) hx hb hK hP (by decide) (by decide) ej140 (by omega) dX12_roll_155 ?_
      refine lv_aload_n hx hb dX12_roll_156 rfl (lv_at hl 1 rfl) ?_
      refine fg_12_8 (k := 387) hx hb hts in_X12_roll_12 hown hK hP (by decide) (by decide) (hts _ lk_X12_roll_40) dX12_roll_157 ?_
      refine lv_iload hx hb dX12_roll_160 (lv_at hl 0 rfl) ?_
      refine r_iconst hx hb dX12_roll_162 (by decide) (fun z141 ez141 => ?_)
      refine r_iadd hx hb dX12_roll_163 (by omega) (fun z142 ez142 => ?_)
      obtain ⟨j143, ej143⟩ : ∃ j : Nat, z142.toInt = (j : Int) := ⟨_, ti_nat (by omega)⟩
      refine ad_mread (k := 391) (j := j143) hx hb hK hP (by decide) (by decide) ej143 (by omega) dX12_roll_164 ?_
      have hz := MLt.at gMLt (x := x4) (j1 := j137) (j2 := j140) (j3 := j143) (by omega) (by omega) (by omega) (by omega) (by omega)
      refine r_cVi (k := 387) (As := [.int (σ 391 j137), .int (σ 391 j140), .int (σ 391 j143)]) (rest := []) ⟨hx, hb, hml, hown, hts⟩ hK hP hN hS (c_X12_whyLine l D cA ad hI σ τ hR (σ 391 j137) (σ 391 j140) (σ 391 j143) (by omega) (by omega) (by omega)) (cwV 3 hts gX12_roll_X12_whyLine rfl rfl rfl (by decide +kernel) ⟨by decide, by decide⟩) (rv_M hK hP (by decide) (by decide)) rfl hl.1 rfl (Nat.le_of_ble_eq_true rfl) dX12_roll_165 (Nat.zero_le _) (Nat.zero_le _) (fun r144 u144 H144 locs144 hp144 hP hS => ?_)
      obtain ⟨σ144, τ144⟩ := u144
      obtain ⟨hR, f144, fL144, hq144, hp144_0⟩ : P_X12_whyLine σ τ (σ 391 j137) (σ 391 j140) (σ 391 j143) r144 σ144 τ144 := hp144
      have hP : va_P D vwCl (gw cA ad σ144 τ144) H144 := hP
      obtain rfl := FrL.nil fL144
      have hF := hF.step f144 (by decide)
      have gMLt := MLt.fr gMLt hR f144 (by decide)
      have gWJ := gWJ.ag (Agr.fr f144 (by decide))
      have gWK := gWK.ag (Agr.fr f144 (by decide))
      have t145 : (σ144 387 29).toInt = (σ 387 29).toInt := congrArg Int32.toInt (f144.at 387 29 (by decide))
      have t146 : (σ144 387 3).toInt = (σ 387 3).toInt := congrArg Int32.toInt (f144.at 387 3 (by decide))
      have t147 : (σ144 387 2).toInt = (σ 387 2).toInt := congrArg Int32.toInt (f144.at 387 2 (by decide))
      have t148 : (σ144 387 15).toInt = (σ 387 15).toInt := congrArg Int32.toInt (f144.at 387 15 (by decide))
      have t149 : (σ144 387 34).toInt = (σ 387 34).toInt := congrArg Int32.toInt (f144.at 387 34 (by decide))
      have t150 : (σ144 387 4).toInt = (σ 387 4).toInt := congrArg Int32.toInt (f144.at 387 4 (by decide))
      have t151 : (σ144 387 11).toInt = (σ 387 11).toInt := congrArg Int32.toInt (f144.at 387 11 (by decide))
      have t152 : (σ144 391 j137).toInt = (σ 391 j137).toInt := congrArg Int32.toInt (f144.atV 391 j137 (by intro q hq; simp only [L_X12_whyLine, List.mem_cons, List.not_mem_nil, or_false] at hq; rcases hq with rfl | rfl | rfl <;> dsimp only <;> omega))
      have t153 : (σ144 391 j140).toInt = (σ 391 j140).toInt := congrArg Int32.toInt (f144.atV 391 j140 (by intro q hq; simp only [L_X12_whyLine, List.mem_cons, List.not_mem_nil, or_false] at hq; rcases hq with rfl | rfl | rfl <;> dsimp only <;> omega))
      have t154 : (σ144 391 j143).toInt = (σ 391 j143).toInt := congrArg Int32.toInt (f144.atV 391 j143 (by intro q hq; simp only [L_X12_whyLine, List.mem_cons, List.not_mem_nil, or_false] at hq; rcases hq with rfl | rfl | rfl <;> dsimp only <;> omega))
      refine lv_istore (lv' := [(6, .int r144), (5, .int z136), (0, .ref (ad 387)), (1, .int a1), (2, .int x2), (3, .int x3), (4, .int x4)]) hx hb dX12_roll_168 hl (by decide) rfl (fun ls hl => ?_)
      refine lv_iload hx hb dX12_roll_170 (lv_at hl 0 rfl) ?_
      refine r_if_le (tgt := 200) hx hb dX12_roll_172 (by decide) (fun c155 => ?_) (fun c155 => ?_)
      · refine lv_aload_n hx hb dX12_roll_200 rfl (lv_at hl 2 rfl) ?_
        refine lv_aload_n hx hb dX12_roll_201 rfl (lv_at hl 2 rfl) ?_
        refine fg_12_8 (k := 387) hx hb hts in_X12_roll_12 hown hK hP (by decide) (by decide) (hts _ lk_X12_roll_40) dX12_roll_202 ?_
        refine lv_iload hx hb dX12_roll_205 (lv_at hl 1 rfl) ?_
        refine ad_mread (k := 391) (j := j137) hx hb hK hP (by decide) (by decide) ej137 (by omega) dX12_roll_207 ?_
        refine lv_aload_n hx hb dX12_roll_208 rfl (lv_at hl 2 rfl) ?_
        refine fg_12_8 (k := 387) hx hb hts in_X12_roll_12 hown hK hP (by decide) (by decide) (hts _ lk_X12_roll_40) dX12_roll_209 ?_
        refine lv_iload hx hb dX12_roll_212 (lv_at hl 1 rfl) ?_
        refine r_iconst hx hb dX12_roll_214 (by decide) (fun z156 ez156 => ?_)
        refine r_iadd hx hb dX12_roll_215 (by omega) (fun z157 ez157 => ?_)
        refine ad_mread (k := 391) (j := j140) hx hb hK hP (by decide) (by decide) (by omega) (by omega) dX12_roll_216 ?_
        refine lv_aload_n hx hb dX12_roll_217 rfl (lv_at hl 2 rfl) ?_
        refine fg_12_8 (k := 387) hx hb hts in_X12_roll_12 hown hK hP (by decide) (by decide) (hts _ lk_X12_roll_40) dX12_roll_218 ?_
        refine lv_iload hx hb dX12_roll_221 (lv_at hl 1 rfl) ?_
        refine r_iconst hx hb dX12_roll_223 (by decide) (fun z158 ez158 => ?_)
        refine r_iadd hx hb dX12_roll_224 (by omega) (fun z159 ez159 => ?_)
        refine ad_mread (k := 391) (j := j143) hx hb hK hP (by decide) (by decide) (by omega) (by omega) dX12_roll_225 ?_
        have hz := MLt.at gMLt (x := x4) (j1 := j137) (j2 := j140) (j3 := j143) (by omega) (by omega) (by omega) (by omega) (by omega)
        refine r_cVv (k := 387) (As := [.int (σ144 391 j137), .int (σ144 391 j140), .int (σ144 391 j143)]) (rest := []) ⟨hx, hb, hml, hown, hts⟩ hK hP hN hS (c_X12_livesLine l D cA ad hI σ144 τ hR (σ144 391 j137) (σ144 391 j140) (σ144 391 j143) (by omega) (by omega) (by omega) (by omega) (by omega)) (cwV 3 hts gX12_roll_X12_livesLine rfl rfl rfl (by decide +kernel) ⟨by decide, by decide⟩) (rv_M hK hP (by decide) (by decide)) rfl hl.1 rfl (Nat.le_of_ble_eq_true rfl) dX12_roll_226 (Nat.zero_le _) (Nat.zero_le _) (fun u160 H160 locs160 hp160 hP hS => ?_)
        obtain ⟨σ160, τ160⟩ := u160
        obtain ⟨hR, f160, fL160⟩ : P_X12_livesLine σ144 τ (σ144 391 j137) (σ144 391 j140) (σ144 391 j143) σ160 τ160 := hp160
        have hP : va_P D vwCl (gw cA ad σ160 τ160) H160 := hP
        obtain rfl := FrL.nil fL160
        have hF := hF.step f160 (by decide)
        have gMLt := MLt.fr gMLt hR f160 (by decide)
        have gWJ := gWJ.ag (Agr.fr f160 (by decide))
        have gWK := gWK.ag (Agr.fr f160 (by decide))
        have t161 : (σ160 387 29).toInt = (σ144 387 29).toInt := congrArg Int32.toInt (f160.at 387 29 (by decide))
        have t162 : (σ160 387 3).toInt = (σ144 387 3).toInt := congrArg Int32.toInt (f160.at 387 3 (by decide))
        have t163 : (σ160 387 2).toInt = (σ144 387 2).toInt := congrArg Int32.toInt (f160.at 387 2 (by decide))
        have t164 : (σ160 387 15).toInt = (σ144 387 15).toInt := congrArg Int32.toInt (f160.at 387 15 (by decide))
        have t165 : (σ160 387 34).toInt = (σ144 387 34).toInt := congrArg Int32.toInt (f160.at 387 34 (by decide))
        have t166 : (σ160 387 4).toInt = (σ144 387 4).toInt := congrArg Int32.toInt (f160.at 387 4 (by decide))
        have t167 : (σ160 387 11).toInt = (σ144 387 11).toInt := congrArg Int32.toInt (f160.at 387 11 (by decide))
        have t168 : (σ160 391 j137).toInt = (σ144 391 j137).toInt := congrArg Int32.toInt (f160.atV 391 j137 (by intro q hq; simp only [L_X12_livesLine, List.mem_cons, List.not_mem_nil, or_false] at hq; rcases hq with rfl | rfl | rfl | rfl | rfl | rfl <;> dsimp only <;> omega))
        have t169 : (σ160 391 j140).toInt = (σ144 391 j140).toInt := congrArg Int32.toInt (f160.atV 391 j140 (by intro q hq; simp only [L_X12_livesLine, List.mem_cons, List.not_mem_nil, or_false] at hq; rcases hq with rfl | rfl | rfl | rfl | rfl | rfl <;> dsimp only <;> omega))
        have t170 : (σ160 391 j143).toInt = (σ144 391 j143).toInt := congrArg Int32.toInt (f160.atV 391 j143 (by intro q hq; simp only [L_X12_livesLine, List.mem_cons, List.not_mem_nil, or_false] at hq; rcases hq with rfl | rfl | rfl | rfl | rfl | rfl <;> dsimp only <;> omega))
        refine lv_aload_n hx hb dX12_roll_229 rfl (lv_at hl 2 rfl) ?_
        refine fg_12_35 (k := 387) hx hb hts in_X12_roll_12 hown hK hP (by decide) (by decide) (hts _ lk_X12_roll_68) dX12_roll_230 ?_
        refine r_iconst hx hb dX12_roll_233 (by decide) (fun z171 ez171 => ?_)
        refine lv_dup2_11 hx hb dX12_roll_234 rfl rfl ?_
        refine ad_mrolled (k := 400) (j := 1) hx hb hK hP (by decide) (by decide) (by omega) (by omega) dX12_roll_235 ?_
        refine r_iconst hx hb dX12_roll_236 (by decide) (fun z172 ez172 => ?_)
        refine r_iaddU hx hb dX12_roll_237 (fun z173 => ?_)
        refine as_mrolled (k := 400) (j := 1) hx hb hK hP hI hR hS (by decide) (by decide) (by omega) (by omega) dX12_roll_238 (fun σ174 H174 locs174 u174 v174 hR hP hS => ?_)
        have hF := hF.puts u174 4 rfl (by decide) (by decide) (by decide) (by decide)
        have gMLt := MLt.put gMLt hR u174 (by decide)
        have gWJ := gWJ.ag (Agr.put u174 (by decide))
        have gWK := gWK.ag (Agr.put u174 (by decide))
        have t175 : (σ174 387 29).toInt = (σ160 387 29).toInt := congrArg Int32.toInt (u174 387 29 (by omega))
        have t176 : (σ174 387 3).toInt = (σ160 387 3).toInt := congrArg Int32.toInt (u174 387 3 (by omega))
        have t177 : (σ174 387 2).toInt = (σ160 387 2).toInt := congrArg Int32.toInt (u174 387 2 (by omega))
        have t178 : (σ174 387 15).toInt = (σ160 387 15).toInt := congrArg Int32.toInt (u174 387 15 (by omega))
        have t179 : (σ174 387 34).toInt = (σ160 387 34).toInt := congrArg Int32.toInt (u174 387 34 (by omega))
        have t180 : (σ174 387 4).toInt = (σ160 387 4).toInt := congrArg Int32.toInt (u174 387 4 (by omega))
        have t181 : (σ174 387 11).toInt = (σ160 387 11).toInt := congrArg Int32.toInt (u174 387 11 (by omega))
        have t182 : (σ174 391 j137).toInt = (σ160 391 j137).toInt := congrArg Int32.toInt (u174 391 j137 (by omega))
        have t183 : (σ174 391 j140).toInt = (σ160 391 j140).toInt := congrArg Int32.toInt (u174 391 j140 (by omega))
        have t184 : (σ174 391 j143).toInt = (σ160 391 j143).toInt := congrArg Int32.toInt (u174 391 j143 (by omega))
        refine r_iinc (k := 6) (lv1 := fun z185 => [(4, .int z185), (6, .int r144), (5, .int z136), (0, .ref (ad 387)), (1, .int a1), (2, .int x2), (3, .int x3)]) hx hb dX12_roll_239 hl rfl (by decide) (fun _ => rfl) (by decide) (by omega) (fun z185 ls ez185 hl => ?_)
        refine lv_goto (tgt := 120) hx hb dX12_roll_242 (by decide) ?_
        exact K120 σ174 τ H174 locs174 x2 x3 z185 ls hR hF hFL hP hS (by omega) (by omega) (by omega) (by omega) (by omega) (by omega) (by omega) (by omega) (by omega) (by omega) gRV gWJ gWK gMLt (lv_sub hl [3, 4, 5, 6, 0] rfl) (by omega)
      · refine lv_aload_n hx hb dX12_roll_175 rfl (lv_at hl 2 rfl) ?_
        refine fg_12_35 (k := 387) hx hb hts in_X12_roll_12 hown hK hP (by decide) (by decide) (hts _ lk_X12_roll_68) dX12_roll_176 ?_
        refine r_iconst hx hb dX12_roll_179 (by decide) (fun z186 ez186 => ?_)
        refine r_bipush hx hb dX12_roll_180 (by decide) (fun z187 ez187 => ?_)
        refine lv_aload_n hx hb dX12_roll_182 rfl (lv_at hl 2 rfl) ?_
        refine fg_12_8 (k := 387) hx hb hts in_X12_roll_12 hown hK hP (by decide) (by decide) (hts _ lk_X12_roll_40) dX12_roll_183 ?_
        refine lv_iload hx hb dX12_roll_186 (lv_at hl 1 rfl) ?_
        refine ad_mread (k := 391) (j := j137) hx hb hK hP (by decide) (by decide) ej137 (by omega) dX12_roll_188 ?_
        refine r_imulU hx hb dX12_roll_189 (fun z188 => ?_)
        refine lv_iload hx hb dX12_roll_190 (lv_at hl 0 rfl) ?_
        refine r_iaddU hx hb dX12_roll_192 (fun z189 => ?_)
        refine as_mrolled (k := 400) (j := 0) hx hb hK hP hI hR hS (by decide) (by decide) (by omega) (by omega) dX12_roll_193 (fun σ190 H190 locs190 u190 v190 hR hP hS => ?_)
        have hF := hF.puts u190 4 rfl (by decide) (by decide) (by decide) (by decide)
        have gMLt := MLt.put gMLt hR u190 (by decide)
        have gWJ := gWJ.ag (Agr.put u190 (by decide))
        have gWK := gWK.ag (Agr.put u190 (by decide))
        have t191 : (σ190 387 29).toInt = (σ144 387 29).toInt := congrArg Int32.toInt (u190 387 29 (by omega))
        have t192 : (σ190 387 3).toInt = (σ144 387 3).toInt := congrArg Int32.toInt (u190 387 3 (by omega))
        have t193 : (σ190 387 2).toInt = (σ144 387 2).toInt := congrArg Int32.toInt (u190 387 2 (by omega))
        have t194 : (σ190 387 15).toInt = (σ144 387 15).toInt := congrArg Int32.toInt (u190 387 15 (by omega))
        have t195 : (σ190 387 34).toInt = (σ144 387 34).toInt := congrArg Int32.toInt (u190 387 34 (by omega))
        have t196 : (σ190 387 4).toInt = (σ144 387 4).toInt := congrArg Int32.toInt (u190 387 4 (by omega))
        have t197 : (σ190 387 11).toInt = (σ144 387 11).toInt := congrArg Int32.toInt (u190 387 11 (by omega))
        have t198 : (σ190 391 j137).toInt = (σ144 391 j137).toInt := congrArg Int32.toInt (u190 391 j137 (by omega))
        have t199 : (σ190 391 j140).toInt = (σ144 391 j140).toInt := congrArg Int32.toInt (u190 391 j140 (by omega))
        have t200 : (σ190 391 j143).toInt = (σ144 391 j143).toInt := congrArg Int32.toInt (u190 391 j143 (by omega))
        refine lv_iload hx hb dX12_roll_194 (lv_at hl 6 rfl) ?_
        refine lv_istore_n (lv' := [(3, .int x4), (6, .int r144), (5, .int z136), (0, .ref (ad 387)), (1, .int a1), (2, .int x2), (4, .int x4)]) hx hb dX12_roll_196 rfl hl (by decide) rfl (fun ls hl => ?_)
        refine lv_goto (tgt := 239) hx hb dX12_roll_197 (by decide) ?_
        refine r_iinc (k := 6) (lv1 := fun z201 => [(4, .int z201), (3, .int x4), (6, .int r144), (5, .int z136), (0, .ref (ad 387)), (1, .int a1), (2, .int x2)]) hx hb dX12_roll_239 hl rfl (by decide) (fun _ => rfl) (by decide) (by omega) (fun z201 ls ez201 hl => ?_)
        refine lv_goto (tgt := 120) hx hb dX12_roll_242 (by decide) ?_
        exact K120 σ190 τ H190 locs190 x2 x4 z201 ls hR hF hFL hP hS (by omega) (by omega) (by omega) (by omega) (by omega) (by omega) (by omega) (by omega) (by omega) (by omega) gRV gWJ gWK gMLt (lv_sub hl [4, 5, 6, 1, 0] rfl) (by omega)
set_option maxHeartbeats 4000000 in
theorem B_X12_roll_300 (p : Program) (l : Launch) (e : Env) (s : State) (m : MethodId) (args : Array Value) (below : List Frame) (meth : Method) (c : Code) (D : va_G) (cA : Nat → ClassId) (ad : Nat → Nat) (σ0 : Nat → Nat → Int32) (τ0 : Nat → Nat → Int64) (a1 : Int32) (b : Nat → Int) (N : Nat) (nm : Nat → Int) (hc : Nat) (mm : Nat → Int) (mc : Nat) (n : Nat) (C : Cy p s m args meth c cX12_roll 7 wsX12_roll RX12 D cA ad (some .int)) (hpre0 : (σ0 387 2).toInt = (N : Int) ∧ N ≤ 940 ∧ ∀ j : Nat, j < N → bM σ0 j = b j) (gRV0 : RV τ0 ) (gWJ0 : WJ σ0 τ0 nm hc) (gWK0 : WK σ0 τ0 mm mc) (K39 : J_X12_roll_39 p l e s m args below meth c D cA ad σ0 τ0 a1 b N nm hc mm mc n) (K89 : J_X12_roll_89 p l e s m args below meth c D cA ad σ0 τ0 a1 b N nm hc mm mc n) (K120 : J_X12_roll_120 p l e s m args below meth c D cA ad σ0 τ0 a1 b N nm hc mm mc n) (K300 : J_X12_roll_300 p l e s m args below meth c D cA ad σ0 τ0 a1 b N nm hc mm mc n) : J_X12_roll_300 p l e s m args below meth c D cA ad σ0 τ0 a1 b N nm hc mm mc (n + 1) := by
  obtain ⟨hx, hb, hml, hown, hts, hK, hk, hr, hI, hN⟩ := C
  intro σ τ H locs x2 x3 x4 ls hR hF hFL hP hS hc0 hc1 hc2 hc3 hc4 hc5 hc6 hc7 hc8 hc9 hi0 ikr gRV gWJ gWK hl hm
  refine lv_iload hx hb dX12_roll_300 (lv_at hl 4 rfl) ?_
  refine r_bipush hx hb dX12_roll_302 (by decide) (fun z1 ez1 => ?_)
  refine r_icmp_ge (tgt := 337) hx hb dX12_roll_304 (by decide) (fun c2 => ?_) (fun c2 => ?_)
  · refine lv_iload_n hx hb dX12_roll_337 rfl (lv_at hl 1 rfl) ?_
    refine r_if_ne (tgt := 345) hx hb dX12_roll_338 (by decide) (fun c3 => ?_) (fun c3 => ?_)
    · refine lv_iload_n hx hb dX12_roll_345 rfl (lv_at hl 3 rfl) ?_
      exact r_iret hx hb hr hK hP hS hk dX12_roll_346 (show P_X12_roll σ0 τ0 a1 b N nm hc mm mc x3 σ τ from ⟨hR, hF, hFL, by omega, by first | exact Or.inl ⟨by omega, by omega, by omega⟩ | exact Or.inr ⟨by omega, by omega⟩ | (obtain ⟨f, e1, x1, x2⟩ := o1.no (by omega); exact Or.inr ⟨by omega, by rw [kndP_l (f := f) (by rw [irq, rolP_f (by omega) (by omega) e1])]; omega⟩) | (obtain ⟨f, e2, x1, x2⟩ := o2.no (by omega); exact Or.inr ⟨by omega, by rw [kndP_l (f := f) (by rw [irq, rolP_t (by omega) (by omega) e1 e2])]; omega⟩), gRV, gWJ, gWK⟩)
    · exfalso; omega
  · refine lv_aload_n hx hb dX12_roll_307 rfl (lv_at hl 0 rfl) ?_
    refine fg_12_27 (k := 387) hx hb hts in_X12_roll_12 hown hK hP (by decide) (by decide) (hts _ lk_X12_roll_62) dX12_roll_308 ?_
    refine r_bipush hx hb dX12_roll_311 (by decide) (fun z4 ez4 => ?_)
    refine lv_aload_n hx hb dX12_roll_313 rfl (lv_at hl 0 rfl) ?_
    refine fg_12_29 (k := 387) hx hb hts in_X12_roll_12 hown hK hP (by decide) (by decide) (hts _ lk_X12_roll_256) dX12_roll_314 ?_
    refine r_iconst hx hb dX12_roll_317 (by decide) (fun z5 ez5 => ?_)
    refine r_isub hx hb dX12_roll_318 (by omega) (fun z6 ez6 => ?_)
    refine r_imulL (n := 35) hx hb dX12_roll_319 (by omega) (by omega) (fun z7 ez7 => ?_)
    refine lv_iload hx hb dX12_roll_320 (lv_at hl 4 rfl) ?_
    refine r_iadd hx hb dX12_roll_322 (by omega) (fun z8 ez8 => ?_)
    refine lv_aload_n hx hb dX12_roll_323 rfl (lv_at hl 0 rfl) ?_
    refine fg_12_28 (k := 387) hx hb hts in_X12_roll_12 hown hK hP (by decide) (by decide) (hts _ lk_X12_roll_65) dX12_roll_324 ?_
    refine lv_iload hx hb dX12_roll_327 (lv_at hl 4 rfl) ?_
    obtain ⟨j9, ej9⟩ : ∃ j : Nat, x4.toInt = (j : Int) := ⟨_, ti_nat (by omega)⟩
    refine ad_mbefore (k := 399) (j := j9) hx hb hK hP (by decide) (by decide) ej9 (by omega) dX12_roll_329 ?_
    obtain ⟨j10, ej10⟩ : ∃ j : Nat, z8.toInt = (j : Int) := ⟨_, ti_nat (by omega)⟩
    refine as_mundone (k := 398) (j := j10) hx hb hK hP hI hR hS (by decide) (by decide) ej10 (by omega) (mc_ub hR (((σ 387 29).toInt - 1).toNat) (by omega) (by omega) (by omega)) dX12_roll_330 (fun σ11 H11 locs11 u11 v11 hR hP hS => ?_)
    have hF := hF.puts u11 7 rfl (by decide) (by decide) (by omega) (by omega)
    have gWJ := gWJ.ag (Agr.putV u11 (by intro q hq; simp only [Gd_WJ, List.mem_cons, List.not_mem_nil, or_false] at hq; rcases hq with rfl <;> dsimp only [inRc] <;> omega))
    have gWK := gWK.ag (Agr.putV u11 (by intro q hq; simp only [Gd_WK, List.mem_cons, List.not_mem_nil, or_false] at hq; rcases hq with rfl <;> dsimp only [inRc] <;> omega))
    have t12 : (σ11 387 3).toInt = (σ 387 3).toInt := congrArg Int32.toInt (u11 387 3 (by omega))
    have t13 : (σ11 387 2).toInt = (σ 387 2).toInt := congrArg Int32.toInt (u11 387 2 (by omega))
    have t14 : (σ11 387 15).toInt = (σ 387 15).toInt := congrArg Int32.toInt (u11 387 15 (by omega))
    have t15 : (σ11 387 34).toInt = (σ 387 34).toInt := congrArg Int32.toInt (u11 387 34 (by omega))
    have t16 : (σ11 387 4).toInt = (σ 387 4).toInt := congrArg Int32.toInt (u11 387 4 (by omega))
    have t17 : (σ11 387 11).toInt = (σ 387 11).toInt := congrArg Int32.toInt (u11 387 11 (by omega))
    have t18 : (σ11 389 211).toInt = (σ 389 211).toInt := congrArg Int32.toInt (u11 389 211 (by omega))
    have t19 : (σ11 400 2).toInt = (σ 400 2).toInt := congrArg Int32.toInt (u11 400 2 (by omega))
    have t20 : (σ11 400 3).toInt = (σ 400 3).toInt := congrArg Int32.toInt (u11 400 3 (by omega))
    have t21 : (σ11 400 1).toInt = (σ 400 1).toInt := congrArg Int32.toInt (u11 400 1 (by omega))
    have t22 : (σ11 387 29).toInt = (σ 387 29).toInt := congrArg Int32.toInt (u11 387 29 (by omega))
    have t23 : (σ11 399 j9).toInt = (σ 399 j9).toInt := congrArg Int32.toInt (u11 399 j9 (by omega))
    refine r_iinc (k := 4) (lv1 := fun z24 => [(4, .int z24), (0, .ref (ad 387)), (1, .int a1), (2, .int x2), (3, .int x3)]) hx hb dX12_roll_331 hl rfl (by decide) (fun _ => rfl) (by decide) (by omega) (fun z24 ls ez24 hl => ?_)
    refine lv_goto (tgt := 300) hx hb dX12_roll_334 (by decide) ?_
    exact K300 σ11 τ H11 locs11 x2 x3 z24 ls hR hF hFL hP hS (by omega) (by omega) (by omega) (by omega) (by omega) (by omega) (by omega) (by omega) (by omega) (by omega) (by omega) (by omega) gRV gWJ gWK (lv_sub hl [1, 2, 3, 4, 0] rfl) (by omega)
theorem A_X12_roll (p : Program) (l : Launch) (e : Env) (s : State) (m : MethodId) (args : Array Value) (below : List Frame) (meth : Method) (c : Code) (D : va_G) (cA : Nat → ClassId) (ad : Nat → Nat) (σ0 : Nat → Nat → Int32) (τ0 : Nat → Nat → Int64) (a1 : Int32) (b : Nat → Int) (N : Nat) (nm : Nat → Int) (hc : Nat) (mm : Nat → Int) (mc : Nat) (C : Cy p s m args meth c cX12_roll 7 wsX12_roll RX12 D cA ad (some .int)) (hpre0 : (σ0 387 2).toInt = (N : Int) ∧ N ≤ 940 ∧ ∀ j : Nat, j < N → bM σ0 j = b j) (gRV0 : RV τ0 ) (gWJ0 : WJ σ0 τ0 nm hc) (gWK0 : WK σ0 τ0 mm mc) : ∀ n : Nat, J_X12_roll_39 p l e s m args below meth c D cA ad σ0 τ0 a1 b N nm hc mm mc n ∧ J_X12_roll_89 p l e s m args below meth c D cA ad σ0 τ0 a1 b N nm hc mm mc n ∧ J_X12_roll_120 p l e s m args below meth c D cA ad σ0 τ0 a1 b N nm hc mm mc n ∧ J_X12_roll_300 p l e s m args below meth c D cA ad σ0 τ0 a1 b N nm hc mm mc n := by
  intro n
  induction n with
  | zero =>
    exact ⟨(by intro σ τ H locs fu nn q ls hR hF hFL hP hS hc0 hc1 hc2 hc3 hc4 hc5 irq itn ifu in4 iz15 gRV gWJ gWK gMLt gMT gMK hl hm; exfalso; omega), (by intro σ τ H locs x2 ls hR hF hFL hP hS hc0 hc1 hc2 hc3 hc4 hc5 hc6 hc7 ikr gRV gWJ gWK gMLt hl hm; exfalso; omega), (by intro σ τ H locs x2 x3 x4 ls hR hF hFL hP hS hc0 hc1 hc2 hc3 hc4 hc5 hc6 hc7 hc8 ikr gRV gWJ gWK gMLt hl hm; exfalso; omega), (by intro σ τ H locs x2 x3 x4 ls hR hF hFL hP hS hc0 hc1 hc2 hc3 hc4 hc5 hc6 hc7 hc8 hc9 hi0 ikr gRV gWJ gWK hl hm; exfalso; omega)⟩
  | succ n ih =>
    exact ⟨B_X12_roll_39 p l e s m args below meth c D cA ad σ0 τ0 a1 b N nm hc mm mc n C hpre0 gRV0 gWJ0 gWK0 ih.1 ih.2.1 ih.2.2.1 ih.2.2.2, B_X12_roll_89 p l e s m args below meth c D cA ad σ0 τ0 a1 b N nm hc mm mc n C hpre0 gRV0 gWJ0 gWK0 ih.1 ih.2.1 ih.2.2.1 ih.2.2.2, B_X12_roll_120 p l e s m args below meth c D cA ad σ0 τ0 a1 b N nm hc mm mc n C hpre0 gRV0 gWJ0 gWK0 ih.1 ih.2.1 ih.2.2.1 ih.2.2.2, B_X12_roll_300 p l e s m args below meth c D cA ad σ0 τ0 a1 b N nm hc mm mc n C hpre0 gRV0 gWJ0 gWK0 ih.1 ih.2.1 ih.2.2.1 ih.2.2.2⟩
set_option maxHeartbeats 4000000 in
theorem c_X12_roll (l : Launch) (D : va_G) (cA : Nat → ClassId) (ad : Nat → Nat) (hI : Inj ad) (σ0 : Nat → Nat → Int32) (τ0 : Nat → Nat → Int64) (hR : Rg σ0) (a1 : Int32) (b : Nat → Int) (N : Nat) (nm : Nat → Int) (hc : Nat) (mm : Nat → Int) (mc : Nat) (hpre0 : (σ0 387 2).toInt = (N : Int) ∧ N ≤ 940 ∧ ∀ j : Nat, j < N → bM σ0 j = b j) (gRV0 : RV τ0 ) (gWJ0 : WJ σ0 τ0 nm hc) (gWK0 : WK σ0 τ0 mm mc) : Met l yX12_roll wsX12_roll ({ frames := 6, cells := 0, slots := 0, locals := 135 } : Room) (WQc D cA ad [.ref (ad 387), .int a1] σ0 τ0) (va_Qi (fun (r : Int32) (u : SS) => P_X12_roll σ0 τ0 a1 b N nm hc mm mc r u.1 u.2) (WB D cA ad) (AA ad)) 0 0 (AA ad) := by
  refine Met.ofW (cc := cX12_roll) (maxL := 7) (ret := (some .int)) (by decide) rfl ?_
  intro p e s m args below meth c s₁ B hml hv
  obtain ⟨rfl, hP, hK, hN⟩ := hv
  have C : Cy p s m _ meth c cX12_roll 7 wsX12_roll RX12 D cA ad (some .int) := ⟨B.exec, B.bytes, hml, findClass_of_methodNamed B.named, atoms_spec (ws := wsX12_roll) B.pre, hK, B.notSynchronized, B.returns, hI, hN⟩
  have hl := lv_entry ([.ref (ad 387), .int a1]) (n := 7) (Nat.le_of_ble_eq_true rfl)
  rw [lg_entry_eq]
  generalize (lg_sl ([.ref (ad 387), .int a1]) ++ List.replicate (7 - (lg_sl ([.ref (ad 387), .int a1])).length) Slot.unset).toArray = ls at hl ⊢
  have hl : lv_has ls 7 [(0, .ref (ad 387)), (1, .int a1)] := hl
  have hS : va_S (AA ad) s.heap s.heap [] := va_S.rf
  have hF : Fr L_X12_roll σ0 σ0 := Fr.rf
  have hFL : FrL LL_X12_roll τ0 τ0 := FrL.rf
  have gRV := gRV0
  have gWJ := gWJ0
  have gWK := gWK0
  have hA := A_X12_roll p l e s m _ below meth c D cA ad σ0 τ0 a1 b N nm hc mm mc C hpre0 gRV0 gWJ0 gWK0 39418931
  have K39 := hA.1
  have K89 := hA.2.1
  have K120 := hA.2.2.1
  have K300 := hA.2.2.2
  clear hA
  obtain ⟨hx, hb, _, hown, hts, _, hk, hr, _, _⟩ := C
  have hrt4 := rg_12_4 hR (k := 387) (by decide) (by decide)
  have hrt3 := rg_12_3 hR (k := 387) (by decide) (by decide)
  have hrt34 := rg_12_34 hR (k := 387) (by decide) (by decide)
  have hrt29 := rg_12_29 hR (k := 387) (by decide) (by decide)
  have hrt2 := rg_12_2 hR (k := 387) (by decide) (by decide)
  refine lv_aload_n hx hb dX12_roll_0 rfl (lv_at hl 0 rfl) ?_
  refine r_iconst hx hb dX12_roll_1 (by decide) (fun z1 ez1 => ?_)
  refine fp_12_0 (k := 387) hx hb hts in_X12_roll_12 hown hK hP (by decide) (by decide) (hts _ lk_X12_roll_1) hI hR hS (by omega) dX12_roll_2 (fun σ2 H2 locs2 u2 v2 hR hP hS => ?_)
  have uq2 := u2
  have vq2 := v2
  have hF := hF.puts u2 0 rfl (by decide) (by decide) (by decide) (by decide)
  have gWJ := gWJ.ag (Agr.put u2 (by decide))
  have gWK := gWK.ag (Agr.put u2 (by decide))
  have t3 : (σ2 387 4).toInt = (σ0 387 4).toInt := congrArg Int32.toInt (u2 387 4 (by omega))
  have t4 : (σ2 387 3).toInt = (σ0 387 3).toInt := congrArg Int32.toInt (u2 387 3 (by omega))
  have t5 : (σ2 387 11).toInt = (σ0 387 11).toInt := congrArg Int32.toInt (u2 387 11 (by omega))
  have t6 : (σ2 387 34).toInt = (σ0 387 34).toInt := congrArg Int32.toInt (u2 387 34 (by omega))
  have t7 : (σ2 387 29).toInt = (σ0 387 29).toInt := congrArg Int32.toInt (u2 387 29 (by omega))
  have t8 : (σ2 387 2).toInt = (σ0 387 2).toInt := congrArg Int32.toInt (u2 387 2 (by omega))
  have t9 : (σ2 387 15).toInt = (σ0 387 15).toInt := congrArg Int32.toInt (u2 387 15 (by omega))
  refine lv_iload_n hx hb dX12_roll_5 rfl (lv_at hl 1 rfl) ?_
  refine r_iconst hx hb dX12_roll_6 (by decide) (fun z10 ez10 => ?_)
  refine r_iconst hx hb dX12_roll_7 (by decide) (fun z11 ez11 => ?_)
  refine r_cSi (As := [.int a1, .int z10, .int z11]) (rest := []) ⟨hx, hb, hml, hown, hts⟩ hK hP hN hS (c_X12_isIn l D cA ad hI σ2 τ0 hR a1 z10 z11) (va_cwS 3 hts gX12_roll_X12_isIn rfl rfl rfl (by decide +kernel) ⟨by decide, by decide⟩) rfl hl.1 rfl (Nat.le_of_ble_eq_true rfl) dX12_roll_8 (Nat.zero_le _) (Nat.zero_le _) (fun r12 u12 H12 locs12 hp12 hP hS => ?_)
  obtain ⟨σ12, τ12⟩ := u12
  obtain ⟨hR, f12, fL12, hq12, hp12_0, hp12_1⟩ : P_X12_isIn σ2 τ0 a1 z10 z11 r12 σ12 τ12 := hp12
  have hP : va_P D vwCl (gw cA ad σ12 τ12) H12 := hP
  obtain rfl := FrL.nil fL12
  obtain rfl := Fr.nil f12
  refine r_if_ne (tgt := 18) hx hb dX12_roll_11 (by decide) (fun c13 => ?_) (fun c13 => ?_)
  · replace hp12_0 := hp12_0.resolve_left (by omega)
    refine lv_aload_n hx hb dX12_roll_18 rfl (lv_at hl 0 rfl) ?_
    refine r_sipush hx hb dX12_roll_19 (by decide) (fun z14 ez14 => ?_)
    refine r_cVv (k := 387) (As := [.int z14]) (rest := []) ⟨hx, hb, hml, hown, hts⟩ hK hP hN hS (c_X12_taken l D cA ad hI σ2 τ0 hR z14 (by omega)) (cwV 1 hts gX12_roll_X12_taken rfl rfl rfl (by decide +kernel) ⟨by decide, by decide⟩) (rv_M hK hP (by decide) (by decide)) rfl hl.1 rfl (Nat.le_of_ble_eq_true rfl) dX12_roll_22 (Nat.zero_le _) (Nat.zero_le _) (fun u15 H15 locs15 hp15 hP hS => ?_)
    obtain ⟨σ15, τ15⟩ := u15
    obtain ⟨hR, f15, fL15, hp15_0, hp15_1, hp15_2, hp15_3⟩ : P_X12_taken σ2 τ0 z14 σ15 τ15 := hp15
    have fq22 := f15
    have hP : va_P D vwCl (gw cA ad σ15 τ15) H15 := hP
    obtain rfl := FrL.nil fL15
    have hF := hF.step f15 (by decide)
    have gWJ := gWJ.ag (Agr.fr f15 (by decide))
    have gWK := gWK.ag (Agr.fr f15 (by decide))
    have t16 : (σ15 387 11).toInt = (σ2 387 11).toInt := congrArg Int32.toInt (f15.at 387 11 (by decide))
    have t17 : (σ15 387 34).toInt = (σ2 387 34).toInt := congrArg Int32.toInt (f15.at 387 34 (by decide))
    have t18 : (σ15 387 29).toInt = (σ2 387 29).toInt := congrArg Int32.toInt (f15.at 387 29 (by decide))
    have t19 : (σ15 387 15).toInt = (σ2 387 15).toInt := congrArg Int32.toInt (f15.at 387 15 (by decide))
    have hr20 := rg_12_4 hR (k := 387) (by decide) (by decide)
    have hr21 := rg_12_3 hR (k := 387) (by decide) (by decide)
    have hr22 := rg_12_2 hR (k := 387) (by decide) (by decide)
    have gMT : MT σ15 b N 400 := MT.of uq2 fq22 (by decide) (by decide) (by omega) (by omega) hpre0.2.1 hpre0.2.2
    refine lv_aload_n hx hb dX12_roll_25 rfl (lv_at hl 0 rfl) ?_
    refine r_iconst hx hb dX12_roll_26 (by decide) (fun z23 ez23 => ?_)
    refine fp_12_15 (k := 387) hx hb hts in_X12_roll_12 hown hK hP (by decide) (by decide) (hts _ lk_X12_roll_176) hI hR hS dX12_roll_27 (fun σ24 H24 locs24 u24 v24 hR hP hS => ?_)
    have hF := hF.puts u24 10 rfl (by decide) (by decide) (by decide) (by decide)
    have gMT := gMT.ag (Agr.put u24 (by decide))
    have gWJ := gWJ.ag (Agr.put u24 (by decide))
    have gWK := gWK.ag (Agr.put u24 (by decide))
    have t25 : (σ24 387 11).toInt = (σ15 387 11).toInt := congrArg Int32.toInt (u24 387 11 (by omega))
    have t26 : (σ24 387 34).toInt = (σ15 387 34).toInt := congrArg Int32.toInt (u24 387 34 (by omega))
    have t27 : (σ24 387 29).toInt = (σ15 387 29).toInt := congrArg Int32.toInt (u24 387 29 (by omega))
    have t28 : (σ24 387 4).toInt = (σ15 387 4).toInt := congrArg Int32.toInt (u24 387 4 (by omega))
    have t29 : (σ24 387 3).toInt = (σ15 387 3).toInt := congrArg Int32.toInt (u24 387 3 (by omega))
    have t30 : (σ24 387 2).toInt = (σ15 387 2).toInt := congrArg Int32.toInt (u24 387 2 (by omega))
    refine lv_aload_n hx hb dX12_roll_30 rfl (lv_at hl 0 rfl) ?_
    refine r_iconst hx hb dX12_roll_31 (by decide) (fun z31 ez31 => ?_)
    refine fp_12_34 (k := 387) hx hb hts in_X12_roll_12 hown hK hP (by decide) (by decide) (hts _ lk_X12_roll_416) hI hR hS (by omega) dX12_roll_32 (fun σ32 H32 locs32 u32 v32 hR hP hS => ?_)
    have hF := hF.puts u32 2 rfl (by decide) (by decide) (by decide) (by decide)
    have gMT := gMT.ag (Agr.put u32 (by decide))
    have gWJ := gWJ.ag (Agr.put u32 (by decide))
    have gWK := gWK.ag (Agr.put u32 (by decide))
    have t33 : (σ32 387 11).toInt = (σ24 387 11).toInt := congrArg Int32.toInt (u32 387 11 (by omega))
    have t34 : (σ32 387 29).toInt = (σ24 387 29).toInt := congrArg Int32.toInt (u32 387 29 (by omega))
    have t35 : (σ32 387 4).toInt = (σ24 387 4).toInt := congrArg Int32.toInt (u32 387 4 (by omega))
    have t36 : (σ32 387 3).toInt = (σ24 387 3).toInt := congrArg Int32.toInt (u32 387 3 (by omega))
    have t37 : (σ32 387 2).toInt = (σ24 387 2).toInt := congrArg Int32.toInt (u32 387 2 (by omega))
    have t38 : (σ32 387 15).toInt = (σ24 387 15).toInt := congrArg Int32.toInt (u32 387 15 (by omega))
    have gMLt := MLt.zero (σ := σ32) (by omega)
    have gMP : MP σ32 b N 400 (posq b N 400 0) := ⟨0, by omega, Nat.zero_le _, rfl⟩
    refine lv_aload_n hx hb dX12_roll_35 rfl (lv_at hl 0 rfl) ?_
    refine r_cVv (k := 387) (As := []) (rest := []) ⟨hx, hb, hml, hown, hts⟩ hK hP hN hS (c_X12_next_v l D cA ad hI σ32 τ0 hR b N 400 _ gMP gMT) (cwV 0 hts gX12_roll_X12_next rfl rfl rfl (by decide +kernel) ⟨by decide, by decide⟩) (rv_M hK hP (by decide) (by decide)) rfl hl.1 rfl (Nat.le_of_ble_eq_true rfl) dX12_roll_36 (Nat.zero_le _) (Nat.zero_le _) (fun u39 H39 locs39 hp39 hP hS => ?_)
    obtain ⟨σ39, τ39⟩ := u39
    obtain ⟨hR, f39, fL39, hp39_0, hp39_1, hp39_2, hp39_3, gnMT⟩ : P_X12_next_v σ32 τ0 b N 400 _ σ39 τ39 := hp39
    have hP : va_P D vwCl (gw cA ad σ39 τ39) H39 := hP
    have hFL := hFL.step fL39 (by decide)
    have gRV := gRV.agL (AgrL.fr fL39 (by decide))
    have gWJ := gWJ.agL (AgrL.fr fL39 (by decide))
    have gWK := gWK.agL (AgrL.fr fL39 (by decide))
    have hF := hF.step f39 (by decide)
    have gMLt := MLt.fr gMLt hR f39 (by decide)
    have gMT := gMT.ag (Agr.fr f39 (by decide))
    have gWJ := gWJ.ag (Agr.fr f39 (by decide))
    have gWK := gWK.ag (Agr.fr f39 (by decide))
    have t40 : (σ39 387 29).toInt = (σ32 387 29).toInt := congrArg Int32.toInt (f39.at 387 29 (by decide))
    have t41 : (σ39 387 3).toInt = (σ32 387 3).toInt := congrArg Int32.toInt (f39.at 387 3 (by decide))
    have t42 : (σ39 387 2).toInt = (σ32 387 2).toInt := congrArg Int32.toInt (f39.at 387 2 (by decide))
    have t43 : (σ39 387 15).toInt = (σ32 387 15).toInt := congrArg Int32.toInt (f39.at 387 15 (by decide))
    have t44 : (σ39 387 34).toInt = (σ32 387 34).toInt := congrArg Int32.toInt (f39.at 387 34 (by decide))
    have hr45 := rg_12_4 hR (k := 387) (by decide) (by decide)
    have gMK := hp39_3
    exact K39 σ39 τ39 H39 locs39 42 0 _ ls hR hF hFL hP hS (by omega) (by omega) (by omega) (by omega) (by omega) (by omega) (by first | rfl | rw [irq, rolP_s (by omega) (by omega) e1 e2]) (by omega) (by omega) (by omega) (by omega) gRV gWJ gWK gMLt gMT gMK (lv_sub hl [0, 1] rfl) (by omega)
  · clear hp12_0
    refine r_sipush hx hb dX12_roll_14 (by decide) (fun z46 ez46 => ?_)
    exact r_iret hx hb hr hK hP hS hk dX12_roll_17 (show P_X12_roll σ0 τ0 a1 b N nm hc mm mc z46 σ2 τ0 from ⟨hR, hF, hFL, by omega, by first | exact Or.inl ⟨by omega, by omega, by omega⟩ | exact Or.inr ⟨by omega, by omega⟩ | (obtain ⟨f, e1, x1, x2⟩ := o1.no (by omega); exact Or.inr ⟨by omega, by rw [kndP_l (f := f) (by rw [irq, rolP_f (by omega) (by omega) e1])]; omega⟩) | (obtain ⟨f, e2, x1, x2⟩ := o2.no (by omega); exact Or.inr ⟨by omega, by rw [kndP_l (f := f) (by rw [irq, rolP_t (by omega) (by omega) e1 e2])]; omega⟩), gRV, gWJ, gWK⟩)
