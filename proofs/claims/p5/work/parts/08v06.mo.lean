abbrev L_X12_lesser : List Rc := []
abbrev LL_X12_lesser : List Rc := []
def P_X12_lesser (σ0 : Nat → Nat → Int32) (τ0 : Nat → Nat → Int64) (a0 : Int32) (a1 : Int32) (r : Int32) (σ : Nat → Nat → Int32) (τ : Nat → Nat → Int64) : Prop := Rg σ ∧ Fr L_X12_lesser σ0 σ ∧ FrL LL_X12_lesser τ0 τ ∧ (r.toInt ≤ 99)
set_option maxHeartbeats 4000000 in
theorem c_X12_lesser (l : Launch) (D : va_G) (cA : Nat → ClassId) (ad : Nat → Nat) (hI : Inj ad) (σ0 : Nat → Nat → Int32) (τ0 : Nat → Nat → Int64) (hR : Rg σ0) (a0 : Int32) (a1 : Int32) (ha0 : 99 ≤ a0.toInt ∧ a0.toInt ≤ 99) : Met l yX12_lesser wsX12_lesser ({ frames := 0, cells := 0, slots := 0, locals := 0 } : Room) (WQc D cA ad [.int a0, .int a1] σ0 τ0) (va_Qi (fun (r : Int32) (u : SS) => P_X12_lesser σ0 τ0 a0 a1 r u.1 u.2) (WB D cA ad) (AA ad)) 0 0 (AA ad) := by
  refine Met.ofW (cc := cX12_lesser) (maxL := 2) (ret := (some .int)) (by decide) rfl ?_
  intro p e s m args below meth c s₁ B hml hv
  obtain ⟨rfl, hP, hK, hN⟩ := hv
  have C : Cy p s m _ meth c cX12_lesser 2 wsX12_lesser RX12 D cA ad (some .int) := ⟨B.exec, B.bytes, hml, findClass_of_methodNamed B.named, atoms_spec (ws := wsX12_lesser) B.pre, hK, B.notSynchronized, B.returns, hI, hN⟩
  have hl := lv_entry ([.int a0, .int a1]) (n := 2) (Nat.le_of_ble_eq_true rfl)
  rw [lg_entry_eq]
  generalize (lg_sl ([.int a0, .int a1]) ++ List.replicate (2 - (lg_sl ([.int a0, .int a1])).length) Slot.unset).toArray = ls at hl ⊢
  have hl : lv_has ls 2 [(0, .int a0), (1, .int a1)] := hl
  have hS : va_S (AA ad) s.heap s.heap [] := va_S.rf
  have hF : Fr L_X12_lesser σ0 σ0 := Fr.rf
  have hFL : FrL LL_X12_lesser τ0 τ0 := FrL.rf
  obtain ⟨hx, hb, _, hown, hts, _, hk, hr, _, _⟩ := C
  refine lv_iload_n hx hb dX12_lesser_0 rfl (lv_at hl 0 rfl) ?_
  refine lv_iload_n hx hb dX12_lesser_1 rfl (lv_at hl 1 rfl) ?_
  refine r_icmp_ge (tgt := 9) hx hb dX12_lesser_2 (by decide) (fun c1 => ?_) (fun c1 => ?_)
  · refine lv_iload_n hx hb dX12_lesser_9 rfl (lv_at hl 1 rfl) ?_
    exact r_iret hx hb hr hK hP hS hk dX12_lesser_10 (show P_X12_lesser σ0 τ0 a0 a1 a1 σ0 τ0 from ⟨hR, hF, hFL, by omega⟩)
  · refine lv_iload_n hx hb dX12_lesser_5 rfl (lv_at hl 0 rfl) ?_
    refine lv_goto (tgt := 10) hx hb dX12_lesser_6 (by decide) ?_
    exact r_iret hx hb hr hK hP hS hk dX12_lesser_10 (show P_X12_lesser σ0 τ0 a0 a1 a0 σ0 τ0 from ⟨hR, hF, hFL, by omega⟩)
theorem in_X12_hours_12 : ∀ w ∈ u_ws RX12 TX12 47, w ∈ wsX12_hours := by decide +kernel
theorem lk_X12_hours_1 : Cond.fieldLink RX12 1 "CuckooSharesModel" "thrown" "I" ∈ wsX12_hours := by decide +kernel
theorem lk_X12_hours_33 : Cond.fieldLink RX12 33 "CuckooSharesModel" "s" "[I" ∈ wsX12_hours := by decide +kernel
abbrev L_X12_hours : List Rc := [(387, 387, 0, 0), (387, 387, 29, 29), (398, 398, 0, 279), (389, 389, 213, 213)]
abbrev LL_X12_hours : List Rc := []
def P_X12_hours (σ0 : Nat → Nat → Int32) (τ0 : Nat → Nat → Int64) (a1 : Int32) (r : Int32) (σ : Nat → Nat → Int32) (τ : Nat → Nat → Int64) : Prop := Rg σ ∧ Fr L_X12_hours σ0 σ ∧ FrL LL_X12_hours τ0 τ ∧ (r.toInt ≤ 99)
set_option maxHeartbeats 4000000 in
theorem c_X12_hours (l : Launch) (D : va_G) (cA : Nat → ClassId) (ad : Nat → Nat) (hI : Inj ad) (σ0 : Nat → Nat → Int32) (τ0 : Nat → Nat → Int64) (hR : Rg σ0) (a1 : Int32)  : Met l yX12_hours wsX12_hours ({ frames := 1, cells := 0, slots := 0, locals := 22 } : Room) (WQc D cA ad [.ref (ad 387), .int a1] σ0 τ0) (va_Qi (fun (r : Int32) (u : SS) => P_X12_hours σ0 τ0 a1 r u.1 u.2) (WB D cA ad) (AA ad)) 0 0 (AA ad) := by
  refine Met.ofW (cc := cX12_hours) (maxL := 2) (ret := (some .int)) (by decide) rfl ?_
  intro p e s m args below meth c s₁ B hml hv
  obtain ⟨rfl, hP, hK, hN⟩ := hv
  have C : Cy p s m _ meth c cX12_hours 2 wsX12_hours RX12 D cA ad (some .int) := ⟨B.exec, B.bytes, hml, findClass_of_methodNamed B.named, atoms_spec (ws := wsX12_hours) B.pre, hK, B.notSynchronized, B.returns, hI, hN⟩
  have hl := lv_entry ([.ref (ad 387), .int a1]) (n := 2) (Nat.le_of_ble_eq_true rfl)
  rw [lg_entry_eq]
  generalize (lg_sl ([.ref (ad 387), .int a1]) ++ List.replicate (2 - (lg_sl ([.ref (ad 387), .int a1])).length) Slot.unset).toArray = ls at hl ⊢
  have hl : lv_has ls 2 [(0, .ref (ad 387)), (1, .int a1)] := hl
  have hS : va_S (AA ad) s.heap s.heap [] := va_S.rf
  have hF : Fr L_X12_hours σ0 σ0 := Fr.rf
  have hFL : FrL LL_X12_hours τ0 τ0 := FrL.rf
  obtain ⟨hx, hb, _, hown, hts, _, hk, hr, _, _⟩ := C
  refine lv_aload_n hx hb dX12_hours_0 rfl (lv_at hl 0 rfl) ?_
  refine r_iconst hx hb dX12_hours_1 (by decide) (fun z1 ez1 => ?_)
  refine fp_12_0 (k := 387) hx hb hts in_X12_hours_12 hown hK hP (by decide) (by decide) (hts _ lk_X12_hours_1) hI hR hS (by omega) dX12_hours_2 (fun σ2 H2 locs2 u2 v2 hR hP hS => ?_)
  have hF := hF.puts u2 0 rfl (by decide) (by decide) (by decide) (by decide)
  refine lv_iload_n hx hb dX12_hours_5 rfl (lv_at hl 1 rfl) ?_
  refine r_iconst hx hb dX12_hours_6 (by decide) (fun z3 ez3 => ?_)
  refine r_bipush hx hb dX12_hours_7 (by decide) (fun z4 ez4 => ?_)
  refine r_cSi (As := [.int a1, .int z3, .int z4]) (rest := []) ⟨hx, hb, hml, hown, hts⟩ hK hP hN hS (c_X12_isIn l D cA ad hI σ2 τ0 hR a1 z3 z4) (va_cwS 3 hts gX12_hours_X12_isIn rfl rfl rfl (by decide +kernel) ⟨by decide, by decide⟩) rfl hl.1 rfl (Nat.le_of_ble_eq_true rfl) dX12_hours_9 (Nat.zero_le _) (Nat.zero_le _) (fun r5 u5 H5 locs5 hp5 hP hS => ?_)
  obtain ⟨σ5, τ5⟩ := u5
  obtain ⟨hR, f5, fL5, hq5, hp5_0, hp5_1⟩ : P_X12_isIn σ2 τ0 a1 z3 z4 r5 σ5 τ5 := hp5
  have hP : va_P D vwCl (gw cA ad σ5 τ5) H5 := hP
  obtain rfl := FrL.nil fL5
  obtain rfl := Fr.nil f5
  refine r_if_ne (tgt := 17) hx hb dX12_hours_12 (by decide) (fun c6 => ?_) (fun c6 => ?_)
  · replace hp5_0 := hp5_0.resolve_left (by omega)
    refine lv_aload_n hx hb dX12_hours_17 rfl (lv_at hl 0 rfl) ?_
    refine r_cVv (k := 387) (As := []) (rest := []) ⟨hx, hb, hml, hown, hts⟩ hK hP hN hS (c_X12_keep l D cA ad hI σ2 τ0 hR) (cwV 0 hts gX12_hours_X12_keep rfl rfl rfl (by decide +kernel) ⟨by decide, by decide⟩) (rv_M hK hP (by decide) (by decide)) rfl hl.1 rfl (Nat.le_of_ble_eq_true rfl) dX12_hours_18 (Nat.zero_le _) (Nat.zero_le _) (fun u7 H7 locs7 hp7 hP hS => ?_)
    obtain ⟨σ7, τ7⟩ := u7
    obtain ⟨hR, f7, fL7, hp7_0⟩ : P_X12_keep σ2 τ0 σ7 τ7 := hp7
    have hP : va_P D vwCl (gw cA ad σ7 τ7) H7 := hP
    obtain rfl := FrL.nil fL7
    have hF := hF.step f7 (by decide)
    refine lv_aload_n hx hb dX12_hours_21 rfl (lv_at hl 0 rfl) ?_
    refine fg_12_6 (k := 387) hx hb hts in_X12_hours_12 hown hK hP (by decide) (by decide) (hts _ lk_X12_hours_33) dX12_hours_22 ?_
    refine r_sipush hx hb dX12_hours_25 (by decide) (fun z8 ez8 => ?_)
    refine r_bipush hx hb dX12_hours_28 (by decide) (fun z9 ez9 => ?_)
    refine lv_aload_n hx hb dX12_hours_30 rfl (lv_at hl 0 rfl) ?_
    refine fg_12_6 (k := 387) hx hb hts in_X12_hours_12 hown hK hP (by decide) (by decide) (hts _ lk_X12_hours_33) dX12_hours_31 ?_
    refine r_sipush hx hb dX12_hours_34 (by decide) (fun z10 ez10 => ?_)
    refine ad_ms (k := 389) (j := 213) hx hb hK hP (by decide) (by decide) (by omega) (by omega) dX12_hours_37 ?_
    refine lv_iload_n hx hb dX12_hours_38 rfl (lv_at hl 1 rfl) ?_
    refine r_iaddU hx hb dX12_hours_39 (fun z11 => ?_)
    refine r_cSi (As := [.int z9, .int z11]) (rest := [.int z8, .ref (ad 389)]) ⟨hx, hb, hml, hown, hts⟩ hK hP hN hS (c_X12_lesser l D cA ad hI σ7 τ0 hR z9 z11 (by omega)) (va_cwS 2 hts gX12_hours_X12_lesser rfl rfl rfl (by decide +kernel) ⟨by decide, by decide⟩) rfl hl.1 rfl (Nat.le_of_ble_eq_true rfl) dX12_hours_40 (Nat.zero_le _) (Nat.zero_le _) (fun r12 u12 H12 locs12 hp12 hP hS => ?_)
    obtain ⟨σ12, τ12⟩ := u12
    obtain ⟨hR, f12, fL12, hq12⟩ : P_X12_lesser σ7 τ0 z9 z11 r12 σ12 τ12 := hp12
    have hP : va_P D vwCl (gw cA ad σ12 τ12) H12 := hP
    obtain rfl := FrL.nil fL12
    obtain rfl := Fr.nil f12
    refine as_ms (k := 389) (j := 213) hx hb hK hP hI hR hS (by decide) (by decide) (by omega) (by omega) (rx_ms_213 (by decide) (by decide) (by decide) (by decide)) dX12_hours_43 (fun σ13 H13 locs13 u13 v13 hR hP hS => ?_)
    have hF := hF.puts u13 3 rfl (by decide) (by decide) (by decide) (by decide)
    have t14 : (σ13 387 29).toInt = (σ7 387 29).toInt := congrArg Int32.toInt (u13 387 29 (by omega))
    refine lv_aload_n hx hb dX12_hours_44 rfl (lv_at hl 0 rfl) ?_
    refine fg_12_6 (k := 387) hx hb hts in_X12_hours_12 hown hK hP (by decide) (by decide) (hts _ lk_X12_hours_33) dX12_hours_45 ?_
    refine r_sipush hx hb dX12_hours_48 (by decide) (fun z15 ez15 => ?_)
    refine ad_ms (k := 389) (j := 213) hx hb hK hP (by decide) (by decide) (by omega) (by omega) dX12_hours_51 ?_
    exact r_iret hx hb hr hK hP hS hk dX12_hours_52 (show P_X12_hours σ0 τ0 a1 (σ13 389 213) σ13 τ0 from ⟨hR, hF, hFL, by omega⟩)
  · clear hp5_0
    refine r_iconst hx hb dX12_hours_15 (by decide) (fun z16 ez16 => ?_)
    exact r_iret hx hb hr hK hP hS hk dX12_hours_16 (show P_X12_hours σ0 τ0 a1 z16 σ2 τ0 from ⟨hR, hF, hFL, by omega⟩)
theorem in_X12_whyMove_12 : ∀ w ∈ u_ws RX12 TX12 47, w ∈ wsX12_whyMove := by decide +kernel
theorem lk_X12_whyMove_33 : Cond.fieldLink RX12 33 "CuckooSharesModel" "s" "[I" ∈ wsX12_whyMove := by decide +kernel
abbrev L_X12_whyMove : List Rc := []
abbrev LL_X12_whyMove : List Rc := []
def P_X12_whyMove (σ0 : Nat → Nat → Int32) (τ0 : Nat → Nat → Int64) (a1 : Int32) (a2 : Int32) (r : Int32) (σ : Nat → Nat → Int32) (τ : Nat → Nat → Int64) : Prop := Rg σ ∧ Fr L_X12_whyMove σ0 σ ∧ FrL LL_X12_whyMove τ0 τ ∧ (0 ≤ r.toInt ∧ r.toInt ≤ 2)
set_option maxHeartbeats 4000000 in
theorem c_X12_whyMove (l : Launch) (D : va_G) (cA : Nat → ClassId) (ad : Nat → Nat) (hI : Inj ad) (σ0 : Nat → Nat → Int32) (τ0 : Nat → Nat → Int64) (hR : Rg σ0) (a1 : Int32) (a2 : Int32) (ha1 : 0 ≤ a1.toInt ∧ a1.toInt ≤ 7) : Met l yX12_whyMove wsX12_whyMove ({ frames := 2, cells := 0, slots := 0, locals := 43 } : Room) (WQc D cA ad [.ref (ad 387), .int a1, .int a2] σ0 τ0) (va_Qi (fun (r : Int32) (u : SS) => P_X12_whyMove σ0 τ0 a1 a2 r u.1 u.2) (WB D cA ad) (AA ad)) 0 0 (AA ad) := by
  refine Met.ofW (cc := cX12_whyMove) (maxL := 3) (ret := (some .int)) (by decide) rfl ?_
  intro p e s m args below meth c s₁ B hml hv
  obtain ⟨rfl, hP, hK, hN⟩ := hv
  have C : Cy p s m _ meth c cX12_whyMove 3 wsX12_whyMove RX12 D cA ad (some .int) := ⟨B.exec, B.bytes, hml, findClass_of_methodNamed B.named, atoms_spec (ws := wsX12_whyMove) B.pre, hK, B.notSynchronized, B.returns, hI, hN⟩
  have hl := lv_entry ([.ref (ad 387), .int a1, .int a2]) (n := 3) (Nat.le_of_ble_eq_true rfl)
  rw [lg_entry_eq]
  generalize (lg_sl ([.ref (ad 387), .int a1, .int a2]) ++ List.replicate (3 - (lg_sl ([.ref (ad 387), .int a1, .int a2])).length) Slot.unset).toArray = ls at hl ⊢
  have hl : lv_has ls 3 [(0, .ref (ad 387)), (1, .int a1), (2, .int a2)] := hl
  have hS : va_S (AA ad) s.heap s.heap [] := va_S.rf
  have hF : Fr L_X12_whyMove σ0 σ0 := Fr.rf
  have hFL : FrL LL_X12_whyMove τ0 τ0 := FrL.rf
  obtain ⟨hx, hb, _, hown, hts, _, hk, hr, _, _⟩ := C
  refine lv_aload_n hx hb dX12_whyMove_0 rfl (lv_at hl 0 rfl) ?_
  refine fg_12_6 (k := 387) hx hb hts in_X12_whyMove_12 hown hK hP (by decide) (by decide) (hts _ lk_X12_whyMove_33) dX12_whyMove_1 ?_
  refine r_sipush hx hb dX12_whyMove_4 (by decide) (fun z1 ez1 => ?_)
  refine lv_iload_n hx hb dX12_whyMove_7 rfl (lv_at hl 1 rfl) ?_
  refine r_iadd hx hb dX12_whyMove_8 (by omega) (fun z2 ez2 => ?_)
  obtain ⟨j3, ej3⟩ : ∃ j : Nat, z2.toInt = (j : Int) := ⟨_, ti_nat (by omega)⟩
  refine ad_ms (k := 389) (j := j3) hx hb hK hP (by decide) (by decide) ej3 (by omega) dX12_whyMove_9 ?_
  have hr4 := ra_ms_6 hR (k := 389) (j := j3) (by decide) (by decide) (by omega) (by omega)
  refine lv_iload_n hx hb dX12_whyMove_10 rfl (lv_at hl 2 rfl) ?_
  refine r_icmp_ne (tgt := 18) hx hb dX12_whyMove_11 (by decide) (fun c5 => ?_) (fun c5 => ?_)
  · refine lv_aload_n hx hb dX12_whyMove_18 rfl (lv_at hl 0 rfl) ?_
    refine r_cVi (k := 387) (As := []) (rest := []) ⟨hx, hb, hml, hown, hts⟩ hK hP hN hS (c_X12_pastOf l D cA ad hI σ0 τ0 hR) (cwV 0 hts gX12_whyMove_X12_pastOf rfl rfl rfl (by decide +kernel) ⟨by decide, by decide⟩) (rv_M hK hP (by decide) (by decide)) rfl hl.1 rfl (Nat.le_of_ble_eq_true rfl) dX12_whyMove_19 (Nat.zero_le _) (Nat.zero_le _) (fun r6 u6 H6 locs6 hp6 hP hS => ?_)
    obtain ⟨σ6, τ6⟩ := u6
    obtain ⟨hR, f6, fL6, hq6⟩ : P_X12_pastOf σ0 τ0 r6 σ6 τ6 := hp6
    have hP : va_P D vwCl (gw cA ad σ6 τ6) H6 := hP
    obtain rfl := FrL.nil fL6
    obtain rfl := Fr.nil f6
    refine r_if_le (tgt := 29) hx hb dX12_whyMove_22 (by decide) (fun c7 => ?_) (fun c7 => ?_)
    · refine r_iconst hx hb dX12_whyMove_29 (by decide) (fun z8 ez8 => ?_)
      exact r_iret hx hb hr hK hP hS hk dX12_whyMove_30 (show P_X12_whyMove σ0 τ0 a1 a2 z8 σ0 τ0 from ⟨hR, hF, hFL, by omega⟩)
    · refine r_iconst hx hb dX12_whyMove_25 (by decide) (fun z9 ez9 => ?_)
      refine lv_goto (tgt := 30) hx hb dX12_whyMove_26 (by decide) ?_
      exact r_iret hx hb hr hK hP hS hk dX12_whyMove_30 (show P_X12_whyMove σ0 τ0 a1 a2 z9 σ0 τ0 from ⟨hR, hF, hFL, by omega⟩)
  · refine r_iconst hx hb dX12_whyMove_14 (by decide) (fun z10 ez10 => ?_)
    refine lv_goto (tgt := 30) hx hb dX12_whyMove_15 (by decide) ?_
    exact r_iret hx hb hr hK hP hS hk dX12_whyMove_30 (show P_X12_whyMove σ0 τ0 a1 a2 z10 σ0 τ0 from ⟨hR, hF, hFL, by omega⟩)
theorem in_X12_move_12 : ∀ w ∈ u_ws RX12 TX12 47, w ∈ wsX12_move := by decide +kernel
theorem lk_X12_move_1 : Cond.fieldLink RX12 1 "CuckooSharesModel" "thrown" "I" ∈ wsX12_move := by decide +kernel
theorem lk_X12_move_33 : Cond.fieldLink RX12 33 "CuckooSharesModel" "s" "[I" ∈ wsX12_move := by decide +kernel
abbrev L_X12_move : List Rc := [(387, 387, 0, 0), (387, 387, 29, 29), (398, 398, 0, 279), (389, 389, 214, 221)]
abbrev LL_X12_move : List Rc := []
def P_X12_move (σ0 : Nat → Nat → Int32) (τ0 : Nat → Nat → Int64) (a1 : Int32) (a2 : Int32) (r : Int32) (σ : Nat → Nat → Int32) (τ : Nat → Nat → Int64) : Prop := Rg σ ∧ Fr L_X12_move σ0 σ ∧ FrL LL_X12_move τ0 τ ∧ (-1 ≤ r.toInt ∧ r.toInt ≤ 2)
set_option maxHeartbeats 4000000 in
theorem c_X12_move (l : Launch) (D : va_G) (cA : Nat → ClassId) (ad : Nat → Nat) (hI : Inj ad) (σ0 : Nat → Nat → Int32) (τ0 : Nat → Nat → Int64) (hR : Rg σ0) (a1 : Int32) (a2 : Int32)  : Met l yX12_move wsX12_move ({ frames := 3, cells := 0, slots := 0, locals := 65 } : Room) (WQc D cA ad [.ref (ad 387), .int a1, .int a2] σ0 τ0) (va_Qi (fun (r : Int32) (u : SS) => P_X12_move σ0 τ0 a1 a2 r u.1 u.2) (WB D cA ad) (AA ad)) 0 0 (AA ad) := by
  refine Met.ofW (cc := cX12_move) (maxL := 4) (ret := (some .int)) (by decide) rfl ?_
  intro p e s m args below meth c s₁ B hml hv
  obtain ⟨rfl, hP, hK, hN⟩ := hv
  have C : Cy p s m _ meth c cX12_move 4 wsX12_move RX12 D cA ad (some .int) := ⟨B.exec, B.bytes, hml, findClass_of_methodNamed B.named, atoms_spec (ws := wsX12_move) B.pre, hK, B.notSynchronized, B.returns, hI, hN⟩
  have hl := lv_entry ([.ref (ad 387), .int a1, .int a2]) (n := 4) (Nat.le_of_ble_eq_true rfl)
  rw [lg_entry_eq]
  generalize (lg_sl ([.ref (ad 387), .int a1, .int a2]) ++ List.replicate (4 - (lg_sl ([.ref (ad 387), .int a1, .int a2])).length) Slot.unset).toArray = ls at hl ⊢
  have hl : lv_has ls 4 [(0, .ref (ad 387)), (1, .int a1), (2, .int a2)] := hl
  have hS : va_S (AA ad) s.heap s.heap [] := va_S.rf
  have hF : Fr L_X12_move σ0 σ0 := Fr.rf
  have hFL : FrL LL_X12_move τ0 τ0 := FrL.rf
  obtain ⟨hx, hb, _, hown, hts, _, hk, hr, _, _⟩ := C
  refine lv_aload_n hx hb dX12_move_0 rfl (lv_at hl 0 rfl) ?_
  refine r_iconst hx hb dX12_move_1 (by decide) (fun z1 ez1 => ?_)
  refine fp_12_0 (k := 387) hx hb hts in_X12_move_12 hown hK hP (by decide) (by decide) (hts _ lk_X12_move_1) hI hR hS (by omega) dX12_move_2 (fun σ2 H2 locs2 u2 v2 hR hP hS => ?_)
  have hF := hF.puts u2 0 rfl (by decide) (by decide) (by decide) (by decide)
  refine lv_aload_n hx hb dX12_move_5 rfl (lv_at hl 0 rfl) ?_
  refine lv_iload_n hx hb dX12_move_6 rfl (lv_at hl 1 rfl) ?_
  refine r_cVi (k := 387) (As := [.int a1]) (rest := []) ⟨hx, hb, hml, hown, hts⟩ hK hP hN hS (c_X12_isMan l D cA ad hI σ2 τ0 hR a1) (cwV 1 hts gX12_move_X12_isMan rfl rfl rfl (by decide +kernel) ⟨by decide, by decide⟩) (rv_M hK hP (by decide) (by decide)) rfl hl.1 rfl (Nat.le_of_ble_eq_true rfl) dX12_move_7 (Nat.zero_le _) (Nat.zero_le _) (fun r3 u3 H3 locs3 hp3 hP hS => ?_)
  obtain ⟨σ3, τ3⟩ := u3
  obtain ⟨hR, f3, fL3, hq3, hp3_0⟩ : P_X12_isMan σ2 τ0 a1 r3 σ3 τ3 := hp3
  have hP : va_P D vwCl (gw cA ad σ3 τ3) H3 := hP
  obtain rfl := FrL.nil fL3
  obtain rfl := Fr.nil f3
  refine r_if_eq (tgt := 21) hx hb dX12_move_10 (by decide) (fun c4 => ?_) (fun c4 => ?_)
  · clear hp3_0
    refine r_iconst hx hb dX12_move_21 (by decide) (fun z5 ez5 => ?_)
    exact r_iret hx hb hr hK hP hS hk dX12_move_22 (show P_X12_move σ0 τ0 a1 a2 z5 σ2 τ0 from ⟨hR, hF, hFL, by omega⟩)
  · replace hp3_0 := hp3_0.resolve_left (by omega)
    refine lv_aload_n hx hb dX12_move_13 rfl (lv_at hl 0 rfl) ?_
    refine lv_iload_n hx hb dX12_move_14 rfl (lv_at hl 2 rfl) ?_
    refine r_cVi (k := 387) (As := [.int a2]) (rest := []) ⟨hx, hb, hml, hown, hts⟩ hK hP hN hS (c_X12_isHill l D cA ad hI σ2 τ0 hR a2) (cwV 1 hts gX12_move_X12_isHill rfl rfl rfl (by decide +kernel) ⟨by decide, by decide⟩) (rv_M hK hP (by decide) (by decide)) rfl hl.1 rfl (Nat.le_of_ble_eq_true rfl) dX12_move_15 (Nat.zero_le _) (Nat.zero_le _) (fun r6 u6 H6 locs6 hp6 hP hS => ?_)
    obtain ⟨σ6, τ6⟩ := u6
    obtain ⟨hR, f6, fL6, hq6, hp6_0⟩ : P_X12_isHill σ2 τ0 a2 r6 σ6 τ6 := hp6
    have hP : va_P D vwCl (gw cA ad σ6 τ6) H6 := hP
    obtain rfl := FrL.nil fL6
    obtain rfl := Fr.nil f6
    refine r_if_ne (tgt := 23) hx hb dX12_move_18 (by decide) (fun c7 => ?_) (fun c7 => ?_)
    · replace hp6_0 := hp6_0.resolve_left (by omega)
      refine lv_aload_n hx hb dX12_move_23 rfl (lv_at hl 0 rfl) ?_
      refine lv_iload_n hx hb dX12_move_24 rfl (lv_at hl 1 rfl) ?_
      refine lv_iload_n hx hb dX12_move_25 rfl (lv_at hl 2 rfl) ?_
      refine r_cVi (k := 387) (As := [.int a1, .int a2]) (rest := []) ⟨hx, hb, hml, hown, hts⟩ hK hP hN hS (c_X12_whyMove l D cA ad hI σ2 τ0 hR a1 a2 (by omega)) (cwV 2 hts gX12_move_X12_whyMove rfl rfl rfl (by decide +kernel) ⟨by decide, by decide⟩) (rv_M hK hP (by decide) (by decide)) rfl hl.1 rfl (Nat.le_of_ble_eq_true rfl) dX12_move_26 (Nat.zero_le _) (Nat.zero_le _) (fun r8 u8 H8 locs8 hp8 hP hS => ?_)
      obtain ⟨σ8, τ8⟩ := u8
      obtain ⟨hR, f8, fL8, hq8⟩ : P_X12_whyMove σ2 τ0 a1 a2 r8 σ8 τ8 := hp8
      have hP : va_P D vwCl (gw cA ad σ8 τ8) H8 := hP
      obtain rfl := FrL.nil fL8
      obtain rfl := Fr.nil f8
      refine lv_istore_n (lv' := [(3, .int r8), (0, .ref (ad 387)), (1, .int a1), (2, .int a2)]) hx hb dX12_move_29 rfl hl (by decide) rfl (fun ls hl => ?_)
      refine lv_iload_n hx hb dX12_move_30 rfl (lv_at hl 0 rfl) ?_
      refine r_if_le (tgt := 36) hx hb dX12_move_31 (by decide) (fun c9 => ?_) (fun c9 => ?_)
      · refine lv_aload_n hx hb dX12_move_36 rfl (lv_at hl 1 rfl) ?_
        refine r_cVv (k := 387) (As := []) (rest := []) ⟨hx, hb, hml, hown, hts⟩ hK hP hN hS (c_X12_keep l D cA ad hI σ2 τ0 hR) (cwV 0 hts gX12_move_X12_keep rfl rfl rfl (by decide +kernel) ⟨by decide, by decide⟩) (rv_M hK hP (by decide) (by decide)) rfl hl.1 rfl (Nat.le_of_ble_eq_true rfl) dX12_move_37 (Nat.zero_le _) (Nat.zero_le _) (fun u10 H10 locs10 hp10 hP hS => ?_)
        obtain ⟨σ10, τ10⟩ := u10
        obtain ⟨hR, f10, fL10, hp10_0⟩ : P_X12_keep σ2 τ0 σ10 τ10 := hp10
        have hP : va_P D vwCl (gw cA ad σ10 τ10) H10 := hP
        obtain rfl := FrL.nil fL10
        have hF := hF.step f10 (by decide)
        refine lv_aload_n hx hb dX12_move_40 rfl (lv_at hl 1 rfl) ?_
        refine fg_12_6 (k := 387) hx hb hts in_X12_move_12 hown hK hP (by decide) (by decide) (hts _ lk_X12_move_33) dX12_move_41 ?_
        refine r_sipush hx hb dX12_move_44 (by decide) (fun z11 ez11 => ?_)
        refine lv_iload_n hx hb dX12_move_47 rfl (lv_at hl 2 rfl) ?_
        refine r_iadd hx hb dX12_move_48 (by omega) (fun z12 ez12 => ?_)
        refine lv_iload_n hx hb dX12_move_49 rfl (lv_at hl 3 rfl) ?_
        obtain ⟨j13, ej13⟩ : ∃ j : Nat, z12.toInt = (j : Int) := ⟨_, ti_nat (by omega)⟩
        refine as_ms (k := 389) (j := j13) hx hb hK hP hI hR hS (by decide) (by decide) ej13 (by omega) (rw_ms_6 (by decide) (by decide) (by omega) (by omega) (by omega)) dX12_move_50 (fun σ14 H14 locs14 u14 v14 hR hP hS => ?_)
        have hF := hF.puts u14 3 rfl (by decide) (by decide) (by omega) (by omega)
        have t15 : (σ14 387 29).toInt = (σ10 387 29).toInt := congrArg Int32.toInt (u14 387 29 (by omega))
        refine r_iconst hx hb dX12_move_51 (by decide) (fun z16 ez16 => ?_)
        exact r_iret hx hb hr hK hP hS hk dX12_move_52 (show P_X12_move σ0 τ0 a1 a2 z16 σ14 τ0 from ⟨hR, hF, hFL, by omega⟩)
      · refine lv_iload_n hx hb dX12_move_34 rfl (lv_at hl 0 rfl) ?_
        exact r_iret hx hb hr hK hP hS hk dX12_move_35 (show P_X12_move σ0 τ0 a1 a2 r8 σ2 τ0 from ⟨hR, hF, hFL, by omega⟩)
    · clear hp6_0
      refine r_iconst hx hb dX12_move_21 (by decide) (fun z17 ez17 => ?_)
      exact r_iret hx hb hr hK hP hS hk dX12_move_22 (show P_X12_move σ0 τ0 a1 a2 z17 σ2 τ0 from ⟨hR, hF, hFL, by omega⟩)
theorem in_X12_swearsTo_12 : ∀ w ∈ u_ws RX12 TX12 47, w ∈ wsX12_swearsTo := by decide +kernel
theorem lk_X12_swearsTo_33 : Cond.fieldLink RX12 33 "CuckooSharesModel" "s" "[I" ∈ wsX12_swearsTo := by decide +kernel
abbrev L_X12_swearsTo : List Rc := [(389, 389, 222, 237)]
abbrev LL_X12_swearsTo : List Rc := []
def P_X12_swearsTo (σ0 : Nat → Nat → Int32) (τ0 : Nat → Nat → Int64) (a1 : Int32) (a2 : Int32) (σ : Nat → Nat → Int32) (τ : Nat → Nat → Int64) : Prop := Rg σ ∧ Fr L_X12_swearsTo σ0 σ ∧ FrL LL_X12_swearsTo τ0 τ
set_option maxHeartbeats 4000000 in
theorem c_X12_swearsTo (l : Launch) (D : va_G) (cA : Nat → ClassId) (ad : Nat → Nat) (hI : Inj ad) (σ0 : Nat → Nat → Int32) (τ0 : Nat → Nat → Int64) (hR : Rg σ0) (a1 : Int32) (a2 : Int32) (ha1 : 0 ≤ a1.toInt ∧ a1.toInt ≤ 7) (ha2 : 0 ≤ a2.toInt ∧ a2.toInt ≤ 9) : Met l yX12_swearsTo wsX12_swearsTo ({ frames := 0, cells := 0, slots := 0, locals := 0 } : Room) (WQc D cA ad [.ref (ad 387), .int a1, .int a2] σ0 τ0) (va_Qv (fun u : SS => P_X12_swearsTo σ0 τ0 a1 a2 u.1 u.2) (WB D cA ad) (AA ad)) 0 0 (AA ad) := by
  refine Met.ofW (cc := cX12_swearsTo) (maxL := 3) (ret := none) (by decide) rfl ?_
  intro p e s m args below meth c s₁ B hml hv
  obtain ⟨rfl, hP, hK, hN⟩ := hv
  have C : Cy p s m _ meth c cX12_swearsTo 3 wsX12_swearsTo RX12 D cA ad none := ⟨B.exec, B.bytes, hml, findClass_of_methodNamed B.named, atoms_spec (ws := wsX12_swearsTo) B.pre, hK, B.notSynchronized, B.returns, hI, hN⟩
  have hl := lv_entry ([.ref (ad 387), .int a1, .int a2]) (n := 3) (Nat.le_of_ble_eq_true rfl)
  rw [lg_entry_eq]
  generalize (lg_sl ([.ref (ad 387), .int a1, .int a2]) ++ List.replicate (3 - (lg_sl ([.ref (ad 387), .int a1, .int a2])).length) Slot.unset).toArray = ls at hl ⊢
  have hl : lv_has ls 3 [(0, .ref (ad 387)), (1, .int a1), (2, .int a2)] := hl
  have hS : va_S (AA ad) s.heap s.heap [] := va_S.rf
  have hF : Fr L_X12_swearsTo σ0 σ0 := Fr.rf
  have hFL : FrL LL_X12_swearsTo τ0 τ0 := FrL.rf
  obtain ⟨hx, hb, _, hown, hts, _, hk, hr, _, _⟩ := C
  refine lv_aload_n hx hb dX12_swearsTo_0 rfl (lv_at hl 0 rfl) ?_
  refine fg_12_6 (k := 387) hx hb hts in_X12_swearsTo_12 hown hK hP (by decide) (by decide) (hts _ lk_X12_swearsTo_33) dX12_swearsTo_1 ?_
  refine r_sipush hx hb dX12_swearsTo_4 (by decide) (fun z1 ez1 => ?_)
  refine lv_iload_n hx hb dX12_swearsTo_7 rfl (lv_at hl 1 rfl) ?_
  refine r_iadd hx hb dX12_swearsTo_8 (by omega) (fun z2 ez2 => ?_)
  refine lv_iload_n hx hb dX12_swearsTo_9 rfl (lv_at hl 2 rfl) ?_
  refine r_iconst hx hb dX12_swearsTo_10 (by decide) (fun z3 ez3 => ?_)
  refine r_iadd hx hb dX12_swearsTo_11 (by omega) (fun z4 ez4 => ?_)
  obtain ⟨j5, ej5⟩ : ∃ j : Nat, z2.toInt = (j : Int) := ⟨_, ti_nat (by omega)⟩
  refine as_ms (k := 389) (j := j5) hx hb hK hP hI hR hS (by decide) (by decide) ej5 (by omega) (rw_ms_7 (by decide) (by decide) (by omega) (by omega) (by omega)) dX12_swearsTo_12 (fun σ6 H6 locs6 u6 v6 hR hP hS => ?_)
  have hF := hF.puts u6 0 rfl (by decide) (by decide) (by omega) (by omega)
  refine lv_aload_n hx hb dX12_swearsTo_13 rfl (lv_at hl 0 rfl) ?_
  refine fg_12_6 (k := 387) hx hb hts in_X12_swearsTo_12 hown hK hP (by decide) (by decide) (hts _ lk_X12_swearsTo_33) dX12_swearsTo_14 ?_
  refine r_sipush hx hb dX12_swearsTo_17 (by decide) (fun z7 ez7 => ?_)
  refine lv_iload_n hx hb dX12_swearsTo_20 rfl (lv_at hl 1 rfl) ?_
  refine r_iadd hx hb dX12_swearsTo_21 (by omega) (fun z8 ez8 => ?_)
  refine lv_dup2_11 hx hb dX12_swearsTo_22 rfl rfl ?_
  obtain ⟨j9, ej9⟩ : ∃ j : Nat, z8.toInt = (j : Int) := ⟨_, ti_nat (by omega)⟩
  refine ad_ms (k := 389) (j := j9) hx hb hK hP (by decide) (by decide) ej9 (by omega) dX12_swearsTo_23 ?_
  refine r_iconst hx hb dX12_swearsTo_24 (by decide) (fun z10 ez10 => ?_)
  refine r_isubU hx hb dX12_swearsTo_25 (fun z11 => ?_)
  refine as_ms (k := 389) (j := j9) hx hb hK hP hI hR hS (by decide) (by decide) ej9 (by omega) (rx_ms_222 (by decide) (by decide) (by omega) (by omega)) dX12_swearsTo_26 (fun σ12 H12 locs12 u12 v12 hR hP hS => ?_)
  have hF := hF.puts u12 0 rfl (by decide) (by decide) (by omega) (by omega)
  exact r_vret hx hb hr hK hP hS hk dX12_swearsTo_27 (show P_X12_swearsTo σ0 τ0 a1 a2 σ12 τ0 from ⟨hR, hF, hFL⟩)
theorem in_X12_whySwear_12 : ∀ w ∈ u_ws RX12 TX12 47, w ∈ wsX12_whySwear := by decide +kernel
theorem lk_X12_whySwear_33 : Cond.fieldLink RX12 33 "CuckooSharesModel" "s" "[I" ∈ wsX12_whySwear := by decide +kernel
abbrev L_X12_whySwear : List Rc := []
abbrev LL_X12_whySwear : List Rc := []
def P_X12_whySwear (σ0 : Nat → Nat → Int32) (τ0 : Nat → Nat → Int64) (a1 : Int32) (a2 : Int32) (r : Int32) (σ : Nat → Nat → Int32) (τ : Nat → Nat → Int64) : Prop := Rg σ ∧ Fr L_X12_whySwear σ0 σ ∧ FrL LL_X12_whySwear τ0 τ ∧ (0 ≤ r.toInt ∧ r.toInt ≤ 3)
set_option maxHeartbeats 4000000 in
theorem c_X12_whySwear (l : Launch) (D : va_G) (cA : Nat → ClassId) (ad : Nat → Nat) (hI : Inj ad) (σ0 : Nat → Nat → Int32) (τ0 : Nat → Nat → Int64) (hR : Rg σ0) (a1 : Int32) (a2 : Int32) (ha1 : 0 ≤ a1.toInt ∧ a1.toInt ≤ 7) (ha2 : 0 ≤ a2.toInt ∧ a2.toInt ≤ 9) : Met l yX12_whySwear wsX12_whySwear ({ frames := 1, cells := 0, slots := 0, locals := 22 } : Room) (WQc D cA ad [.ref (ad 387), .int a1, .int a2] σ0 τ0) (va_Qi (fun (r : Int32) (u : SS) => P_X12_whySwear σ0 τ0 a1 a2 r u.1 u.2) (WB D cA ad) (AA ad)) 0 0 (AA ad) := by
  refine Met.ofW (cc := cX12_whySwear) (maxL := 3) (ret := (some .int)) (by decide) rfl ?_
  intro p e s m args below meth c s₁ B hml hv
  obtain ⟨rfl, hP, hK, hN⟩ := hv
  have C : Cy p s m _ meth c cX12_whySwear 3 wsX12_whySwear RX12 D cA ad (some .int) := ⟨B.exec, B.bytes, hml, findClass_of_methodNamed B.named, atoms_spec (ws := wsX12_whySwear) B.pre, hK, B.notSynchronized, B.returns, hI, hN⟩
  have hl := lv_entry ([.ref (ad 387), .int a1, .int a2]) (n := 3) (Nat.le_of_ble_eq_true rfl)
  rw [lg_entry_eq]
  generalize (lg_sl ([.ref (ad 387), .int a1, .int a2]) ++ List.replicate (3 - (lg_sl ([.ref (ad 387), .int a1, .int a2])).length) Slot.unset).toArray = ls at hl ⊢
  have hl : lv_has ls 3 [(0, .ref (ad 387)), (1, .int a1), (2, .int a2)] := hl
  have hS : va_S (AA ad) s.heap s.heap [] := va_S.rf
  have hF : Fr L_X12_whySwear σ0 σ0 := Fr.rf
  have hFL : FrL LL_X12_whySwear τ0 τ0 := FrL.rf
  obtain ⟨hx, hb, _, hown, hts, _, hk, hr, _, _⟩ := C
  refine lv_aload_n hx hb dX12_whySwear_0 rfl (lv_at hl 0 rfl) ?_
  refine fg_12_6 (k := 387) hx hb hts in_X12_whySwear_12 hown hK hP (by decide) (by decide) (hts _ lk_X12_whySwear_33) dX12_whySwear_1 ?_
  refine r_sipush hx hb dX12_whySwear_4 (by decide) (fun z1 ez1 => ?_)
  refine lv_iload_n hx hb dX12_whySwear_7 rfl (lv_at hl 1 rfl) ?_
  refine r_iadd hx hb dX12_whySwear_8 (by omega) (fun z2 ez2 => ?_)
  obtain ⟨j3, ej3⟩ : ∃ j : Nat, z2.toInt = (j : Int) := ⟨_, ti_nat (by omega)⟩
  refine ad_ms (k := 389) (j := j3) hx hb hK hP (by decide) (by decide) ej3 (by omega) dX12_whySwear_9 ?_
  have hr4 := ra_ms_7 hR (k := 389) (j := j3) (by decide) (by decide) (by omega) (by omega)
  refine r_if_le (tgt := 17) hx hb dX12_whySwear_10 (by decide) (fun c5 => ?_) (fun c5 => ?_)
  · refine lv_aload_n hx hb dX12_whySwear_17 rfl (lv_at hl 0 rfl) ?_
    refine lv_iload_n hx hb dX12_whySwear_18 rfl (lv_at hl 2 rfl) ?_
    refine r_cVi (k := 387) (As := [.int a2]) (rest := []) ⟨hx, hb, hml, hown, hts⟩ hK hP hN hS (c_X12_isPast l D cA ad hI σ0 τ0 hR a2 (by omega)) (cwV 1 hts gX12_whySwear_X12_isPast rfl rfl rfl (by decide +kernel) ⟨by decide, by decide⟩) (rv_M hK hP (by decide) (by decide)) rfl hl.1 rfl (Nat.le_of_ble_eq_true rfl) dX12_whySwear_19 (Nat.zero_le _) (Nat.zero_le _) (fun r6 u6 H6 locs6 hp6 hP hS => ?_)
    obtain ⟨σ6, τ6⟩ := u6
    obtain ⟨hR, f6, fL6, hq6⟩ : P_X12_isPast σ0 τ0 a2 r6 σ6 τ6 := hp6
    have hP : va_P D vwCl (gw cA ad σ6 τ6) H6 := hP
    obtain rfl := FrL.nil fL6
    obtain rfl := Fr.nil f6
    refine r_if_ne (tgt := 29) hx hb dX12_whySwear_22 (by decide) (fun c7 => ?_) (fun c7 => ?_)
    · refine lv_aload_n hx hb dX12_whySwear_29 rfl (lv_at hl 0 rfl) ?_
      refine fg_12_6 (k := 387) hx hb hts in_X12_whySwear_12 hown hK hP (by decide) (by decide) (hts _ lk_X12_whySwear_33) dX12_whySwear_30 ?_
      refine r_sipush hx hb dX12_whySwear_33 (by decide) (fun z8 ez8 => ?_)
      refine lv_iload_n hx hb dX12_whySwear_36 rfl (lv_at hl 1 rfl) ?_
      refine r_iadd hx hb dX12_whySwear_37 (by omega) (fun z9 ez9 => ?_)
      obtain ⟨j10, ej10⟩ : ∃ j : Nat, z9.toInt = (j : Int) := ⟨_, ti_nat (by omega)⟩
      refine ad_ms (k := 389) (j := j10) hx hb hK hP (by decide) (by decide) ej10 (by omega) dX12_whySwear_38 ?_
      refine r_if_ne (tgt := 46) hx hb dX12_whySwear_39 (by decide) (fun c11 => ?_) (fun c11 => ?_)
      · refine r_iconst hx hb dX12_whySwear_46 (by decide) (fun z12 ez12 => ?_)
        exact r_iret hx hb hr hK hP hS hk dX12_whySwear_47 (show P_X12_whySwear σ0 τ0 a1 a2 z12 σ0 τ0 from ⟨hR, hF, hFL, by omega⟩)
      · refine r_iconst hx hb dX12_whySwear_42 (by decide) (fun z13 ez13 => ?_)
        refine lv_goto (tgt := 47) hx hb dX12_whySwear_43 (by decide) ?_
        exact r_iret hx hb hr hK hP hS hk dX12_whySwear_47 (show P_X12_whySwear σ0 τ0 a1 a2 z13 σ0 τ0 from ⟨hR, hF, hFL, by omega⟩)
    · refine r_iconst hx hb dX12_whySwear_25 (by decide) (fun z14 ez14 => ?_)
      refine lv_goto (tgt := 47) hx hb dX12_whySwear_26 (by decide) ?_
      exact r_iret hx hb hr hK hP hS hk dX12_whySwear_47 (show P_X12_whySwear σ0 τ0 a1 a2 z14 σ0 τ0 from ⟨hR, hF, hFL, by omega⟩)
  · refine r_iconst hx hb dX12_whySwear_13 (by decide) (fun z15 ez15 => ?_)
    refine lv_goto (tgt := 47) hx hb dX12_whySwear_14 (by decide) ?_
    exact r_iret hx hb hr hK hP hS hk dX12_whySwear_47 (show P_X12_whySwear σ0 τ0 a1 a2 z15 σ0 τ0 from ⟨hR, hF, hFL, by omega⟩)
theorem in_X12_swear_12 : ∀ w ∈ u_ws RX12 TX12 47, w ∈ wsX12_swear := by decide +kernel
theorem lk_X12_swear_1 : Cond.fieldLink RX12 1 "CuckooSharesModel" "thrown" "I" ∈ wsX12_swear := by decide +kernel
abbrev L_X12_swear : List Rc := [(387, 387, 0, 0), (387, 387, 29, 29), (398, 398, 0, 279), (389, 389, 222, 237)]
abbrev LL_X12_swear : List Rc := []
def P_X12_swear (σ0 : Nat → Nat → Int32) (τ0 : Nat → Nat → Int64) (a1 : Int32) (a2 : Int32) (r : Int32) (σ : Nat → Nat → Int32) (τ : Nat → Nat → Int64) : Prop := Rg σ ∧ Fr L_X12_swear σ0 σ ∧ FrL LL_X12_swear τ0 τ ∧ (-1 ≤ r.toInt ∧ r.toInt ≤ 3)
set_option maxHeartbeats 4000000 in
theorem c_X12_swear (l : Launch) (D : va_G) (cA : Nat → ClassId) (ad : Nat → Nat) (hI : Inj ad) (σ0 : Nat → Nat → Int32) (τ0 : Nat → Nat → Int64) (hR : Rg σ0) (a1 : Int32) (a2 : Int32)  : Met l yX12_swear wsX12_swear ({ frames := 2, cells := 0, slots := 0, locals := 44 } : Room) (WQc D cA ad [.ref (ad 387), .int a1, .int a2] σ0 τ0) (va_Qi (fun (r : Int32) (u : SS) => P_X12_swear σ0 τ0 a1 a2 r u.1 u.2) (WB D cA ad) (AA ad)) 0 0 (AA ad) := by
  refine Met.ofW (cc := cX12_swear) (maxL := 4) (ret := (some .int)) (by decide) rfl ?_
  intro p e s m args below meth c s₁ B hml hv
  obtain ⟨rfl, hP, hK, hN⟩ := hv
  have C : Cy p s m _ meth c cX12_swear 4 wsX12_swear RX12 D cA ad (some .int) := ⟨B.exec, B.bytes, hml, findClass_of_methodNamed B.named, atoms_spec (ws := wsX12_swear) B.pre, hK, B.notSynchronized, B.returns, hI, hN⟩
  have hl := lv_entry ([.ref (ad 387), .int a1, .int a2]) (n := 4) (Nat.le_of_ble_eq_true rfl)
  rw [lg_entry_eq]
  generalize (lg_sl ([.ref (ad 387), .int a1, .int a2]) ++ List.replicate (4 - (lg_sl ([.ref (ad 387), .int a1, .int a2])).length) Slot.unset).toArray = ls at hl ⊢
  have hl : lv_has ls 4 [(0, .ref (ad 387)), (1, .int a1), (2, .int a2)] := hl
  have hS : va_S (AA ad) s.heap s.heap [] := va_S.rf
  have hF : Fr L_X12_swear σ0 σ0 := Fr.rf
  have hFL : FrL LL_X12_swear τ0 τ0 := FrL.rf
  obtain ⟨hx, hb, _, hown, hts, _, hk, hr, _, _⟩ := C
  refine lv_aload_n hx hb dX12_swear_0 rfl (lv_at hl 0 rfl) ?_
  refine r_iconst hx hb dX12_swear_1 (by decide) (fun z1 ez1 => ?_)
  refine fp_12_0 (k := 387) hx hb hts in_X12_swear_12 hown hK hP (by decide) (by decide) (hts _ lk_X12_swear_1) hI hR hS (by omega) dX12_swear_2 (fun σ2 H2 locs2 u2 v2 hR hP hS => ?_)
  have hF := hF.puts u2 0 rfl (by decide) (by decide) (by decide) (by decide)
  refine lv_aload_n hx hb dX12_swear_5 rfl (lv_at hl 0 rfl) ?_
  refine lv_iload_n hx hb dX12_swear_6 rfl (lv_at hl 1 rfl) ?_
  refine r_cVi (k := 387) (As := [.int a1]) (rest := []) ⟨hx, hb, hml, hown, hts⟩ hK hP hN hS (c_X12_isMan l D cA ad hI σ2 τ0 hR a1) (cwV 1 hts gX12_swear_X12_isMan rfl rfl rfl (by decide +kernel) ⟨by decide, by decide⟩) (rv_M hK hP (by decide) (by decide)) rfl hl.1 rfl (Nat.le_of_ble_eq_true rfl) dX12_swear_7 (Nat.zero_le _) (Nat.zero_le _) (fun r3 u3 H3 locs3 hp3 hP hS => ?_)
  obtain ⟨σ3, τ3⟩ := u3
  obtain ⟨hR, f3, fL3, hq3, hp3_0⟩ : P_X12_isMan σ2 τ0 a1 r3 σ3 τ3 := hp3
  have hP : va_P D vwCl (gw cA ad σ3 τ3) H3 := hP
  obtain rfl := FrL.nil fL3
  obtain rfl := Fr.nil f3
  refine r_if_eq (tgt := 23) hx hb dX12_swear_10 (by decide) (fun c4 => ?_) (fun c4 => ?_)
  · clear hp3_0
    refine r_iconst hx hb dX12_swear_23 (by decide) (fun z5 ez5 => ?_)
    exact r_iret hx hb hr hK hP hS hk dX12_swear_24 (show P_X12_swear σ0 τ0 a1 a2 z5 σ2 τ0 from ⟨hR, hF, hFL, by omega⟩)
  · replace hp3_0 := hp3_0.resolve_left (by omega)
    refine lv_iload_n hx hb dX12_swear_13 rfl (lv_at hl 2 rfl) ?_
    refine r_iconst hx hb dX12_swear_14 (by decide) (fun z6 ez6 => ?_)
    refine r_bipush hx hb dX12_swear_15 (by decide) (fun z7 ez7 => ?_)
    refine r_cSi (As := [.int a2, .int z6, .int z7]) (rest := []) ⟨hx, hb, hml, hown, hts⟩ hK hP hN hS (c_X12_isIn l D cA ad hI σ2 τ0 hR a2 z6 z7) (va_cwS 3 hts gX12_swear_X12_isIn rfl rfl rfl (by decide +kernel) ⟨by decide, by decide⟩) rfl hl.1 rfl (Nat.le_of_ble_eq_true rfl) dX12_swear_17 (Nat.zero_le _) (Nat.zero_le _) (fun r8 u8 H8 locs8 hp8 hP hS => ?_)
    obtain ⟨σ8, τ8⟩ := u8
    obtain ⟨hR, f8, fL8, hq8, hp8_0, hp8_1⟩ : P_X12_isIn σ2 τ0 a2 z6 z7 r8 σ8 τ8 := hp8
    have hP : va_P D vwCl (gw cA ad σ8 τ8) H8 := hP
    obtain rfl := FrL.nil fL8
    obtain rfl := Fr.nil f8
    refine r_if_ne (tgt := 25) hx hb dX12_swear_20 (by decide) (fun c9 => ?_) (fun c9 => ?_)
    · replace hp8_0 := hp8_0.resolve_left (by omega)
      refine lv_aload_n hx hb dX12_swear_25 rfl (lv_at hl 0 rfl) ?_
      refine lv_iload_n hx hb dX12_swear_26 rfl (lv_at hl 1 rfl) ?_
      refine lv_iload_n hx hb dX12_swear_27 rfl (lv_at hl 2 rfl) ?_
      refine r_cVi (k := 387) (As := [.int a1, .int a2]) (rest := []) ⟨hx, hb, hml, hown, hts⟩ hK hP hN hS (c_X12_whySwear l D cA ad hI σ2 τ0 hR a1 a2 (by omega) (by omega)) (cwV 2 hts gX12_swear_X12_whySwear rfl rfl rfl (by decide +kernel) ⟨by decide, by decide⟩) (rv_M hK hP (by decide) (by decide)) rfl hl.1 rfl (Nat.le_of_ble_eq_true rfl) dX12_swear_28 (Nat.zero_le _) (Nat.zero_le _) (fun r10 u10 H10 locs10 hp10 hP hS => ?_)
      obtain ⟨σ10, τ10⟩ := u10
      obtain ⟨hR, f10, fL10, hq10⟩ : P_X12_whySwear σ2 τ0 a1 a2 r10 σ10 τ10 := hp10
      have hP : va_P D vwCl (gw cA ad σ10 τ10) H10 := hP
      obtain rfl := FrL.nil fL10
      obtain rfl := Fr.nil f10
      refine lv_istore_n (lv' := [(3, .int r10), (0, .ref (ad 387)), (1, .int a1), (2, .int a2)]) hx hb dX12_swear_31 rfl hl (by decide) rfl (fun ls hl => ?_)
      refine lv_iload_n hx hb dX12_swear_32 rfl (lv_at hl 0 rfl) ?_
      refine r_if_le (tgt := 38) hx hb dX12_swear_33 (by decide) (fun c11 => ?_) (fun c11 => ?_)
      · refine lv_aload_n hx hb dX12_swear_38 rfl (lv_at hl 1 rfl) ?_
        refine r_cVv (k := 387) (As := []) (rest := []) ⟨hx, hb, hml, hown, hts⟩ hK hP hN hS (c_X12_keep l D cA ad hI σ2 τ0 hR) (cwV 0 hts gX12_swear_X12_keep rfl rfl rfl (by decide +kernel) ⟨by decide, by decide⟩) (rv_M hK hP (by decide) (by decide)) rfl hl.1 rfl (Nat.le_of_ble_eq_true rfl) dX12_swear_39 (Nat.zero_le _) (Nat.zero_le _) (fun u12 H12 locs12 hp12 hP hS => ?_)
        obtain ⟨σ12, τ12⟩ := u12
        obtain ⟨hR, f12, fL12, hp12_0⟩ : P_X12_keep σ2 τ0 σ12 τ12 := hp12
        have hP : va_P D vwCl (gw cA ad σ12 τ12) H12 := hP
        obtain rfl := FrL.nil fL12
        have hF := hF.step f12 (by decide)
        refine lv_aload_n hx hb dX12_swear_42 rfl (lv_at hl 1 rfl) ?_
        refine lv_iload_n hx hb dX12_swear_43 rfl (lv_at hl 2 rfl) ?_
        refine lv_iload_n hx hb dX12_swear_44 rfl (lv_at hl 3 rfl) ?_
        refine r_cVv (k := 387) (As := [.int a1, .int a2]) (rest := []) ⟨hx, hb, hml, hown, hts⟩ hK hP hN hS (c_X12_swearsTo l D cA ad hI σ12 τ0 hR a1 a2 (by omega) (by omega)) (cwV 2 hts gX12_swear_X12_swearsTo rfl rfl rfl (by decide +kernel) ⟨by decide, by decide⟩) (rv_M hK hP (by decide) (by decide)) rfl hl.1 rfl (Nat.le_of_ble_eq_true rfl) dX12_swear_45 (Nat.zero_le _) (Nat.zero_le _) (fun u13 H13 locs13 hp13 hP hS => ?_)
        obtain ⟨σ13, τ13⟩ := u13
        obtain ⟨hR, f13, fL13⟩ : P_X12_swearsTo σ12 τ0 a1 a2 σ13 τ13 := hp13
        have hP : va_P D vwCl (gw cA ad σ13 τ13) H13 := hP
        obtain rfl := FrL.nil fL13
        have hF := hF.step f13 (by decide)
        have t14 : (σ13 387 29).toInt = (σ12 387 29).toInt := congrArg Int32.toInt (f13.at 387 29 (by decide))
        refine r_iconst hx hb dX12_swear_48 (by decide) (fun z15 ez15 => ?_)
        exact r_iret hx hb hr hK hP hS hk dX12_swear_49 (show P_X12_swear σ0 τ0 a1 a2 z15 σ13 τ0 from ⟨hR, hF, hFL, by omega⟩)
      · refine lv_iload_n hx hb dX12_swear_36 rfl (lv_at hl 0 rfl) ?_
        exact r_iret hx hb hr hK hP hS hk dX12_swear_37 (show P_X12_swear σ0 τ0 a1 a2 r10 σ2 τ0 from ⟨hR, hF, hFL, by omega⟩)
    · clear hp8_0
      refine r_iconst hx hb dX12_swear_23 (by decide) (fun z16 ez16 => ?_)
      exact r_iret hx hb hr hK hP hS hk dX12_swear_24 (show P_X12_swear σ0 τ0 a1 a2 z16 σ2 τ0 from ⟨hR, hF, hFL, by omega⟩)
theorem in_X12_stands_12 : ∀ w ∈ u_ws RX12 TX12 47, w ∈ wsX12_stands := by decide +kernel
theorem lk_X12_stands_33 : Cond.fieldLink RX12 33 "CuckooSharesModel" "s" "[I" ∈ wsX12_stands := by decide +kernel
theorem lk_X12_stands_50 : Cond.fieldLink RX12 50 "CuckooSharesModel" "px" "[I" ∈ wsX12_stands := by decide +kernel
theorem lk_X12_stands_53 : Cond.fieldLink RX12 53 "CuckooSharesModel" "py" "[I" ∈ wsX12_stands := by decide +kernel
theorem lk_X12_stands_56 : Cond.fieldLink RX12 56 "CuckooSharesModel" "pf" "[I" ∈ wsX12_stands := by decide +kernel
abbrev L_X12_stands : List Rc := [(394, 394, 0, 7), (395, 395, 0, 7), (396, 396, 0, 7)]
abbrev LL_X12_stands : List Rc := []
def P_X12_stands (σ0 : Nat → Nat → Int32) (τ0 : Nat → Nat → Int64) (a1 : Int32) (a2 : Int32) (σ : Nat → Nat → Int32) (τ : Nat → Nat → Int64) : Prop := Rg σ ∧ Fr L_X12_stands σ0 σ ∧ FrL LL_X12_stands τ0 τ
set_option maxHeartbeats 4000000 in
theorem c_X12_stands (l : Launch) (D : va_G) (cA : Nat → ClassId) (ad : Nat → Nat) (hI : Inj ad) (σ0 : Nat → Nat → Int32) (τ0 : Nat → Nat → Int64) (hR : Rg σ0) (a1 : Int32) (a2 : Int32) (ha1 : 0 ≤ a1.toInt ∧ a1.toInt ≤ 7) (ha2 : 0 ≤ a2.toInt ∧ a2.toInt ≤ 7) : Met l yX12_stands wsX12_stands ({ frames := 0, cells := 0, slots := 0, locals := 0 } : Room) (WQc D cA ad [.ref (ad 387), .int a1, .int a2] σ0 τ0) (va_Qv (fun u : SS => P_X12_stands σ0 τ0 a1 a2 u.1 u.2) (WB D cA ad) (AA ad)) 0 0 (AA ad) := by
  refine Met.ofW (cc := cX12_stands) (maxL := 3) (ret := none) (by decide) rfl ?_
  intro p e s m args below meth c s₁ B hml hv
  obtain ⟨rfl, hP, hK, hN⟩ := hv
  have C : Cy p s m _ meth c cX12_stands 3 wsX12_stands RX12 D cA ad none := ⟨B.exec, B.bytes, hml, findClass_of_methodNamed B.named, atoms_spec (ws := wsX12_stands) B.pre, hK, B.notSynchronized, B.returns, hI, hN⟩
  have hl := lv_entry ([.ref (ad 387), .int a1, .int a2]) (n := 3) (Nat.le_of_ble_eq_true rfl)
  rw [lg_entry_eq]
  generalize (lg_sl ([.ref (ad 387), .int a1, .int a2]) ++ List.replicate (3 - (lg_sl ([.ref (ad 387), .int a1, .int a2])).length) Slot.unset).toArray = ls at hl ⊢
  have hl : lv_has ls 3 [(0, .ref (ad 387)), (1, .int a1), (2, .int a2)] := hl
  have hS : va_S (AA ad) s.heap s.heap [] := va_S.rf
  have hF : Fr L_X12_stands σ0 σ0 := Fr.rf
  have hFL : FrL LL_X12_stands τ0 τ0 := FrL.rf
  obtain ⟨hx, hb, _, hown, hts, _, hk, hr, _, _⟩ := C
  refine lv_aload_n hx hb dX12_stands_0 rfl (lv_at hl 0 rfl) ?_
  refine fg_12_22 (k := 387) hx hb hts in_X12_stands_12 hown hK hP (by decide) (by decide) (hts _ lk_X12_stands_50) dX12_stands_1 ?_
  refine lv_iload_n hx hb dX12_stands_4 rfl (lv_at hl 1 rfl) ?_
  refine lv_aload_n hx hb dX12_stands_5 rfl (lv_at hl 0 rfl) ?_
  refine fg_12_6 (k := 387) hx hb hts in_X12_stands_12 hown hK hP (by decide) (by decide) (hts _ lk_X12_stands_33) dX12_stands_6 ?_
  refine r_bipush hx hb dX12_stands_9 (by decide) (fun z1 ez1 => ?_)
  refine lv_iload_n hx hb dX12_stands_11 rfl (lv_at hl 2 rfl) ?_
  refine r_iadd hx hb dX12_stands_12 (by omega) (fun z2 ez2 => ?_)
  obtain ⟨j3, ej3⟩ : ∃ j : Nat, z2.toInt = (j : Int) := ⟨_, ti_nat (by omega)⟩
  refine ad_ms (k := 389) (j := j3) hx hb hK hP (by decide) (by decide) ej3 (by omega) dX12_stands_13 ?_
  obtain ⟨j4, ej4⟩ : ∃ j : Nat, a1.toInt = (j : Int) := ⟨_, ti_nat (by omega)⟩
  refine as_mp8 (k := 394) (j := j4) hx hb hK hP hI hR hS (by decide) (by decide) ej4 (by omega) dX12_stands_14 (fun σ5 H5 locs5 u5 v5 hR hP hS => ?_)
  have hF := hF.puts u5 0 rfl (by decide) (by decide) (by omega) (by omega)
  refine lv_aload_n hx hb dX12_stands_15 rfl (lv_at hl 0 rfl) ?_
  refine fg_12_23 (k := 387) hx hb hts in_X12_stands_12 hown hK hP (by decide) (by decide) (hts _ lk_X12_stands_53) dX12_stands_16 ?_
  refine lv_iload_n hx hb dX12_stands_19 rfl (lv_at hl 1 rfl) ?_
  refine lv_aload_n hx hb dX12_stands_20 rfl (lv_at hl 0 rfl) ?_
  refine fg_12_6 (k := 387) hx hb hts in_X12_stands_12 hown hK hP (by decide) (by decide) (hts _ lk_X12_stands_33) dX12_stands_21 ?_
  refine r_bipush hx hb dX12_stands_24 (by decide) (fun z6 ez6 => ?_)
  refine lv_iload_n hx hb dX12_stands_26 rfl (lv_at hl 2 rfl) ?_
  refine r_iadd hx hb dX12_stands_27 (by omega) (fun z7 ez7 => ?_)
  obtain ⟨j8, ej8⟩ : ∃ j : Nat, z7.toInt = (j : Int) := ⟨_, ti_nat (by omega)⟩
  refine ad_ms (k := 389) (j := j8) hx hb hK hP (by decide) (by decide) ej8 (by omega) dX12_stands_28 ?_
  refine as_mp8 (k := 395) (j := j4) hx hb hK hP hI hR hS (by decide) (by decide) ej4 (by omega) dX12_stands_29 (fun σ9 H9 locs9 u9 v9 hR hP hS => ?_)
  have hF := hF.puts u9 1 rfl (by decide) (by decide) (by omega) (by omega)
  refine lv_aload_n hx hb dX12_stands_30 rfl (lv_at hl 0 rfl) ?_
  refine fg_12_24 (k := 387) hx hb hts in_X12_stands_12 hown hK hP (by decide) (by decide) (hts _ lk_X12_stands_56) dX12_stands_31 ?_
  refine lv_iload_n hx hb dX12_stands_34 rfl (lv_at hl 1 rfl) ?_
  refine lv_aload_n hx hb dX12_stands_35 rfl (lv_at hl 0 rfl) ?_
  refine fg_12_6 (k := 387) hx hb hts in_X12_stands_12 hown hK hP (by decide) (by decide) (hts _ lk_X12_stands_33) dX12_stands_36 ?_
  refine r_bipush hx hb dX12_stands_39 (by decide) (fun z10 ez10 => ?_)
  refine lv_iload_n hx hb dX12_stands_41 rfl (lv_at hl 2 rfl) ?_
  refine r_iadd hx hb dX12_stands_42 (by omega) (fun z11 ez11 => ?_)
  obtain ⟨j12, ej12⟩ : ∃ j : Nat, z11.toInt = (j : Int) := ⟨_, ti_nat (by omega)⟩
  refine ad_ms (k := 389) (j := j12) hx hb hK hP (by decide) (by decide) ej12 (by omega) dX12_stands_43 ?_
  refine as_mp8 (k := 396) (j := j4) hx hb hK hP hI hR hS (by decide) (by decide) ej4 (by omega) dX12_stands_44 (fun σ13 H13 locs13 u13 v13 hR hP hS => ?_)
  have hF := hF.puts u13 2 rfl (by decide) (by decide) (by omega) (by omega)
  exact r_vret hx hb hr hK hP hS hk dX12_stands_45 (show P_X12_stands σ0 τ0 a1 a2 σ13 τ0 from ⟨hR, hF, hFL⟩)
theorem in_X12_asNow_12 : ∀ w ∈ u_ws RX12 TX12 47, w ∈ wsX12_asNow := by decide +kernel
theorem lk_X12_asNow_33 : Cond.fieldLink RX12 33 "CuckooSharesModel" "s" "[I" ∈ wsX12_asNow := by decide +kernel
abbrev L_X12_asNow : List Rc := [(394, 394, 0, 7), (395, 395, 0, 7), (396, 396, 0, 7)]
abbrev LL_X12_asNow : List Rc := []
def P_X12_asNow (σ0 : Nat → Nat → Int32) (τ0 : Nat → Nat → Int64)  (σ : Nat → Nat → Int32) (τ : Nat → Nat → Int64) : Prop := Rg σ ∧ Fr L_X12_asNow σ0 σ ∧ FrL LL_X12_asNow τ0 τ
def J_X12_asNow_2 (p : Program) (l : Launch) (e : Env) (s : State) (m : MethodId) (args : Array Value) (below : List Frame) (meth : Method) (c : Code) (D : va_G) (cA : Nat → ClassId) (ad : Nat → Nat) (σ0 : Nat → Nat → Int32) (τ0 : Nat → Nat → Int64)  (n : Nat) : Prop := ∀ (σ : Nat → Nat → Int32) (τ : Nat → Nat → Int64) (H : Heap) (locs : List Loc) (x1 : Int32) (ls : Array Slot), Rg σ → Fr L_X12_asNow σ0 σ → FrL LL_X12_asNow τ0 τ → va_P D vwCl (gw cA ad σ τ) H → va_S (AA ad) s.heap H locs → (0 ≤ x1.toInt ∧ x1.toInt ≤ 8) → lv_has ls 2 [(0, .ref (ad 387)), (1, .int x1)] → 2 * (8 - x1.toInt) + 1 < (n : Int) → W p l e ({ frames := 1, cells := 0, slots := 0, locals := 22 } : Room) s m args below meth c H locs 0 0 (MQ below (va_Qv (fun u : SS => P_X12_asNow σ0 τ0 u.1 u.2) (WB D cA ad) (AA ad)) args s 0 0 (AA ad)) (F0 m 2 ls [])
set_option maxHeartbeats 4000000 in
theorem B_X12_asNow_2 (p : Program) (l : Launch) (e : Env) (s : State) (m : MethodId) (args : Array Value) (below : List Frame) (meth : Method) (c : Code) (D : va_G) (cA : Nat → ClassId) (ad : Nat → Nat) (σ0 : Nat → Nat → Int32) (τ0 : Nat → Nat → Int64)  (n : Nat) (C : Cy p s m args meth c cX12_asNow 2 wsX12_asNow RX12 D cA ad none)  (K2 : J_X12_asNow_2 p l e s m args below meth c D cA ad σ0 τ0 n) : J_X12_asNow_2 p l e s m args below meth c D cA ad σ0 τ0 (n + 1) := by
  obtain ⟨hx, hb, hml, hown, hts, hK, hk, hr, hI, hN⟩ := C
  intro σ τ H locs x1 ls hR hF hFL hP hS hc0 hl hm
  obtain rfl := FrL.nil hFL
  refine lv_iload_n hx hb dX12_asNow_2 rfl (lv_at hl 1 rfl) ?_
  refine lv_aload_n hx hb dX12_asNow_3 rfl (lv_at hl 0 rfl) ?_
  refine fg_12_6 (k := 387) hx hb hts in_X12_asNow_12 hown hK hP (by decide) (by decide) (hts _ lk_X12_asNow_33) dX12_asNow_4 ?_
  refine r_iconst hx hb dX12_asNow_7 (by decide) (fun z1 ez1 => ?_)
  refine ad_ms (k := 389) (j := 1) hx hb hK hP (by decide) (by decide) (by omega) (by omega) dX12_asNow_8 ?_
  have hr2 := ra_ms_0 hR (k := 389) (j := 1) (by decide) (by decide) (by decide) (by decide)
  refine r_icmp_ge (tgt := 33) hx hb dX12_asNow_9 (by decide) (fun c3 => ?_) (fun c3 => ?_)
  · exact r_vret hx hb hr hK hP hS hk dX12_asNow_33 (show P_X12_asNow σ0 τ0 σ τ0 from ⟨hR, hF, hFL⟩)
  · refine lv_aload_n hx hb dX12_asNow_12 rfl (lv_at hl 0 rfl) ?_
    refine lv_iload_n hx hb dX12_asNow_13 rfl (lv_at hl 1 rfl) ?_
    refine lv_aload_n hx hb dX12_asNow_14 rfl (lv_at hl 0 rfl) ?_
    refine fg_12_6 (k := 387) hx hb hts in_X12_asNow_12 hown hK hP (by decide) (by decide) (hts _ lk_X12_asNow_33) dX12_asNow_15 ?_
    refine r_sipush hx hb dX12_asNow_18 (by decide) (fun z4 ez4 => ?_)
    refine lv_iload_n hx hb dX12_asNow_21 rfl (lv_at hl 1 rfl) ?_
    refine r_iadd hx hb dX12_asNow_22 (by omega) (fun z5 ez5 => ?_)
    obtain ⟨j6, ej6⟩ : ∃ j : Nat, z5.toInt = (j : Int) := ⟨_, ti_nat (by omega)⟩
    refine ad_ms (k := 389) (j := j6) hx hb hK hP (by decide) (by decide) ej6 (by omega) dX12_asNow_23 ?_
    have hr7 := ra_ms_6 hR (k := 389) (j := j6) (by decide) (by decide) (by omega) (by omega)
    refine r_cVv (k := 387) (As := [.int x1, .int (σ 389 j6)]) (rest := []) ⟨hx, hb, hml, hown, hts⟩ hK hP hN hS (c_X12_stands l D cA ad hI σ τ0 hR x1 (σ 389 j6) (by omega) (by omega)) (cwV 2 hts gX12_asNow_X12_stands rfl rfl rfl (by decide +kernel) ⟨by decide, by decide⟩) (rv_M hK hP (by decide) (by decide)) rfl hl.1 rfl (Nat.le_of_ble_eq_true rfl) dX12_asNow_24 (Nat.zero_le _) (Nat.zero_le _) (fun u8 H8 locs8 hp8 hP hS => ?_)
    obtain ⟨σ8, τ8⟩ := u8
    obtain ⟨hR, f8, fL8⟩ : P_X12_stands σ τ0 x1 (σ 389 j6) σ8 τ8 := hp8
    have hP : va_P D vwCl (gw cA ad σ8 τ8) H8 := hP
    obtain rfl := FrL.nil fL8
    have hF := hF.step f8 (by decide)
    refine r_iinc (k := 1) (lv1 := fun z9 => [(1, .int z9), (0, .ref (ad 387))]) hx hb dX12_asNow_27 hl rfl (by decide) (fun _ => rfl) (by decide) (by omega) (fun z9 ls ez9 hl => ?_)
    refine lv_goto (tgt := 2) hx hb dX12_asNow_30 (by decide) ?_
    exact K2 σ8 τ0 H8 locs8 z9 ls hR hF hFL hP hS (by omega) (lv_sub hl [1, 0] rfl) (by omega)
theorem A_X12_asNow (p : Program) (l : Launch) (e : Env) (s : State) (m : MethodId) (args : Array Value) (below : List Frame) (meth : Method) (c : Code) (D : va_G) (cA : Nat → ClassId) (ad : Nat → Nat) (σ0 : Nat → Nat → Int32) (τ0 : Nat → Nat → Int64)  (C : Cy p s m args meth c cX12_asNow 2 wsX12_asNow RX12 D cA ad none)  : ∀ n : Nat, J_X12_asNow_2 p l e s m args below meth c D cA ad σ0 τ0 n := by
  intro n
  induction n with
  | zero =>
    exact (by intro σ τ H locs x1 ls hR hF hFL hP hS hc0 hl hm; exfalso; omega)
  | succ n ih =>
    exact B_X12_asNow_2 p l e s m args below meth c D cA ad σ0 τ0 n C  ih
set_option maxHeartbeats 4000000 in
theorem c_X12_asNow (l : Launch) (D : va_G) (cA : Nat → ClassId) (ad : Nat → Nat) (hI : Inj ad) (σ0 : Nat → Nat → Int32) (τ0 : Nat → Nat → Int64) (hR : Rg σ0)   : Met l yX12_asNow wsX12_asNow ({ frames := 1, cells := 0, slots := 0, locals := 22 } : Room) (WQc D cA ad [.ref (ad 387)] σ0 τ0) (va_Qv (fun u : SS => P_X12_asNow σ0 τ0 u.1 u.2) (WB D cA ad) (AA ad)) 0 0 (AA ad) := by
  refine Met.ofW (cc := cX12_asNow) (maxL := 2) (ret := none) (by decide) rfl ?_
  intro p e s m args below meth c s₁ B hml hv
  obtain ⟨rfl, hP, hK, hN⟩ := hv
  have C : Cy p s m _ meth c cX12_asNow 2 wsX12_asNow RX12 D cA ad none := ⟨B.exec, B.bytes, hml, findClass_of_methodNamed B.named, atoms_spec (ws := wsX12_asNow) B.pre, hK, B.notSynchronized, B.returns, hI, hN⟩
  have hl := lv_entry ([.ref (ad 387)]) (n := 2) (Nat.le_of_ble_eq_true rfl)
  rw [lg_entry_eq]
  generalize (lg_sl ([.ref (ad 387)]) ++ List.replicate (2 - (lg_sl ([.ref (ad 387)])).length) Slot.unset).toArray = ls at hl ⊢
  have hl : lv_has ls 2 [(0, .ref (ad 387))] := hl
  have hS : va_S (AA ad) s.heap s.heap [] := va_S.rf
  have hF : Fr L_X12_asNow σ0 σ0 := Fr.rf
  have hFL : FrL LL_X12_asNow τ0 τ0 := FrL.rf
  have hA := A_X12_asNow p l e s m _ below meth c D cA ad σ0 τ0 C  42
  have K2 := hA
  clear hA
  obtain ⟨hx, hb, _, hown, hts, _, hk, hr, _, _⟩ := C
  refine r_iconst hx hb dX12_asNow_0 (by decide) (fun z1 ez1 => ?_)
  refine lv_istore_n (lv' := [(1, .int z1), (0, .ref (ad 387))]) hx hb dX12_asNow_1 rfl hl (by decide) rfl (fun ls hl => ?_)
  exact K2 σ0 τ0 s.heap [] z1 ls hR hF hFL hP hS (by omega) (lv_sub hl [1, 0] rfl) (by omega)
