theorem in_X12_whyMove_12 : ∀ w ∈ u_ws RX12 TX12 47, w ∈ wsX12_whyMove := by decide +kernel
theorem lk_X12_whyMove_33 : Cond.fieldLink RX12 33 "CuckooSharesModel" "s" "[I" ∈ wsX12_whyMove := by decide +kernel
abbrev L_X12_whyMove : List Rc := []
abbrev LL_X12_whyMove : List Rc := []
def P_X12_whyMove (σ0 : Nat → Nat → Int32) (τ0 : Nat → Nat → Int64) (a1 : Int32) (a2 : Int32) (r : Int32) (σ : Nat → Nat → Int32) (τ : Nat → Nat → Int64) : Prop := Rg σ ∧ Fr L_X12_whyMove σ0 σ ∧ FrL LL_X12_whyMove τ0 τ ∧ (0 ≤ r.toInt ∧ r.toInt ≤ 2)
set_option maxHeartbeats 4000000 in
theorem c_X12_whyMove (l : Launch) (D : va_G) (cA : Nat → ClassId) (ad : Nat → Nat) (hI : Inj ad) (σ0 : Nat → Nat → Int32) (τ0 : Nat → Nat → Int64) (hR : Rg σ0) (a1 : Int32) (a2 : Int32) (ha1 : 0 ≤ a1.toInt ∧ a1.toInt ≤ 7) : Met l yX12_whyMove wsX12_whyMove ({ frames := 2, cells := 0, slots := 0, locals := 43 } : Room) (WQc D cA ad [.ref (ad 387), .int a1, .int a2] σ0 τ0) (va_Qi (fun (r : Int32) (u : SS) => P_X12_whyMove σ0 τ0 a1 a2 r u.1 u.2) (WB D cA ad) (AA ad)) 0 0 (AA ad) := by
  refine Met.ofW (cc := cX12_whyMove) (maxL := 3) (ret := (some .int)) (by decide) rfl ?_
  intro p e s m args below meth c s₁ B hml hv
  obtain ⟨rfl, hP, hK, hN⟩ := hv
  have C : Cy p s m _ meth c cX12_whyMove 3 wsX12_whyMove RX12 D cA ad (some .int) := ⟨B.exec, B.bytes, hml, findClass_of_methodNamed B.named, atoms_spec (ws := wsX12_whyMove) B.pre, hK, B.notSynchronized, B.returns, hI, hN⟩
  have hl := lv_entry ([.ref (ad 387), .int a1, .int a2]) (n := 3) (Nat.le_of_ble_eq_true rfl)
  rw [lg_entry_eq]
  generalize (lg_sl ([.ref (ad 387), .int a1, .int a2]) ++ List.replicate (3 - (lg_sl ([.ref (ad 387), .int a1, .int a2])).length) Slot.unset).toArray = ls at hl ⊢
  have hl : lv_has ls 3 [(0, .ref (ad 387)), (1, .int a1), (2, .int a2)] := hl
  have hS : va_S (AA ad) s.heap s.heap [] := va_S.rf
  have hF : Fr L_X12_whyMove σ0 σ0 := Fr.rf
  have hFL : FrL LL_X12_whyMove τ0 τ0 := FrL.rf
  obtain ⟨hx, hb, _, hown, hts, _, hk, hr, _, _⟩ := C
  refine lv_aload_n hx hb dX12_whyMove_0 rfl (lv_at hl 0 rfl) ?_
  refine fg_12_6 (k := 387) hx hb hts in_X12_whyMove_12 hown hK hP (by decide) (by decide) (hts _ lk_X12_whyMove_33) dX12_whyMove_1 ?_
  refine r_sipush hx hb dX12_whyMove_4 (by decide) (fun z1 ez1 => ?_)
  refine lv_iload_n hx hb dX12_whyMove_7 rfl (lv_at hl 1 rfl) ?_
  refine r_iadd hx hb dX12_whyMove_8 (by omega) (fun z2 ez2 => ?_)
  obtain ⟨j3, ej3⟩ : ∃ j : Nat, z2.toInt = (j : Int) := ⟨_, ti_nat (by omega)⟩
  refine ad_ms (k := 389) (j := j3) hx hb hK hP (by decide) (by decide) ej3 (by omega) dX12_whyMove_9 ?_
  have hr4 := ra_ms_6 hR (k := 389) (j := j3) (by decide) (by decide) (by omega) (by omega)
  refine lv_iload_n hx hb dX12_whyMove_10 rfl (lv_at hl 2 rfl) ?_
  refine r_icmp_ne (tgt := 18) hx hb dX12_whyMove_11 (by decide) (fun c5 => ?_) (fun c5 => ?_)
  · refine lv_aload_n hx hb dX12_whyMove_18 rfl (lv_at hl 0 rfl) ?_
    refine r_cVi (k := 387) (As := []) (rest := []) ⟨hx, hb, hml, hown, hts⟩ hK hP hN hS (c_X12_pastOf l D cA ad hI σ0 τ0 hR) (cwV 0 hts gX12_whyMove_X12_pastOf rfl rfl rfl (by decide +kernel) ⟨by decide, by decide⟩) (rv_M hK hP (by decide) (by decide)) rfl hl.1 rfl (Nat.le_of_ble_eq_true rfl) dX12_whyMove_19 (Nat.zero_le _) (Nat.zero_le _) (fun r6 u6 H6 locs6 hp6 hP hS => ?_)
    obtain ⟨σ6, τ6⟩ := u6
    obtain ⟨hR, f6, fL6, hq6⟩ : P_X12_pastOf σ0 τ0 r6 σ6 τ6 := hp6
    have hP : va_P D vwCl (gw cA ad σ6 τ6) H6 := hP
    obtain rfl := FrL.nil fL6
    obtain rfl := Fr.nil f6
    refine r_if_le (tgt := 29) hx hb dX12_whyMove_22 (by decide) (fun c7 => ?_) (fun c7 => ?_)
    · refine r_iconst hx hb dX12_whyMove_29 (by decide) (fun z8 ez8 => ?_)
      exact r_iret hx hb hr hK hP hS hk dX12_whyMove_30 (show P_X12_whyMove σ0 τ0 a1 a2 z8 σ0 τ0 from ⟨hR, hF, hFL, by omega⟩)
    · refine r_iconst hx hb dX12_whyMove_25 (by decide) (fun z9 ez9 => ?_)
      refine lv_goto (tgt := 30) hx hb dX12_whyMove_26 (by decide) ?_
      exact r_iret hx hb hr hK hP hS hk dX12_whyMove_30 (show P_X12_whyMove σ0 τ0 a1 a2 z9 σ0 τ0 from ⟨hR, hF, hFL, by omega⟩)
  · refine r_iconst hx hb dX12_whyMove_14 (by decide) (fun z10 ez10 => ?_)
    refine lv_goto (tgt := 30) hx hb dX12_whyMove_15 (by decide) ?_
    exact r_iret hx hb hr hK hP hS hk dX12_whyMove_30 (show P_X12_whyMove σ0 τ0 a1 a2 z10 σ0 τ0 from ⟨hR, hF, hFL, by omega⟩)
theorem in_X12_move_12 : ∀ w ∈ u_ws RX12 TX12 47, w ∈ wsX12_move := by decide +kernel
theorem lk_X12_move_1 : Cond.fieldLink RX12 1 "CuckooSharesModel" "thrown" "I" ∈ wsX12_move := by decide +kernel
theorem lk_X12_move_33 : Cond.fieldLink RX12 33 "CuckooSharesModel" "s" "[I" ∈ wsX12_move := by decide +kernel
abbrev L_X12_move : List Rc := [(387, 387, 0, 0), (387, 387, 29, 29), (398, 398, 0, 279), (389, 389, 214, 221)]
abbrev LL_X12_move : List Rc := []
def P_X12_move (σ0 : Nat → Nat → Int32) (τ0 : Nat → Nat → Int64) (a1 : Int32) (a2 : Int32) (r : Int32) (σ : Nat → Nat → Int32) (τ : Nat → Nat → Int64) : Prop := Rg σ ∧ Fr L_X12_move σ0 σ ∧ FrL LL_X12_move τ0 τ ∧ (-1 ≤ r.toInt ∧ r.toInt ≤ 2)
set_option maxHeartbeats 4000000 in
theorem c_X12_move (l : Launch) (D : va_G) (cA : Nat → ClassId) (ad : Nat → Nat) (hI : Inj ad) (σ0 : Nat → Nat → Int32) (τ0 : Nat → Nat → Int64) (hR : Rg σ0) (a1 : Int32) (a2 : Int32)  : Met l yX12_move wsX12_move ({ frames := 3, cells := 0, slots := 0, locals := 65 } : Room) (WQc D cA ad [.ref (ad 387), .int a1, .int a2] σ0 τ0) (va_Qi (fun (r : Int32) (u : SS) => P_X12_move σ0 τ0 a1 a2 r u.1 u.2) (WB D cA ad) (AA ad)) 0 0 (AA ad) := by
  refine Met.ofW (cc := cX12_move) (maxL := 4) (ret := (some .int)) (by decide) rfl ?_
  intro p e s m args below meth c s₁ B hml hv
  obtain ⟨rfl, hP, hK, hN⟩ := hv
  have C : Cy p s m _ meth c cX12_move 4 wsX12_move RX12 D cA ad (some .int) := ⟨B.exec, B.bytes, hml, findClass_of_methodNamed B.named, atoms_spec (ws := wsX12_move) B.pre, hK, B.notSynchronized, B.returns, hI, hN⟩
  have hl := lv_entry ([.ref (ad 387), .int a1, .int a2]) (n := 4) (Nat.le_of_ble_eq_true rfl)
  rw [lg_entry_eq]
  generalize (lg_sl ([.ref (ad 387), .int a1, .int a2]) ++ List.replicate (4 - (lg_sl ([.ref (ad 387), .int a1, .int a2])).length) Slot.unset).toArray = ls at hl ⊢
  have hl : lv_has ls 4 [(0, .ref (ad 387)), (1, .int a1), (2, .int a2)] := hl
  have hS : va_S (AA ad) s.heap s.heap [] := va_S.rf
  have hF : Fr L_X12_move σ0 σ0 := Fr.rf
  have hFL : FrL LL_X12_move τ0 τ0 := FrL.rf
  obtain ⟨hx, hb, _, hown, hts, _, hk, hr, _, _⟩ := C
  refine lv_aload_n hx hb dX12_move_0 rfl (lv_at hl 0 rfl) ?_
  refine r_iconst hx hb dX12_move_1 (by decide) (fun z1 ez1 => ?_)
  refine fp_12_0 (k := 387) hx hb hts in_X12_move_12 hown hK hP (by decide) (by decide) (hts _ lk_X12_move_1) hI hR hS (by omega) dX12_move_2 (fun σ2 H2 locs2 u2 v2 hR hP hS => ?_)
  have hF := hF.puts u2 0 rfl (by decide) (by decide) (by decide) (by decide)
  refine lv_aload_n hx hb dX12_move_5 rfl (lv_at hl 0 rfl) ?_
  refine lv_iload_n hx hb dX12_move_6 rfl (lv_at hl 1 rfl) ?_
  refine r_cVi (k := 387) (As := [.int a1]) (rest := []) ⟨hx, hb, hml, hown, hts⟩ hK hP hN hS (c_X12_isMan l D cA ad hI σ2 τ0 hR a1) (cwV 1 hts gX12_move_X12_isMan rfl rfl rfl (by decide +kernel) ⟨by decide, by decide⟩) (rv_M hK hP (by decide) (by decide)) rfl hl.1 rfl (Nat.le_of_ble_eq_true rfl) dX12_move_7 (Nat.zero_le _) (Nat.zero_le _) (fun r3 u3 H3 locs3 hp3 hP hS => ?_)
  obtain ⟨σ3, τ3⟩ := u3
  obtain ⟨hR, f3, fL3, hq3, hp3_0⟩ : P_X12_isMan σ2 τ0 a1 r3 σ3 τ3 := hp3
  have hP : va_P D vwCl (gw cA ad σ3 τ3) H3 := hP
  obtain rfl := FrL.nil fL3
  obtain rfl := Fr.nil f3
  refine r_if_eq (tgt := 21) hx hb dX12_move_10 (by decide) (fun c4 => ?_) (fun c4 => ?_)
  · clear hp3_0
    refine r_iconst hx hb dX12_move_21 (by decide) (fun z5 ez5 => ?_)
    exact r_iret hx hb hr hK hP hS hk dX12_move_22 (show P_X12_move σ0 τ0 a1 a2 z5 σ2 τ0 from ⟨hR, hF, hFL, by omega⟩)
  · replace hp3_0 := hp3_0.resolve_left (by omega)
    refine lv_aload_n hx hb dX12_move_13 rfl (lv_at hl 0 rfl) ?_
    refine lv_iload_n hx hb dX12_move_14 rfl (lv_at hl 2 rfl) ?_
    refine r_cVi (k := 387) (As := [.int a2]) (rest := []) ⟨hx, hb, hml, hown, hts⟩ hK hP hN hS (c_X12_isHill l D cA ad hI σ2 τ0 hR a2) (cwV 1 hts gX12_move_X12_isHill rfl rfl rfl (by decide +kernel) ⟨by decide, by decide⟩) (rv_M hK hP (by decide) (by decide)) rfl hl.1 rfl (Nat.le_of_ble_eq_true rfl) dX12_move_15 (Nat.zero_le _) (Nat.zero_le _) (fun r6 u6 H6 locs6 hp6 hP hS => ?_)
    obtain ⟨σ6, τ6⟩ := u6
    obtain ⟨hR, f6, fL6, hq6, hp6_0⟩ : P_X12_isHill σ2 τ0 a2 r6 σ6 τ6 := hp6
    have hP : va_P D vwCl (gw cA ad σ6 τ6) H6 := hP
    obtain rfl := FrL.nil fL6
    obtain rfl := Fr.nil f6
    refine r_if_ne (tgt := 23) hx hb dX12_move_18 (by decide) (fun c7 => ?_) (fun c7 => ?_)
    · replace hp6_0 := hp6_0.resolve_left (by omega)
      refine lv_aload_n hx hb dX12_move_23 rfl (lv_at hl 0 rfl) ?_
      refine lv_iload_n hx hb dX12_move_24 rfl (lv_at hl 1 rfl) ?_
      refine lv_iload_n hx hb dX12_move_25 rfl (lv_at hl 2 rfl) ?_
      refine r_cVi (k := 387) (As := [.int a1, .int a2]) (rest := []) ⟨hx, hb, hml, hown, hts⟩ hK hP hN hS (c_X12_whyMove l D cA ad hI σ2 τ0 hR a1 a2 (by omega)) (cwV 2 hts gX12_move_X12_whyMove rfl rfl rfl (by decide +kernel) ⟨by decide, by decide⟩) (rv_M hK hP (by decide) (by decide)) rfl hl.1 rfl (Nat.le_of_ble_eq_true rfl) dX12_move_26 (Nat.zero_le _) (Nat.zero_le _) (fun r8 u8 H8 locs8 hp8 hP hS => ?_)
      obtain ⟨σ8, τ8⟩ := u8
      obtain ⟨hR, f8, fL8, hq8⟩ : P_X12_whyMove σ2 τ0 a1 a2 r8 σ8 τ8 := hp8
      have hP : va_P D vwCl (gw cA ad σ8 τ8) H8 := hP
      obtain rfl := FrL.nil fL8
      obtain rfl := Fr.nil f8
      refine lv_istore_n (lv' := [(3, .int r8), (0, .ref (ad 387)), (1, .int a1), (2, .int a2)]) hx hb dX12_move_29 rfl hl (by decide) rfl (fun ls hl => ?_)
      refine lv_iload_n hx hb dX12_move_30 rfl (lv_at hl 0 rfl) ?_
      refine r_if_le (tgt := 36) hx hb dX12_move_31 (by decide) (fun c9 => ?_) (fun c9 => ?_)
      · refine lv_aload_n hx hb dX12_move_36 rfl (lv_at hl 1 rfl) ?_
        refine r_cVv (k := 387) (As := []) (rest := []) ⟨hx, hb, hml, hown, hts⟩ hK hP hN hS (c_X12_keep l D cA ad hI σ2 τ0 hR) (cwV 0 hts gX12_move_X12_keep rfl rfl rfl (by decide +kernel) ⟨by decide, by decide⟩) (rv_M hK hP (by decide) (by decide)) rfl hl.1 rfl (Nat.le_of_ble_eq_true rfl) dX12_move_37 (Nat.zero_le _) (Nat.zero_le _) (fun u10 H10 locs10 hp10 hP hS => ?_)
        obtain ⟨σ10, τ10⟩ := u10
        obtain ⟨hR, f10, fL10, hp10_0⟩ : P_X12_keep σ2 τ0 σ10 τ10 := hp10
        have hP : va_P D vwCl (gw cA ad σ10 τ10) H10 := hP
        obtain rfl := FrL.nil fL10
        have hF := hF.step f10 (by decide)
        refine lv_aload_n hx hb dX12_move_40 rfl (lv_at hl 1 rfl) ?_
        refine fg_12_6 (k := 387) hx hb hts in_X12_move_12 hown hK hP (by decide) (by decide) (hts _ lk_X12_move_33) dX12_move_41 ?_
        refine r_sipush hx hb dX12_move_44 (by decide) (fun z11 ez11 => ?_)
        refine lv_iload_n hx hb dX12_move_47 rfl (lv_at hl 2 rfl) ?_
        refine r_iadd hx hb dX12_move_48 (by omega) (fun z12 ez12 => ?_)
        refine lv_iload_n hx hb dX12_move_49 rfl (lv_at hl 3 rfl) ?_
        obtain ⟨j13, ej13⟩ : ∃ j : Nat, z12.toInt = (j : Int) := ⟨_, ti_nat (by omega)⟩
        refine as_ms (k := 389) (j := j13) hx hb hK hP hI hR hS (by decide) (by decide) ej13 (by omega) (rw_ms_6 (by decide) (by decide) (by omega) (by omega) (by omega)) dX12_move_50 (fun σ14 H14 locs14 u14 v14 hR hP hS => ?_)
        have hF := hF.puts u14 3 rfl (by decide) (by decide) (by omega) (by omega)
        have t15 : (σ14 387 29).toInt = (σ10 387 29).toInt := congrArg Int32.toInt (u14 387 29 (by omega))
        refine r_iconst hx hb dX12_move_51 (by decide) (fun z16 ez16 => ?_)
        exact r_iret hx hb hr hK hP hS hk dX12_move_52 (show P_X12_move σ0 τ0 a1 a2 z16 σ14 τ0 from ⟨hR, hF, hFL, by omega⟩)
      · refine lv_iload_n hx hb dX12_move_34 rfl (lv_at hl 0 rfl) ?_
        exact r_iret hx hb hr hK hP hS hk dX12_move_35 (show P_X12_move σ0 τ0 a1 a2 r8 σ2 τ0 from ⟨hR, hF, hFL, by omega⟩)
    · clear hp6_0
      refine r_iconst hx hb dX12_move_21 (by decide) (fun z17 ez17 => ?_)
      exact r_iret hx hb hr hK hP hS hk dX12_move_22 (show P_X12_move σ0 τ0 a1 a2 z17 σ2 τ0 from ⟨hR, hF, hFL, by omega⟩)
theorem in_X12_swearsTo_12 : ∀ w ∈ u_ws RX12 TX12 47, w ∈ wsX12_swearsTo := by decide +kernel
theorem lk_X12_swearsTo_33 : Cond.fieldLink RX12 33 "CuckooSharesModel" "s" "[I" ∈ wsX12_swearsTo := by decide +kernel
abbrev L_X12_swearsTo : List Rc := [(389, 389, 222, 237)]
abbrev LL_X12_swearsTo : List Rc := []
def P_X12_swearsTo (σ0 : Nat → Nat → Int32) (τ0 : Nat → Nat → Int64) (a1 : Int32) (a2 : Int32) (σ : Nat → Nat → Int32) (τ : Nat → Nat → Int64) : Prop := Rg σ ∧ Fr L_X12_swearsTo σ0 σ ∧ FrL LL_X12_swearsTo τ0 τ
set_option maxHeartbeats 4000000 in
theorem c_X12_swearsTo (l : Launch) (D : va_G) (cA : Nat → ClassId) (ad : Nat → Nat) (hI : Inj ad) (σ0 : Nat → Nat → Int32) (τ0 : Nat → Nat → Int64) (hR : Rg σ0) (a1 : Int32) (a2 : Int32) (ha1 : 0 ≤ a1.toInt ∧ a1.toInt ≤ 7) (ha2 : 0 ≤ a2.toInt ∧ a2.toInt ≤ 9) : Met l yX12_swearsTo wsX12_swearsTo ({ frames := 0, cells := 0, slots := 0, locals := 0 } : Room) (WQc D cA ad [.ref (ad 387), .int a1, .int a2] σ0 τ0) (va_Qv (fun u : SS => P_X12_swearsTo σ0 τ0 a1 a2 u.1 u.2) (WB D cA ad) (AA ad)) 0 0 (AA ad) := by
  refine Met.ofW (cc := cX12_swearsTo) (maxL := 3) (ret := none) (by decide) rfl ?_
  intro p e s m args below meth c s₁ B hml hv
  obtain ⟨rfl, hP, hK, hN⟩ := hv
  have C : Cy p s m _ meth c cX12_swearsTo 3 wsX12_swearsTo RX12 D cA ad none := ⟨B.exec, B.bytes, hml, findClass_of_methodNamed B.named, atoms_spec (ws := wsX12_swearsTo) B.pre, hK, B.notSynchronized, B.returns, hI, hN⟩
  have hl := lv_entry ([.ref (ad 387), .int a1, .int a2]) (n := 3) (Nat.le_of_ble_eq_true rfl)
  rw [lg_entry_eq]
  generalize (lg_sl ([.ref (ad 387), .int a1, .int a2]) ++ List.replicate (3 - (lg_sl ([.ref (ad 387), .int a1, .int a2])).length) Slot.unset).toArray = ls at hl ⊢
  have hl : lv_has ls 3 [(0, .ref (ad 387)), (1, .int a1), (2, .int a2)] := hl
  have hS : va_S (AA ad) s.heap s.heap [] := va_S.rf
  have hF : Fr L_X12_swearsTo σ0 σ0 := Fr.rf
  have hFL : FrL LL_X12_swearsTo τ0 τ0 := FrL.rf
  obtain ⟨hx, hb, _, hown, hts, _, hk, hr, _, _⟩ := C
  refine lv_aload_n hx hb dX12_swearsTo_0 rfl (lv_at hl 0 rfl) ?_
  refine fg_12_6 (k := 387) hx hb hts in_X12_swearsTo_12 hown hK hP (by decide) (by decide) (hts _ lk_X12_swearsTo_33) dX12_swearsTo_1 ?_
  refine r_sipush hx hb dX12_swearsTo_4 (by decide) (fun z1 ez1 => ?_)
  refine lv_iload_n hx hb dX12_swearsTo_7 rfl (lv_at hl 1 rfl) ?_
  refine r_iadd hx hb dX12_swearsTo_8 (by omega) (fun z2 ez2 => ?_)
  refine lv_iload_n hx hb dX12_swearsTo_9 rfl (lv_at hl 2 rfl) ?_
  refine r_iconst hx hb dX12_swearsTo_10 (by decide) (fun z3 ez3 => ?_)
  refine r_iadd hx hb dX12_swearsTo_11 (by omega) (fun z4 ez4 => ?_)
  obtain ⟨j5, ej5⟩ : ∃ j : Nat, z2.toInt = (j : Int) := ⟨_, ti_nat (by omega)⟩
  refine as_ms (k := 389) (j := j5) hx hb hK hP hI hR hS (by decide) (by decide) ej5 (by omega) (rw_ms_7 (by decide) (by decide) (by omega) (by omega) (by omega)) dX12_swearsTo_12 (fun σ6 H6 locs6 u6 v6 hR hP hS => ?_)
  have hF := hF.puts u6 0 rfl (by decide) (by decide) (by omega) (by omega)
  refine lv_aload_n hx hb dX12_swearsTo_13 rfl (lv_at hl 0 rfl) ?_
  refine fg_12_6 (k := 387) hx hb hts in_X12_swearsTo_12 hown hK hP (by decide) (by decide) (hts _ lk_X12_swearsTo_33) dX12_swearsTo_14 ?_
  refine r_sipush hx hb dX12_swearsTo_17 (by decide) (fun z7 ez7 => ?_)
  refine lv_iload_n hx hb dX12_swearsTo_20 rfl (lv_at hl 1 rfl) ?_
  refine r_iadd hx hb dX12_swearsTo_21 (by omega) (fun z8 ez8 => ?_)
  refine lv_dup2_11 hx hb dX12_swearsTo_22 rfl rfl ?_
  obtain ⟨j9, ej9⟩ : ∃ j : Nat, z8.toInt = (j : Int) := ⟨_, ti_nat (by omega)⟩
  refine ad_ms (k := 389) (j := j9) hx hb hK hP (by decide) (by decide) ej9 (by omega) dX12_swearsTo_23 ?_
  refine r_iconst hx hb dX12_swearsTo_24 (by decide) (fun z10 ez10 => ?_)
  refine r_isubU hx hb dX12_swearsTo_25 (fun z11 => ?_)
  refine as_ms (k := 389) (j := j9) hx hb hK hP hI hR hS (by decide) (by decide) ej9 (by omega) (rx_ms_222 (by decide) (by decide) (by omega) (by omega)) dX12_swearsTo_26 (fun σ12 H12 locs12 u12 v12 hR hP hS => ?_)
  have hF := hF.puts u12 0 rfl (by decide) (by decide) (by omega) (by omega)
  exact r_vret hx hb hr hK hP hS hk dX12_swearsTo_27 (show P_X12_swearsTo σ0 τ0 a1 a2 σ12 τ0 from ⟨hR, hF, hFL⟩)
theorem in_X12_whySwear_12 : ∀ w ∈ u_ws RX12 TX12 47, w ∈ wsX12_whySwear := by decide +kernel
theorem lk_X12_whySwear_33 : Cond.fieldLink RX12 33 "CuckooSharesModel" "s" "[I" ∈ wsX12_whySwear := by decide +kernel
abbrev L_X12_whySwear : List Rc := []
abbrev LL_X12_whySwear : List Rc := []
def P_X12_whySwear (σ0 : Nat → Nat → Int32) (τ0 : Nat → Nat → Int64) (a1 : Int32) (a2 : Int32) (r : Int32) (σ : Nat → Nat → Int32) (τ : Nat → Nat → Int64) : Prop := Rg σ ∧ Fr L_X12_whySwear σ0 σ ∧ FrL LL_X12_whySwear τ0 τ ∧ (0 ≤ r.toInt ∧ r.toInt ≤ 3)
set_option maxHeartbeats 4000000 in
theorem c_X12_whySwear (l : Launch) (D : va_G) (cA : Nat → ClassId) (ad : Nat → Nat) (hI : Inj ad) (σ0 : Nat → Nat → Int32) (τ0 : Nat → Nat → Int64) (hR : Rg σ0) (a1 : Int32) (a2 : Int32) (ha1 : 0 ≤ a1.toInt ∧ a1.toInt ≤ 7) (ha2 : 0 ≤ a2.toInt ∧ a2.toInt ≤ 9) : Met l yX12_whySwear wsX12_whySwear ({ frames := 1, cells := 0, slots := 0, locals := 22 } : Room) (WQc D cA ad [.ref (ad 387), .int a1, .int a2] σ0 τ0) (va_Qi (fun (r : Int32) (u : SS) => P_X12_whySwear σ0 τ0 a1 a2 r u.1 u.2) (WB D cA ad) (AA ad)) 0 0 (AA ad) := by
  refine Met.ofW (cc := cX12_whySwear) (maxL := 3) (ret := (some .int)) (by decide) rfl ?_
  intro p e s m args below meth c s₁ B hml hv
  obtain ⟨rfl, hP, hK, hN⟩ := hv
  have C : Cy p s m _ meth c cX12_whySwear 3 wsX12_whySwear RX12 D cA ad (some .int) := ⟨B.exec, B.bytes, hml, findClass_of_methodNamed B.named, atoms_spec (ws := wsX12_whySwear) B.pre, hK, B.notSynchronized, B.returns, hI, hN⟩
  have hl := lv_entry ([.ref (ad 387), .int a1, .int a2]) (n := 3) (Nat.le_of_ble_eq_true rfl)
  rw [lg_entry_eq]
  generalize (lg_sl ([.ref (ad 387), .int a1, .int a2]) ++ List.replicate (3 - (lg_sl ([.ref (ad 387), .int a1, .int a2])).length) Slot.unset).toArray = ls at hl ⊢
  have hl : lv_has ls 3 [(0, .ref (ad 387)), (1, .int a1), (2, .int a2)] := hl
  have hS : va_S (AA ad) s.heap s.heap [] := va_S.rf
  have hF : Fr L_X12_whySwear σ0 σ0 := Fr.rf
  have hFL : FrL LL_X12_whySwear τ0 τ0 := FrL.rf
  obtain ⟨hx, hb, _, hown, hts, _, hk, hr, _, _⟩ := C
  refine lv_aload_n hx hb dX12_whySwear_0 rfl (lv_at hl 0 rfl) ?_
  refine fg_12_6 (k := 387) hx hb hts in_X12_whySwear_12 hown hK hP (by decide) (by decide) (hts _ lk_X12_whySwear_33) dX12_whySwear_1 ?_
  refine r_sipush hx hb dX12_whySwear_4 (by decide) (fun z1 ez1 => ?_)
  refine lv_iload_n hx hb dX12_whySwear_7 rfl (lv_at hl 1 rfl) ?_
  refine r_iadd hx hb dX12_whySwear_8 (by omega) (fun z2 ez2 => ?_)
  obtain ⟨j3, ej3⟩ : ∃ j : Nat, z2.toInt = (j : Int) := ⟨_, ti_nat (by omega)⟩
  refine ad_ms (k := 389) (j := j3) hx hb hK hP (by decide) (by decide) ej3 (by omega) dX12_whySwear_9 ?_
  have hr4 := ra_ms_7 hR (k := 389) (j := j3) (by decide) (by decide) (by omega) (by omega)
  refine r_if_le (tgt := 17) hx hb dX12_whySwear_10 (by decide) (fun c5 => ?_) (fun c5 => ?_)
  · refine lv_aload_n hx hb dX12_whySwear_17 rfl (lv_at hl 0 rfl) ?_
    refine lv_iload_n hx hb dX12_whySwear_18 rfl (lv_at hl 2 rfl) ?_
    refine r_cVi (k := 387) (As := [.int a2]) (rest := []) ⟨hx, hb, hml, hown, hts⟩ hK hP hN hS (c_X12_isPast l D cA ad hI σ0 τ0 hR a2 (by omega)) (cwV 1 hts gX12_whySwear_X12_isPast rfl rfl rfl (by decide +kernel) ⟨by decide, by decide⟩) (rv_M hK hP (by decide) (by decide)) rfl hl.1 rfl (Nat.le_of_ble_eq_true rfl) dX12_whySwear_19 (Nat.zero_le _) (Nat.zero_le _) (fun r6 u6 H6 locs6 hp6 hP hS => ?_)
    obtain ⟨σ6, τ6⟩ := u6
    obtain ⟨hR, f6, fL6, hq6⟩ : P_X12_isPast σ0 τ0 a2 r6 σ6 τ6 := hp6
    have hP : va_P D vwCl (gw cA ad σ6 τ6) H6 := hP
    obtain rfl := FrL.nil fL6
    obtain rfl := Fr.nil f6
    refine r_if_ne (tgt := 29) hx hb dX12_whySwear_22 (by decide) (fun c7 => ?_) (fun c7 => ?_)
    · refine lv_aload_n hx hb dX12_whySwear_29 rfl (lv_at hl 0 rfl) ?_
      refine fg_12_6 (k := 387) hx hb hts in_X12_whySwear_12 hown hK hP (by decide) (by decide) (hts _ lk_X12_whySwear_33) dX12_whySwear_30 ?_
      refine r_sipush hx hb dX12_whySwear_33 (by decide) (fun z8 ez8 => ?_)
      refine lv_iload_n hx hb dX12_whySwear_36 rfl (lv_at hl 1 rfl) ?_
      refine r_iadd hx hb dX12_whySwear_37 (by omega) (fun z9 ez9 => ?_)
      obtain ⟨j10, ej10⟩ : ∃ j : Nat, z9.toInt = (j : Int) := ⟨_, ti_nat (by omega)⟩
      refine ad_ms (k := 389) (j := j10) hx hb hK hP (by decide) (by decide) ej10 (by omega) dX12_whySwear_38 ?_
      refine r_if_ne (tgt := 46) hx hb dX12_whySwear_39 (by decide) (fun c11 => ?_) (fun c11 => ?_)
      · refine r_iconst hx hb dX12_whySwear_46 (by decide) (fun z12 ez12 => ?_)
        exact r_iret hx hb hr hK hP hS hk dX12_whySwear_47 (show P_X12_whySwear σ0 τ0 a1 a2 z12 σ0 τ0 from ⟨hR, hF, hFL, by omega⟩)
      · refine r_iconst hx hb dX12_whySwear_42 (by decide) (fun z13 ez13 => ?_)
        refine lv_goto (tgt := 47) hx hb dX12_whySwear_43 (by decide) ?_
        exact r_iret hx hb hr hK hP hS hk dX12_whySwear_47 (show P_X12_whySwear σ0 τ0 a1 a2 z13 σ0 τ0 from ⟨hR, hF, hFL, by omega⟩)
    · refine r_iconst hx hb dX12_whySwear_25 (by decide) (fun z14 ez14 => ?_)
      refine lv_goto (tgt := 47) hx hb dX12_whySwear_26 (by decide) ?_
      exact r_iret hx hb hr hK hP hS hk dX12_whySwear_47 (show P_X12_whySwear σ0 τ0 a1 a2 z14 σ0 τ0 from ⟨hR, hF, hFL, by omega⟩)
  · refine r_iconst hx hb dX12_whySwear_13 (by decide) (fun z15 ez15 => ?_)
    refine lv_goto (tgt := 47) hx hb dX12_whySwear_14 (by decide) ?_
    exact r_iret hx hb hr hK hP hS hk dX12_whySwear_47 (show P_X12_whySwear σ0 τ0 a1 a2 z15 σ0 τ0 from ⟨hR, hF, hFL, by omega⟩)
theorem in_X12_swear_12 : ∀ w ∈ u_ws RX12 TX12 47, w ∈ wsX12_swear := by decide +kernel
theorem lk_X12_swear_1 : Cond.fieldLink RX12 1 "CuckooSharesModel" "thrown" "I" ∈ wsX12_swear := by decide +kernel
abbrev L_X12_swear : List Rc := [(387, 387, 0, 0), (387, 387, 29, 29), (398, 398, 0, 279), (389, 389, 222, 237)]
abbrev LL_X12_swear : List Rc := []
def P_X12_swear (σ0 : Nat → Nat → Int32) (τ0 : Nat → Nat → Int64) (a1 : Int32) (a2 : Int32) (r : Int32) (σ : Nat → Nat → Int32) (τ : Nat → Nat → Int64) : Prop := Rg σ ∧ Fr L_X12_swear σ0 σ ∧ FrL LL_X12_swear τ0 τ ∧ (-1 ≤ r.toInt ∧ r.toInt ≤ 3)
set_option maxHeartbeats 4000000 in
theorem c_X12_swear (l : Launch) (D : va_G) (cA : Nat → ClassId) (ad : Nat → Nat) (hI : Inj ad) (σ0 : Nat → Nat → Int32) (τ0 : Nat → Nat → Int64) (hR : Rg σ0) (a1 : Int32) (a2 : Int32)  : Met l yX12_swear wsX12_swear ({ frames := 2, cells := 0, slots := 0, locals := 44 } : Room) (WQc D cA ad [.ref (ad 387), .int a1, .int a2] σ0 τ0) (va_Qi (fun (r : Int32) (u : SS) => P_X12_swear σ0 τ0 a1 a2 r u.1 u.2) (WB D cA ad) (AA ad)) 0 0 (AA ad) := by
  refine Met.ofW (cc := cX12_swear) (maxL := 4) (ret := (some .int)) (by decide) rfl ?_
  intro p e s m args below meth c s₁ B hml hv
  obtain ⟨rfl, hP, hK, hN⟩ := hv
  have C : Cy p s m _ meth c cX12_swear 4 wsX12_swear RX12 D cA ad (some .int) := ⟨B.exec, B.bytes, hml, findClass_of_methodNamed B.named, atoms_spec (ws := wsX12_swear) B.pre, hK, B.notSynchronized, B.returns, hI, hN⟩
  have hl := lv_entry ([.ref (ad 387), .int a1, .int a2]) (n := 4) (Nat.le_of_ble_eq_true rfl)
  rw [lg_entry_eq]
  generalize (lg_sl ([.ref (ad 387), .int a1, .int a2]) ++ List.replicate (4 - (lg_sl ([.ref (ad 387), .int a1, .int a2])).length) Slot.unset).toArray = ls at hl ⊢
  have hl : lv_has ls 4 [(0, .ref (ad 387)), (1, .int a1), (2, .int a2)] := hl
  have hS : va_S (AA ad) s.heap s.heap [] := va_S.rf
  have hF : Fr L_X12_swear σ0 σ0 := Fr.rf
  have hFL : FrL LL_X12_swear τ0 τ0 := FrL.rf
  obtain ⟨hx, hb, _, hown, hts, _, hk, hr, _, _⟩ := C
  refine lv_aload_n hx hb dX12_swear_0 rfl (lv_at hl 0 rfl) ?_
  refine r_iconst hx hb dX12_swear_1 (by decide) (fun z1 ez1 => ?_)
  refine fp_12_0 (k := 387) hx hb hts in_X12_swear_12 hown hK hP (by decide) (by decide) (hts _ lk_X12_swear_1) hI hR hS (by omega) dX12_swear_2 (fun σ2 H2 locs2 u2 v2 hR hP hS => ?_)
  have hF := hF.puts u2 0 rfl (by decide) (by decide) (by decide) (by decide)
  refine lv_aload_n hx hb dX12_swear_5 rfl (lv_at hl 0 rfl) ?_
  refine lv_iload_n hx hb dX12_swear_6 rfl (lv_at hl 1 rfl) ?_
  refine r_cVi (k := 387) (As := [.int a1]) (rest := []) ⟨hx, hb, hml, hown, hts⟩ hK hP hN hS (c_X12_isMan l D cA ad hI σ2 τ0 hR a1) (cwV 1 hts gX12_swear_X12_isMan rfl rfl rfl (by decide +kernel) ⟨by decide, by decide⟩) (rv_M hK hP (by decide) (by decide)) rfl hl.1 rfl (Nat.le_of_ble_eq_true rfl) dX12_swear_7 (Nat.zero_le _) (Nat.zero_le _) (fun r3 u3 H3 locs3 hp3 hP hS => ?_)
  obtain ⟨σ3, τ3⟩ := u3
  obtain ⟨hR, f3, fL3, hq3, hp3_0⟩ : P_X12_isMan σ2 τ0 a1 r3 σ3 τ3 := hp3
  have hP : va_P D vwCl (gw cA ad σ3 τ3) H3 := hP
  obtain rfl := FrL.nil fL3
  obtain rfl := Fr.nil f3
  refine r_if_eq (tgt := 23) hx hb dX12_swear_10 (by decide) (fun c4 => ?_) (fun c4 => ?_)
  · clear hp3_0
    refine r_iconst hx hb dX12_swear_23 (by decide) (fun z5 ez5 => ?_)
    exact r_iret hx hb hr hK hP hS hk dX12_swear_24 (show P_X12_swear σ0 τ0 a1 a2 z5 σ2 τ0 from ⟨hR, hF, hFL, by omega⟩)
  · replace hp3_0 := hp3_0.resolve_left (by omega)
    refine lv_iload_n hx hb dX12_swear_13 rfl (lv_at hl 2 rfl) ?_
    refine r_iconst hx hb dX12_swear_14 (by decide) (fun z6 ez6 => ?_)
    refine r_bipush hx hb dX12_swear_15 (by decide) (fun z7 ez7 => ?_)
    refine r_cSi (As := [.int a2, .int z6, .int z7]) (rest := []) ⟨hx, hb, hml, hown, hts⟩ hK hP hN hS (c_X12_isIn l D cA ad hI σ2 τ0 hR a2 z6 z7) (va_cwS 3 hts gX12_swear_X12_isIn rfl rfl rfl (by decide +kernel) ⟨by decide, by decide⟩) rfl hl.1 rfl (Nat.le_of_ble_eq_true rfl) dX12_swear_17 (Nat.zero_le _) (Nat.zero_le _) (fun r8 u8 H8 locs8 hp8 hP hS => ?_)
    obtain ⟨σ8, τ8⟩ := u8
    obtain ⟨hR, f8, fL8, hq8, hp8_0, hp8_1⟩ : P_X12_isIn σ2 τ0 a2 z6 z7 r8 σ8 τ8 := hp8
    have hP : va_P D vwCl (gw cA ad σ8 τ8) H8 := hP
    obtain rfl := FrL.nil fL8
    obtain rfl := Fr.nil f8
    refine r_if_ne (tgt := 25) hx hb dX12_swear_20 (by decide) (fun c9 => ?_) (fun c9 => ?_)
    · replace hp8_0 := hp8_0.resolve_left (by omega)
      refine lv_aload_n hx hb dX12_swear_25 rfl (lv_at hl 0 rfl) ?_
      refine lv_iload_n hx hb dX12_swear_26 rfl (lv_at hl 1 rfl) ?_
      refine lv_iload_n hx hb dX12_swear_27 rfl (lv_at hl 2 rfl) ?_
      refine r_cVi (k := 387) (As := [.int a1, .int a2]) (rest := []) ⟨hx, hb, hml, hown, hts⟩ hK hP hN hS (c_X12_whySwear l D cA ad hI σ2 τ0 hR a1 a2 (by omega) (by omega)) (cwV 2 hts gX12_swear_X12_whySwear rfl rfl rfl (by decide +kernel) ⟨by decide, by decide⟩) (rv_M hK hP (by decide) (by decide)) rfl hl.1 rfl (Nat.le_of_ble_eq_true rfl) dX12_swear_28 (Nat.zero_le _) (Nat.zero_le _) (fun r10 u10 H10 locs10 hp10 hP hS => ?_)
      obtain ⟨σ10, τ10⟩ := u10
      obtain ⟨hR, f10, fL10, hq10⟩ : P_X12_whySwear σ2 τ0 a1 a2 r10 σ10 τ10 := hp10
      have hP : va_P D vwCl (gw cA ad σ10 τ10) H10 := hP
      obtain rfl := FrL.nil fL10
      obtain rfl := Fr.nil f10
      refine lv_istore_n (lv' := [(3, .int r10), (0, .ref (ad 387)), (1, .int a1), (2, .int a2)]) hx hb dX12_swear_31 rfl hl (by decide) rfl (fun ls hl => ?_)
      refine lv_iload_n hx hb dX12_swear_32 rfl (lv_at hl 0 rfl) ?_
      refine r_if_le (tgt := 38) hx hb dX12_swear_33 (by decide) (fun c11 => ?_) (fun c11 => ?_)
      · refine lv_aload_n hx hb dX12_swear_38 rfl (lv_at hl 1 rfl) ?_
        refine r_cVv (k := 387) (As := []) (rest := []) ⟨hx, hb, hml, hown, hts⟩ hK hP hN hS (c_X12_keep l D cA ad hI σ2 τ0 hR) (cwV 0 hts gX12_swear_X12_keep rfl rfl rfl (by decide +kernel) ⟨by decide, by decide⟩) (rv_M hK hP (by decide) (by decide)) rfl hl.1 rfl (Nat.le_of_ble_eq_true rfl) dX12_swear_39 (Nat.zero_le _) (Nat.zero_le _) (fun u12 H12 locs12 hp12 hP hS => ?_)
        obtain ⟨σ12, τ12⟩ := u12
        obtain ⟨hR, f12, fL12, hp12_0⟩ : P_X12_keep σ2 τ0 σ12 τ12 := hp12
        have hP : va_P D vwCl (gw cA ad σ12 τ12) H12 := hP
        obtain rfl := FrL.nil fL12
        have hF := hF.step f12 (by decide)
        refine lv_aload_n hx hb dX12_swear_42 rfl (lv_at hl 1 rfl) ?_
        refine lv_iload_n hx hb dX12_swear_43 rfl (lv_at hl 2 rfl) ?_
        refine lv_iload_n hx hb dX12_swear_44 rfl (lv_at hl 3 rfl) ?_
        refine r_cVv (k := 387) (As := [.int a1, .int a2]) (rest := []) ⟨hx, hb, hml, hown, hts⟩ hK hP hN hS (c_X12_swearsTo l D cA ad hI σ12 τ0 hR a1 a2 (by omega) (by omega)) (cwV 2 hts gX12_swear_X12_swearsTo rfl rfl rfl (by decide +kernel) ⟨by decide, by decide⟩) (rv_M hK hP (by decide) (by decide)) rfl hl.1 rfl (Nat.le_of_ble_eq_true rfl) dX12_swear_45 (Nat.zero_le _) (Nat.zero_le _) (fun u13 H13 locs13 hp13 hP hS => ?_)
        obtain ⟨σ13, τ13⟩ := u13
        obtain ⟨hR, f13, fL13⟩ : P_X12_swearsTo σ12 τ0 a1 a2 σ13 τ13 := hp13
        have hP : va_P D vwCl (gw cA ad σ13 τ13) H13 := hP
        obtain rfl := FrL.nil fL13
        have hF := hF.step f13 (by decide)
        have t14 : (σ13 387 29).toInt = (σ12 387 29).toInt := congrArg Int32.toInt (f13.at 387 29 (by decide))
        refine r_iconst hx hb dX12_swear_48 (by decide) (fun z15 ez15 => ?_)
        exact r_iret hx hb hr hK hP hS hk dX12_swear_49 (show P_X12_swear σ0 τ0 a1 a2 z15 σ13 τ0 from ⟨hR, hF, hFL, by omega⟩)
      · refine lv_iload_n hx hb dX12_swear_36 rfl (lv_at hl 0 rfl) ?_
        exact r_iret hx hb hr hK hP hS hk dX12_swear_37 (show P_X12_swear σ0 τ0 a1 a2 r10 σ2 τ0 from ⟨hR, hF, hFL, by omega⟩)
    · clear hp8_0
      refine r_iconst hx hb dX12_swear_23 (by decide) (fun z16 ez16 => ?_)
      exact r_iret hx hb hr hK hP hS hk dX12_swear_24 (show P_X12_swear σ0 τ0 a1 a2 z16 σ2 τ0 from ⟨hR, hF, hFL, by omega⟩)
theorem in_X12_stands_12 : ∀ w ∈ u_ws RX12 TX12 47, w ∈ wsX12_stands := by decide +kernel
theorem lk_X12_stands_33 : Cond.fieldLink RX12 33 "CuckooSharesModel" "s" "[I" ∈ wsX12_stands := by decide +kernel
theorem lk_X12_stands_50 : Cond.fieldLink RX12 50 "CuckooSharesModel" "px" "[I" ∈ wsX12_stands := by decide +kernel
theorem lk_X12_stands_53 : Cond.fieldLink RX12 53 "CuckooSharesModel" "py" "[I" ∈ wsX12_stands := by decide +kernel
theorem lk_X12_stands_56 : Cond.fieldLink RX12 56 "CuckooSharesModel" "pf" "[I" ∈ wsX12_stands := by decide +kernel
abbrev L_X12_stands : List Rc := [(394, 394, 0, 7), (395, 395, 0, 7), (396, 396, 0, 7)]
abbrev LL_X12_stands : List Rc := []
def P_X12_stands (σ0 : Nat → Nat → Int32) (τ0 : Nat → Nat → Int64) (a1 : Int32) (a2 : Int32) (σ : Nat → Nat → Int32) (τ : Nat → Nat → Int64) : Prop := Rg σ ∧ Fr L_X12_stands σ0 σ ∧ FrL LL_X12_stands τ0 τ
set_option maxHeartbeats 4000000 in
theorem c_X12_stands (l : Launch) (D : va_G) (cA : Nat → ClassId) (ad : Nat → Nat) (hI : Inj ad) (σ0 : Nat → Nat → Int32) (τ0 : Nat → Nat → Int64) (hR : Rg σ0) (a1 : Int32) (a2 : Int32) (ha1 : 0 ≤ a1.toInt ∧ a1.toInt ≤ 7) (ha2 : 0 ≤ a2.toInt ∧ a2.toInt ≤ 7) : Met l yX12_stands wsX12_stands ({ frames := 0, cells := 0, slots := 0, locals := 0 } : Room) (WQc D cA ad [.ref (ad 387), .int a1, .int a2] σ0 τ0) (va_Qv (fun u : SS => P_X12_stands σ0 τ0 a1 a2 u.1 u.2) (WB D cA ad) (AA ad)) 0 0 (AA ad) := by
  refine Met.ofW (cc := cX12_stands) (maxL := 3) (ret := none) (by decide) rfl ?_
  intro p e s m args below meth c s₁ B hml hv
  obtain ⟨rfl, hP, hK, hN⟩ := hv
  have C : Cy p s m _ meth c cX12_stands 3 wsX12_stands RX12 D cA ad none := ⟨B.exec, B.bytes, hml, findClass_of_methodNamed B.named, atoms_spec (ws := wsX12_stands) B.pre, hK, B.notSynchronized, B.returns, hI, hN⟩
  have hl := lv_entry ([.ref (ad 387), .int a1, .int a2]) (n := 3) (Nat.le_of_ble_eq_true rfl)
  rw [lg_entry_eq]
  generalize (lg_sl ([.ref (ad 387), .int a1, .int a2]) ++ List.replicate (3 - (lg_sl ([.ref (ad 387), .int a1, .int a2])).length) Slot.unset).toArray = ls at hl ⊢
  have hl : lv_has ls 3 [(0, .ref (ad 387)), (1, .int a1), (2, .int a2)] := hl
  have hS : va_S (AA ad) s.heap s.heap [] := va_S.rf
  have hF : Fr L_X12_stands σ0 σ0 := Fr.rf
  have hFL : FrL LL_X12_stands τ0 τ0 := FrL.rf
  obtain ⟨hx, hb, _, hown, hts, _, hk, hr, _, _⟩ := C
  refine lv_aload_n hx hb dX12_stands_0 rfl (lv_at hl 0 rfl) ?_
  refine fg_12_22 (k := 387) hx hb hts in_X12_stands_12 hown hK hP (by decide) (by decide) (hts _ lk_X12_stands_50) dX12_stands_1 ?_
  refine lv_iload_n hx hb dX12_stands_4 rfl (lv_at hl 1 rfl) ?_
  refine lv_aload_n hx hb dX12_stands_5 rfl (lv_at hl 0 rfl) ?_
  refine fg_12_6 (k := 387) hx hb hts in_X12_stands_12 hown hK hP (by decide) (by decide) (hts _ lk_X12_stands_33) dX12_stands_6 ?_
  refine r_bipush hx hb dX12_stands_9 (by decide) (fun z1 ez1 => ?_)
  refine lv_iload_n hx hb dX12_stands_11 rfl (lv_at hl 2 rfl) ?_
  refine r_iadd hx hb dX12_stands_12 (by omega) (fun z2 ez2 => ?_)
  obtain ⟨j3, ej3⟩ : ∃ j : Nat, z2.toInt = (j : Int) := ⟨_, ti_nat (by omega)⟩
  refine ad_ms (k := 389) (j := j3) hx hb hK hP (by decide) (by decide) ej3 (by omega) dX12_stands_13 ?_
  obtain ⟨j4, ej4⟩ : ∃ j : Nat, a1.toInt = (j : Int) := ⟨_, ti_nat (by omega)⟩
  refine as_mp8 (k := 394) (j := j4) hx hb hK hP hI hR hS (by decide) (by decide) ej4 (by omega) dX12_stands_14 (fun σ5 H5 locs5 u5 v5 hR hP hS => ?_)
  have hF := hF.puts u5 0 rfl (by decide) (by decide) (by omega) (by omega)
  refine lv_aload_n hx hb dX12_stands_15 rfl (lv_at hl 0 rfl) ?_
  refine fg_12_23 (k := 387) hx hb hts in_X12_stands_12 hown hK hP (by decide) (by decide) (hts _ lk_X12_stands_53) dX12_stands_16 ?_
  refine lv_iload_n hx hb dX12_stands_19 rfl (lv_at hl 1 rfl) ?_
  refine lv_aload_n hx hb dX12_stands_20 rfl (lv_at hl 0 rfl) ?_
  refine fg_12_6 (k := 387) hx hb hts in_X12_stands_12 hown hK hP (by decide) (by decide) (hts _ lk_X12_stands_33) dX12_stands_21 ?_
  refine r_bipush hx hb dX12_stands_24 (by decide) (fun z6 ez6 => ?_)
  refine lv_iload_n hx hb dX12_stands_26 rfl (lv_at hl 2 rfl) ?_
  refine r_iadd hx hb dX12_stands_27 (by omega) (fun z7 ez7 => ?_)
  obtain ⟨j8, ej8⟩ : ∃ j : Nat, z7.toInt = (j : Int) := ⟨_, ti_nat (by omega)⟩
  refine ad_ms (k := 389) (j := j8) hx hb hK hP (by decide) (by decide) ej8 (by omega) dX12_stands_28 ?_
  refine as_mp8 (k := 395) (j := j4) hx hb hK hP hI hR hS (by decide) (by decide) ej4 (by omega) dX12_stands_29 (fun σ9 H9 locs9 u9 v9 hR hP hS => ?_)
  have hF := hF.puts u9 1 rfl (by decide) (by decide) (by omega) (by omega)
  refine lv_aload_n hx hb dX12_stands_30 rfl (lv_at hl 0 rfl) ?_
  refine fg_12_24 (k := 387) hx hb hts in_X12_stands_12 hown hK hP (by decide) (by decide) (hts _ lk_X12_stands_56) dX12_stands_31 ?_
  refine lv_iload_n hx hb dX12_stands_34 rfl (lv_at hl 1 rfl) ?_
  refine lv_aload_n hx hb dX12_stands_35 rfl (lv_at hl 0 rfl) ?_
  refine fg_12_6 (k := 387) hx hb hts in_X12_stands_12 hown hK hP (by decide) (by decide) (hts _ lk_X12_stands_33) dX12_stands_36 ?_
  refine r_bipush hx hb dX12_stands_39 (by decide) (fun z10 ez10 => ?_)
  refine lv_iload_n hx hb dX12_stands_41 rfl (lv_at hl 2 rfl) ?_
  refine r_iadd hx hb dX12_stands_42 (by omega) (fun z11 ez11 => ?_)
  obtain ⟨j12, ej12⟩ : ∃ j : Nat, z11.toInt = (j : Int) := ⟨_, ti_nat (by omega)⟩
  refine ad_ms (k := 389) (j := j12) hx hb hK hP (by decide) (by decide) ej12 (by omega) dX12_stands_43 ?_
  refine as_mp8 (k := 396) (j := j4) hx hb hK hP hI hR hS (by decide) (by decide) ej4 (by omega) dX12_stands_44 (fun σ13 H13 locs13 u13 v13 hR hP hS => ?_)
  have hF := hF.puts u13 2 rfl (by decide) (by decide) (by omega) (by omega)
  exact r_vret hx hb hr hK hP hS hk dX12_stands_45 (show P_X12_stands σ0 τ0 a1 a2 σ13 τ0 from ⟨hR, hF, hFL⟩)
theorem in_X12_asNow_12 : ∀ w ∈ u_ws RX12 TX12 47, w ∈ wsX12_asNow := by decide +kernel
theorem lk_X12_asNow_33 : Cond.fieldLink RX12 33 "CuckooSharesModel" "s" "[I" ∈ wsX12_asNow := by decide +kernel
abbrev L_X12_asNow : List Rc := [(394, 394, 0, 7), (395, 395, 0, 7), (396, 396, 0, 7)]
abbrev LL_X12_asNow : List Rc := []
def P_X12_asNow (σ0 : Nat → Nat → Int32) (τ0 : Nat → Nat → Int64)  (σ : Nat → Nat → Int32) (τ : Nat → Nat → Int64) : Prop := Rg σ ∧ Fr L_X12_asNow σ0 σ ∧ FrL LL_X12_asNow τ0 τ
def J_X12_asNow_2 (p : Program) (l : Launch) (e : Env) (s : State) (m : MethodId) (args : Array Value) (below : List Frame) (meth : Method) (c : Code) (D : va_G) (cA : Nat → ClassId) (ad : Nat → Nat) (σ0 : Nat → Nat → Int32) (τ0 : Nat → Nat → Int64)  (n : Nat) : Prop := ∀ (σ : Nat → Nat → Int32) (τ : Nat → Nat → Int64) (H : Heap) (locs : List Loc) (x1 : Int32) (ls : Array Slot), Rg σ → Fr L_X12_asNow σ0 σ → FrL LL_X12_asNow τ0 τ → va_P D vwCl (gw cA ad σ τ) H → va_S (AA ad) s.heap H locs → (0 ≤ x1.toInt ∧ x1.toInt ≤ 8) → lv_has ls 2 [(0, .ref (ad 387)), (1, .int x1)] → 2 * (8 - x1.toInt) + 1 < (n : Int) → W p l e ({ frames := 1, cells := 0, slots := 0, locals := 22 } : Room) s m args below meth c H locs 0 0 (MQ below (va_Qv (fun u : SS => P_X12_asNow σ0 τ0 u.1 u.2) (WB D cA ad) (AA ad)) args s 0 0 (AA ad)) (F0 m 2 ls [])
set_option maxHeartbeats 4000000 in
theorem B_X12_asNow_2 (p : Program) (l : Launch) (e : Env) (s : State) (m : MethodId) (args : Array Value) (below : List Frame) (meth : Method) (c : Code) (D : va_G) (cA : Nat → ClassId) (ad : Nat → Nat) (σ0 : Nat → Nat → Int32) (τ0 : Nat → Nat → Int64)  (n : Nat) (C : Cy p s m args meth c cX12_asNow 2 wsX12_asNow RX12 D cA ad none)  (K2 : J_X12_asNow_2 p l e s m args below meth c D cA ad σ0 τ0 n) : J_X12_asNow_2 p l e s m args below meth c D cA ad σ0 τ0 (n + 1) := by
  obtain ⟨hx, hb, hml, hown, hts, hK, hk, hr, hI, hN⟩ := C
  intro σ τ H locs x1 ls hR hF hFL hP hS hc0 hl hm
  obtain rfl := FrL.nil hFL
  refine lv_iload_n hx hb dX12_asNow_2 rfl (lv_at hl 1 rfl) ?_
  refine lv_aload_n hx hb dX12_asNow_3 rfl (lv_at hl 0 rfl) ?_
  refine fg_12_6 (k := 387) hx hb hts in_X12_asNow_12 hown hK hP (by decide) (by decide) (hts _ lk_X12_asNow_33) dX12_asNow_4 ?_
  refine r_iconst hx hb dX12_asNow_7 (by decide) (fun z1 ez1 => ?_)
  refine ad_ms (k := 389) (j := 1) hx hb hK hP (by decide) (by decide) (by omega) (by omega) dX12_asNow_8 ?_
  have hr2 := ra_ms_0 hR (k := 389) (j := 1) (by decide) (by decide) (by decide) (by decide)
  refine r_icmp_ge (tgt := 33) hx hb dX12_asNow_9 (by decide) (fun c3 => ?_) (fun c3 => ?_)
  · exact r_vret hx hb hr hK hP hS hk dX12_asNow_33 (show P_X12_asNow σ0 τ0 σ τ0 from ⟨hR, hF, hFL⟩)
  · refine lv_aload_n hx hb dX12_asNow_12 rfl (lv_at hl 0 rfl) ?_
    refine lv_iload_n hx hb dX12_asNow_13 rfl (lv_at hl 1 rfl) ?_
    refine lv_aload_n hx hb dX12_asNow_14 rfl (lv_at hl 0 rfl) ?_
    refine fg_12_6 (k := 387) hx hb hts in_X12_asNow_12 hown hK hP (by decide) (by decide) (hts _ lk_X12_asNow_33) dX12_asNow_15 ?_
    refine r_sipush hx hb dX12_asNow_18 (by decide) (fun z4 ez4 => ?_)
    refine lv_iload_n hx hb dX12_asNow_21 rfl (lv_at hl 1 rfl) ?_
    refine r_iadd hx hb dX12_asNow_22 (by omega) (fun z5 ez5 => ?_)
    obtain ⟨j6, ej6⟩ : ∃ j : Nat, z5.toInt = (j : Int) := ⟨_, ti_nat (by omega)⟩
    refine ad_ms (k := 389) (j := j6) hx hb hK hP (by decide) (by decide) ej6 (by omega) dX12_asNow_23 ?_
    have hr7 := ra_ms_6 hR (k := 389) (j := j6) (by decide) (by decide) (by omega) (by omega)
    refine r_cVv (k := 387) (As := [.int x1, .int (σ 389 j6)]) (rest := []) ⟨hx, hb, hml, hown, hts⟩ hK hP hN hS (c_X12_stands l D cA ad hI σ τ0 hR x1 (σ 389 j6) (by omega) (by omega)) (cwV 2 hts gX12_asNow_X12_stands rfl rfl rfl (by decide +kernel) ⟨by decide, by decide⟩) (rv_M hK hP (by decide) (by decide)) rfl hl.1 rfl (Nat.le_of_ble_eq_true rfl) dX12_asNow_24 (Nat.zero_le _) (Nat.zero_le _) (fun u8 H8 locs8 hp8 hP hS => ?_)
    obtain ⟨σ8, τ8⟩ := u8
    obtain ⟨hR, f8, fL8⟩ : P_X12_stands σ τ0 x1 (σ 389 j6) σ8 τ8 := hp8
    have hP : va_P D vwCl (gw cA ad σ8 τ8) H8 := hP
    obtain rfl := FrL.nil fL8
    have hF := hF.step f8 (by decide)
    refine r_iinc (k := 1) (lv1 := fun z9 => [(1, .int z9), (0, .ref (ad 387))]) hx hb dX12_asNow_27 hl rfl (by decide) (fun _ => rfl) (by decide) (by omega) (fun z9 ls ez9 hl => ?_)
    refine lv_goto (tgt := 2) hx hb dX12_asNow_30 (by decide) ?_
    exact K2 σ8 τ0 H8 locs8 z9 ls hR hF hFL hP hS (by omega) (lv_sub hl [1, 0] rfl) (by omega)
theorem A_X12_asNow (p : Program) (l : Launch) (e : Env) (s : State) (m : MethodId) (args : Array Value) (below : List Frame) (meth : Method) (c : Code) (D : va_G) (cA : Nat → ClassId) (ad : Nat → Nat) (σ0 : Nat → Nat → Int32) (τ0 : Nat → Nat → Int64)  (C : Cy p s m args meth c cX12_asNow 2 wsX12_asNow RX12 D cA ad none)  : ∀ n : Nat, J_X12_asNow_2 p l e s m args below meth c D cA ad σ0 τ0 n := by
  intro n
  induction n with
  | zero =>
    exact (by intro σ τ H locs x1 ls hR hF hFL hP hS hc0 hl hm; exfalso; omega)
  | succ n ih =>
    exact B_X12_asNow_2 p l e s m args below meth c D cA ad σ0 τ0 n C  ih
set_option maxHeartbeats 4000000 in
theorem c_X12_asNow (l : Launch) (D : va_G) (cA : Nat → ClassId) (ad : Nat → Nat) (hI : Inj ad) (σ0 : Nat → Nat → Int32) (τ0 : Nat → Nat → Int64) (hR : Rg σ0)   : Met l yX12_asNow wsX12_asNow ({ frames := 1, cells := 0, slots := 0, locals := 22 } : Room) (WQc D cA ad [.ref (ad 387)] σ0 τ0) (va_Qv (fun u : SS => P_X12_asNow σ0 τ0 u.1 u.2) (WB D cA ad) (AA ad)) 0 0 (AA ad) := by
  refine Met.ofW (cc := cX12_asNow) (maxL := 2) (ret := none) (by decide) rfl ?_
  intro p e s m args below meth c s₁ B hml hv
  obtain ⟨rfl, hP, hK, hN⟩ := hv
  have C : Cy p s m _ meth c cX12_asNow 2 wsX12_asNow RX12 D cA ad none := ⟨B.exec, B.bytes, hml, findClass_of_methodNamed B.named, atoms_spec (ws := wsX12_asNow) B.pre, hK, B.notSynchronized, B.returns, hI, hN⟩
  have hl := lv_entry ([.ref (ad 387)]) (n := 2) (Nat.le_of_ble_eq_true rfl)
  rw [lg_entry_eq]
  generalize (lg_sl ([.ref (ad 387)]) ++ List.replicate (2 - (lg_sl ([.ref (ad 387)])).length) Slot.unset).toArray = ls at hl ⊢
  have hl : lv_has ls 2 [(0, .ref (ad 387))] := hl
  have hS : va_S (AA ad) s.heap s.heap [] := va_S.rf
  have hF : Fr L_X12_asNow σ0 σ0 := Fr.rf
  have hFL : FrL LL_X12_asNow τ0 τ0 := FrL.rf
  have hA := A_X12_asNow p l e s m _ below meth c D cA ad σ0 τ0 C  42
  have K2 := hA
  clear hA
  obtain ⟨hx, hb, _, hown, hts, _, hk, hr, _, _⟩ := C
  refine r_iconst hx hb dX12_asNow_0 (by decide) (fun z1 ez1 => ?_)
  refine lv_istore_n (lv' := [(1, .int z1), (0, .ref (ad 387))]) hx hb dX12_asNow_1 rfl hl (by decide) rfl (fun ls hl => ?_)
  exact K2 σ0 τ0 s.heap [] z1 ls hR hF hFL hP hS (by omega) (lv_sub hl [1, 0] rfl) (by omega)
abbrev L_X12_off : List Rc := []
abbrev LL_X12_off : List Rc := []
def P_X12_off (σ0 : Nat → Nat → Int32) (τ0 : Nat → Nat → Int64) (a0 : Int32) (a1 : Int32) (r : Int32) (σ : Nat → Nat → Int32) (τ : Nat → Nat → Int64) : Prop := Rg σ ∧ Fr L_X12_off σ0 σ ∧ FrL LL_X12_off τ0 τ
set_option maxHeartbeats 4000000 in
theorem c_X12_off (l : Launch) (D : va_G) (cA : Nat → ClassId) (ad : Nat → Nat) (hI : Inj ad) (σ0 : Nat → Nat → Int32) (τ0 : Nat → Nat → Int64) (hR : Rg σ0) (a0 : Int32) (a1 : Int32)  : Met l yX12_off wsX12_off ({ frames := 0, cells := 0, slots := 0, locals := 0 } : Room) (WQc D cA ad [.int a0, .int a1] σ0 τ0) (va_Qi (fun (r : Int32) (u : SS) => P_X12_off σ0 τ0 a0 a1 r u.1 u.2) (WB D cA ad) (AA ad)) 0 0 (AA ad) := by
  refine Met.ofW (cc := cX12_off) (maxL := 2) (ret := (some .int)) (by decide) rfl ?_
  intro p e s m args below meth c s₁ B hml hv
  obtain ⟨rfl, hP, hK, hN⟩ := hv
  have C : Cy p s m _ meth c cX12_off 2 wsX12_off RX12 D cA ad (some .int) := ⟨B.exec, B.bytes, hml, findClass_of_methodNamed B.named, atoms_spec (ws := wsX12_off) B.pre, hK, B.notSynchronized, B.returns, hI, hN⟩
  have hl := lv_entry ([.int a0, .int a1]) (n := 2) (Nat.le_of_ble_eq_true rfl)
  rw [lg_entry_eq]
  generalize (lg_sl ([.int a0, .int a1]) ++ List.replicate (2 - (lg_sl ([.int a0, .int a1])).length) Slot.unset).toArray = ls at hl ⊢
  have hl : lv_has ls 2 [(0, .int a0), (1, .int a1)] := hl
  have hS : va_S (AA ad) s.heap s.heap [] := va_S.rf
  have hF : Fr L_X12_off σ0 σ0 := Fr.rf
  have hFL : FrL LL_X12_off τ0 τ0 := FrL.rf
  obtain ⟨hx, hb, _, hown, hts, _, hk, hr, _, _⟩ := C
  refine lv_iload_n hx hb dX12_off_0 rfl (lv_at hl 0 rfl) ?_
  refine lv_iload_n hx hb dX12_off_1 rfl (lv_at hl 1 rfl) ?_
  refine r_icmp_ge (tgt := 11) hx hb dX12_off_2 (by decide) (fun c1 => ?_) (fun c1 => ?_)
  · refine lv_iload_n hx hb dX12_off_11 rfl (lv_at hl 0 rfl) ?_
    refine lv_iload_n hx hb dX12_off_12 rfl (lv_at hl 1 rfl) ?_
    refine r_isubU hx hb dX12_off_13 (fun z2 => ?_)
    exact r_iret hx hb hr hK hP hS hk dX12_off_14 (show P_X12_off σ0 τ0 a0 a1 z2 σ0 τ0 from ⟨hR, hF, hFL⟩)
  · refine lv_iload_n hx hb dX12_off_5 rfl (lv_at hl 1 rfl) ?_
    refine lv_iload_n hx hb dX12_off_6 rfl (lv_at hl 0 rfl) ?_
    refine r_isubU hx hb dX12_off_7 (fun z3 => ?_)
    refine lv_goto (tgt := 14) hx hb dX12_off_8 (by decide) ?_
    exact r_iret hx hb hr hK hP hS hk dX12_off_14 (show P_X12_off σ0 τ0 a0 a1 z3 σ0 τ0 from ⟨hR, hF, hFL⟩)
theorem in_X12_farOf_12 : ∀ w ∈ u_ws RX12 TX12 47, w ∈ wsX12_farOf := by decide +kernel
theorem lk_X12_farOf_33 : Cond.fieldLink RX12 33 "CuckooSharesModel" "s" "[I" ∈ wsX12_farOf := by decide +kernel
theorem lk_X12_farOf_50 : Cond.fieldLink RX12 50 "CuckooSharesModel" "px" "[I" ∈ wsX12_farOf := by decide +kernel
theorem lk_X12_farOf_53 : Cond.fieldLink RX12 53 "CuckooSharesModel" "py" "[I" ∈ wsX12_farOf := by decide +kernel
abbrev L_X12_farOf : List Rc := []
abbrev LL_X12_farOf : List Rc := []
def P_X12_farOf (σ0 : Nat → Nat → Int32) (τ0 : Nat → Nat → Int64) (a1 : Int32) (a2 : Int32) (a3 : Int32) (r : Int32) (σ : Nat → Nat → Int32) (τ : Nat → Nat → Int64) : Prop := Rg σ ∧ Fr L_X12_farOf σ0 σ ∧ FrL LL_X12_farOf τ0 τ
set_option maxHeartbeats 4000000 in
theorem c_X12_farOf (l : Launch) (D : va_G) (cA : Nat → ClassId) (ad : Nat → Nat) (hI : Inj ad) (σ0 : Nat → Nat → Int32) (τ0 : Nat → Nat → Int64) (hR : Rg σ0) (a1 : Int32) (a2 : Int32) (a3 : Int32) (ha1 : 0 ≤ a1.toInt ∧ a1.toInt ≤ 7) (ha2 : -1 ≤ a2.toInt ∧ a2.toInt ≤ 3) (ha3 : -1 ≤ a3.toInt ∧ a3.toInt ≤ 9) : Met l yX12_farOf wsX12_farOf ({ frames := 1, cells := 0, slots := 0, locals := 21 } : Room) (WQc D cA ad [.ref (ad 387), .int a1, .int a2, .int a3] σ0 τ0) (va_Qi (fun (r : Int32) (u : SS) => P_X12_farOf σ0 τ0 a1 a2 a3 r u.1 u.2) (WB D cA ad) (AA ad)) 0 0 (AA ad) := by
  refine Met.ofW (cc := cX12_farOf) (maxL := 4) (ret := (some .int)) (by decide) rfl ?_
  intro p e s m args below meth c s₁ B hml hv
  obtain ⟨rfl, hP, hK, hN⟩ := hv
  have C : Cy p s m _ meth c cX12_farOf 4 wsX12_farOf RX12 D cA ad (some .int) := ⟨B.exec, B.bytes, hml, findClass_of_methodNamed B.named, atoms_spec (ws := wsX12_farOf) B.pre, hK, B.notSynchronized, B.returns, hI, hN⟩
  have hl := lv_entry ([.ref (ad 387), .int a1, .int a2, .int a3]) (n := 4) (Nat.le_of_ble_eq_true rfl)
  rw [lg_entry_eq]
  generalize (lg_sl ([.ref (ad 387), .int a1, .int a2, .int a3]) ++ List.replicate (4 - (lg_sl ([.ref (ad 387), .int a1, .int a2, .int a3])).length) Slot.unset).toArray = ls at hl ⊢
  have hl : lv_has ls 4 [(0, .ref (ad 387)), (1, .int a1), (2, .int a2), (3, .int a3)] := hl
  have hS : va_S (AA ad) s.heap s.heap [] := va_S.rf
  have hF : Fr L_X12_farOf σ0 σ0 := Fr.rf
  have hFL : FrL LL_X12_farOf τ0 τ0 := FrL.rf
  obtain ⟨hx, hb, _, hown, hts, _, hk, hr, _, _⟩ := C
  refine lv_aload_n hx hb dX12_farOf_0 rfl (lv_at hl 0 rfl) ?_
  refine fg_12_22 (k := 387) hx hb hts in_X12_farOf_12 hown hK hP (by decide) (by decide) (hts _ lk_X12_farOf_50) dX12_farOf_1 ?_
  refine lv_iload_n hx hb dX12_farOf_4 rfl (lv_at hl 1 rfl) ?_
  obtain ⟨j1, ej1⟩ : ∃ j : Nat, a1.toInt = (j : Int) := ⟨_, ti_nat (by omega)⟩
  refine ad_mp8 (k := 394) (j := j1) hx hb hK hP (by decide) (by decide) ej1 (by omega) dX12_farOf_5 ?_
  refine lv_aload_n hx hb dX12_farOf_6 rfl (lv_at hl 0 rfl) ?_
  refine fg_12_6 (k := 387) hx hb hts in_X12_farOf_12 hown hK hP (by decide) (by decide) (hts _ lk_X12_farOf_33) dX12_farOf_7 ?_
  refine r_sipush hx hb dX12_farOf_10 (by decide) (fun z2 ez2 => ?_)
  refine r_bipush hx hb dX12_farOf_13 (by decide) (fun z3 ez3 => ?_)
  refine lv_iload_n hx hb dX12_farOf_15 rfl (lv_at hl 2 rfl) ?_
  refine r_imulL (n := 10) hx hb dX12_farOf_16 (by omega) (by omega) (fun z4 ez4 => ?_)
  refine r_iadd hx hb dX12_farOf_17 (by omega) (fun z5 ez5 => ?_)
  refine lv_iload_n hx hb dX12_farOf_18 rfl (lv_at hl 3 rfl) ?_
  refine r_iadd hx hb dX12_farOf_19 (by omega) (fun z6 ez6 => ?_)
  obtain ⟨j7, ej7⟩ : ∃ j : Nat, z6.toInt = (j : Int) := ⟨_, ti_nat (by omega)⟩
  refine ad_ms (k := 389) (j := j7) hx hb hK hP (by decide) (by decide) ej7 (by omega) dX12_farOf_20 ?_
  refine r_cSi (As := [.int (σ0 394 j1), .int (σ0 389 j7)]) (rest := []) ⟨hx, hb, hml, hown, hts⟩ hK hP hN hS (c_X12_off l D cA ad hI σ0 τ0 hR (σ0 394 j1) (σ0 389 j7)) (va_cwS 2 hts gX12_farOf_X12_off rfl rfl rfl (by decide +kernel) ⟨by decide, by decide⟩) rfl hl.1 rfl (Nat.le_of_ble_eq_true rfl) dX12_farOf_21 (Nat.zero_le _) (Nat.zero_le _) (fun r8 u8 H8 locs8 hp8 hP hS => ?_)
  obtain ⟨σ8, τ8⟩ := u8
  obtain ⟨hR, f8, fL8⟩ : P_X12_off σ0 τ0 (σ0 394 j1) (σ0 389 j7) r8 σ8 τ8 := hp8
  have hP : va_P D vwCl (gw cA ad σ8 τ8) H8 := hP
  obtain rfl := FrL.nil fL8
  obtain rfl := Fr.nil f8
  refine lv_aload_n hx hb dX12_farOf_24 rfl (lv_at hl 0 rfl) ?_
  refine fg_12_23 (k := 387) hx hb hts in_X12_farOf_12 hown hK hP (by decide) (by decide) (hts _ lk_X12_farOf_53) dX12_farOf_25 ?_
  refine lv_iload_n hx hb dX12_farOf_28 rfl (lv_at hl 1 rfl) ?_
  refine ad_mp8 (k := 395) (j := j1) hx hb hK hP (by decide) (by decide) ej1 (by omega) dX12_farOf_29 ?_
  refine lv_aload_n hx hb dX12_farOf_30 rfl (lv_at hl 0 rfl) ?_
  refine fg_12_6 (k := 387) hx hb hts in_X12_farOf_12 hown hK hP (by decide) (by decide) (hts _ lk_X12_farOf_33) dX12_farOf_31 ?_
  refine r_sipush hx hb dX12_farOf_34 (by decide) (fun z9 ez9 => ?_)
  refine r_bipush hx hb dX12_farOf_37 (by decide) (fun z10 ez10 => ?_)
  refine lv_iload_n hx hb dX12_farOf_39 rfl (lv_at hl 2 rfl) ?_
  refine r_imulL (n := 10) hx hb dX12_farOf_40 (by omega) (by omega) (fun z11 ez11 => ?_)
  refine r_iadd hx hb dX12_farOf_41 (by omega) (fun z12 ez12 => ?_)
  refine lv_iload_n hx hb dX12_farOf_42 rfl (lv_at hl 3 rfl) ?_
  refine r_iadd hx hb dX12_farOf_43 (by omega) (fun z13 ez13 => ?_)
  obtain ⟨j14, ej14⟩ : ∃ j : Nat, z13.toInt = (j : Int) := ⟨_, ti_nat (by omega)⟩
  refine ad_ms (k := 389) (j := j14) hx hb hK hP (by decide) (by decide) ej14 (by omega) dX12_farOf_44 ?_
  refine r_cSi (As := [.int (σ0 395 j1), .int (σ0 389 j14)]) (rest := [.int r8]) ⟨hx, hb, hml, hown, hts⟩ hK hP hN hS (c_X12_off l D cA ad hI σ0 τ0 hR (σ0 395 j1) (σ0 389 j14)) (va_cwS 2 hts gX12_farOf_X12_off rfl rfl rfl (by decide +kernel) ⟨by decide, by decide⟩) rfl hl.1 rfl (Nat.le_of_ble_eq_true rfl) dX12_farOf_45 (Nat.zero_le _) (Nat.zero_le _) (fun r15 u15 H15 locs15 hp15 hP hS => ?_)
  obtain ⟨σ15, τ15⟩ := u15
  obtain ⟨hR, f15, fL15⟩ : P_X12_off σ0 τ0 (σ0 395 j1) (σ0 389 j14) r15 σ15 τ15 := hp15
  have hP : va_P D vwCl (gw cA ad σ15 τ15) H15 := hP
  obtain rfl := FrL.nil fL15
  obtain rfl := Fr.nil f15
  refine r_iaddU hx hb dX12_farOf_48 (fun z16 => ?_)
  exact r_iret hx hb hr hK hP hS hk dX12_farOf_49 (show P_X12_farOf σ0 τ0 a1 a2 a3 z16 σ0 τ0 from ⟨hR, hF, hFL⟩)
theorem in_X12_isWindward_12 : ∀ w ∈ u_ws RX12 TX12 47, w ∈ wsX12_isWindward := by decide +kernel
theorem lk_X12_isWindward_33 : Cond.fieldLink RX12 33 "CuckooSharesModel" "s" "[I" ∈ wsX12_isWindward := by decide +kernel
theorem lk_X12_isWindward_50 : Cond.fieldLink RX12 50 "CuckooSharesModel" "px" "[I" ∈ wsX12_isWindward := by decide +kernel
theorem lk_X12_isWindward_53 : Cond.fieldLink RX12 53 "CuckooSharesModel" "py" "[I" ∈ wsX12_isWindward := by decide +kernel
abbrev L_X12_isWindward : List Rc := []
abbrev LL_X12_isWindward : List Rc := []
def P_X12_isWindward (σ0 : Nat → Nat → Int32) (τ0 : Nat → Nat → Int64) (a1 : Int32) (a2 : Int32) (a3 : Int32) (r : Int32) (σ : Nat → Nat → Int32) (τ : Nat → Nat → Int64) : Prop := Rg σ ∧ Fr L_X12_isWindward σ0 σ ∧ FrL LL_X12_isWindward τ0 τ ∧ (0 ≤ r.toInt ∧ r.toInt ≤ 1)
set_option maxHeartbeats 4000000 in
theorem c_X12_isWindward (l : Launch) (D : va_G) (cA : Nat → ClassId) (ad : Nat → Nat) (hI : Inj ad) (σ0 : Nat → Nat → Int32) (τ0 : Nat → Nat → Int64) (hR : Rg σ0) (a1 : Int32) (a2 : Int32) (a3 : Int32) (ha1 : 0 ≤ a1.toInt ∧ a1.toInt ≤ 7) (ha2 : -1 ≤ a2.toInt ∧ a2.toInt ≤ 3) (ha3 : -1 ≤ a3.toInt ∧ a3.toInt ≤ 9) : Met l yX12_isWindward wsX12_isWindward ({ frames := 0, cells := 0, slots := 0, locals := 0 } : Room) (WQc D cA ad [.ref (ad 387), .int a1, .int a2, .int a3] σ0 τ0) (va_Qi (fun (r : Int32) (u : SS) => P_X12_isWindward σ0 τ0 a1 a2 a3 r u.1 u.2) (WB D cA ad) (AA ad)) 0 0 (AA ad) := by
  refine Met.ofW (cc := cX12_isWindward) (maxL := 6) (ret := (some .boolean)) (by decide) rfl ?_
  intro p e s m args below meth c s₁ B hml hv
  obtain ⟨rfl, hP, hK, hN⟩ := hv
  have C : Cy p s m _ meth c cX12_isWindward 6 wsX12_isWindward RX12 D cA ad (some .boolean) := ⟨B.exec, B.bytes, hml, findClass_of_methodNamed B.named, atoms_spec (ws := wsX12_isWindward) B.pre, hK, B.notSynchronized, B.returns, hI, hN⟩
  have hl := lv_entry ([.ref (ad 387), .int a1, .int a2, .int a3]) (n := 6) (Nat.le_of_ble_eq_true rfl)
  rw [lg_entry_eq]
  generalize (lg_sl ([.ref (ad 387), .int a1, .int a2, .int a3]) ++ List.replicate (6 - (lg_sl ([.ref (ad 387), .int a1, .int a2, .int a3])).length) Slot.unset).toArray = ls at hl ⊢
  have hl : lv_has ls 6 [(0, .ref (ad 387)), (1, .int a1), (2, .int a2), (3, .int a3)] := hl
  have hS : va_S (AA ad) s.heap s.heap [] := va_S.rf
  have hF : Fr L_X12_isWindward σ0 σ0 := Fr.rf
  have hFL : FrL LL_X12_isWindward τ0 τ0 := FrL.rf
  obtain ⟨hx, hb, _, hown, hts, _, hk, hr, _, _⟩ := C
  refine lv_aload_n hx hb dX12_isWindward_0 rfl (lv_at hl 0 rfl) ?_
  refine fg_12_6 (k := 387) hx hb hts in_X12_isWindward_12 hown hK hP (by decide) (by decide) (hts _ lk_X12_isWindward_33) dX12_isWindward_1 ?_
  refine r_sipush hx hb dX12_isWindward_4 (by decide) (fun z1 ez1 => ?_)
  refine r_bipush hx hb dX12_isWindward_7 (by decide) (fun z2 ez2 => ?_)
  refine lv_iload_n hx hb dX12_isWindward_9 rfl (lv_at hl 2 rfl) ?_
  refine r_imulL (n := 10) hx hb dX12_isWindward_10 (by omega) (by omega) (fun z3 ez3 => ?_)
  refine r_iadd hx hb dX12_isWindward_11 (by omega) (fun z4 ez4 => ?_)
  refine lv_iload_n hx hb dX12_isWindward_12 rfl (lv_at hl 3 rfl) ?_
  refine r_iadd hx hb dX12_isWindward_13 (by omega) (fun z5 ez5 => ?_)
  obtain ⟨j6, ej6⟩ : ∃ j : Nat, z5.toInt = (j : Int) := ⟨_, ti_nat (by omega)⟩
  refine ad_ms (k := 389) (j := j6) hx hb hK hP (by decide) (by decide) ej6 (by omega) dX12_isWindward_14 ?_
  refine lv_istore (lv' := [(4, .int (σ0 389 j6)), (0, .ref (ad 387)), (1, .int a1), (2, .int a2), (3, .int a3)]) hx hb dX12_isWindward_15 hl (by decide) rfl (fun ls hl => ?_)
  refine lv_aload_n hx hb dX12_isWindward_17 rfl (lv_at hl 1 rfl) ?_
  refine fg_12_6 (k := 387) hx hb hts in_X12_isWindward_12 hown hK hP (by decide) (by decide) (hts _ lk_X12_isWindward_33) dX12_isWindward_18 ?_
  refine r_sipush hx hb dX12_isWindward_21 (by decide) (fun z7 ez7 => ?_)
  refine r_bipush hx hb dX12_isWindward_24 (by decide) (fun z8 ez8 => ?_)
  refine lv_iload_n hx hb dX12_isWindward_26 rfl (lv_at hl 3 rfl) ?_
  refine r_imulL (n := 10) hx hb dX12_isWindward_27 (by omega) (by omega) (fun z9 ez9 => ?_)
  refine r_iadd hx hb dX12_isWindward_28 (by omega) (fun z10 ez10 => ?_)
  refine lv_iload_n hx hb dX12_isWindward_29 rfl (lv_at hl 4 rfl) ?_
  refine r_iadd hx hb dX12_isWindward_30 (by omega) (fun z11 ez11 => ?_)
  obtain ⟨j12, ej12⟩ : ∃ j : Nat, z11.toInt = (j : Int) := ⟨_, ti_nat (by omega)⟩
  refine ad_ms (k := 389) (j := j12) hx hb hK hP (by decide) (by decide) ej12 (by omega) dX12_isWindward_31 ?_
  refine lv_istore (lv' := [(5, .int (σ0 389 j12)), (4, .int (σ0 389 j6)), (0, .ref (ad 387)), (1, .int a1), (2, .int a2), (3, .int a3)]) hx hb dX12_isWindward_32 hl (by decide) rfl (fun ls hl => ?_)
  refine lv_aload_n hx hb dX12_isWindward_34 rfl (lv_at hl 2 rfl) ?_
  refine fg_12_6 (k := 387) hx hb hts in_X12_isWindward_12 hown hK hP (by decide) (by decide) (hts _ lk_X12_isWindward_33) dX12_isWindward_35 ?_
  refine r_iconst hx hb dX12_isWindward_38 (by decide) (fun z13 ez13 => ?_)
  refine ad_ms (k := 389) (j := 5) hx hb hK hP (by decide) (by decide) (by omega) (by omega) dX12_isWindward_39 ?_
  refine r_if_ne (tgt := 62) hx hb dX12_isWindward_40 (by decide) (fun c14 => ?_) (fun c14 => ?_)
  · refine lv_aload_n hx hb dX12_isWindward_62 rfl (lv_at hl 2 rfl) ?_
    refine fg_12_6 (k := 387) hx hb hts in_X12_isWindward_12 hown hK hP (by decide) (by decide) (hts _ lk_X12_isWindward_33) dX12_isWindward_63 ?_
    refine r_iconst hx hb dX12_isWindward_66 (by decide) (fun z15 ez15 => ?_)
    refine ad_ms (k := 389) (j := 5) hx hb hK hP (by decide) (by decide) (by omega) (by omega) dX12_isWindward_67 ?_
    refine r_iconst hx hb dX12_isWindward_68 (by decide) (fun z16 ez16 => ?_)
    refine r_icmp_ne (tgt := 91) hx hb dX12_isWindward_69 (by decide) (fun c17 => ?_) (fun c17 => ?_)
    · refine lv_aload_n hx hb dX12_isWindward_91 rfl (lv_at hl 2 rfl) ?_
      refine fg_12_6 (k := 387) hx hb hts in_X12_isWindward_12 hown hK hP (by decide) (by decide) (hts _ lk_X12_isWindward_33) dX12_isWindward_92 ?_
      refine r_iconst hx hb dX12_isWindward_95 (by decide) (fun z18 ez18 => ?_)
      refine ad_ms (k := 389) (j := 5) hx hb hK hP (by decide) (by decide) (by omega) (by omega) dX12_isWindward_96 ?_
      refine r_iconst hx hb dX12_isWindward_97 (by decide) (fun z19 ez19 => ?_)
      refine r_icmp_ne (tgt := 120) hx hb dX12_isWindward_98 (by decide) (fun c20 => ?_) (fun c20 => ?_)
      · refine lv_aload_n hx hb dX12_isWindward_120 rfl (lv_at hl 2 rfl) ?_
        refine fg_12_22 (k := 387) hx hb hts in_X12_isWindward_12 hown hK hP (by decide) (by decide) (hts _ lk_X12_isWindward_50) dX12_isWindward_121 ?_
        refine lv_iload_n hx hb dX12_isWindward_124 rfl (lv_at hl 3 rfl) ?_
        obtain ⟨j21, ej21⟩ : ∃ j : Nat, a1.toInt = (j : Int) := ⟨_, ti_nat (by omega)⟩
        refine ad_mp8 (k := 394) (j := j21) hx hb hK hP (by decide) (by decide) ej21 (by omega) dX12_isWindward_125 ?_
        refine lv_iload hx hb dX12_isWindward_126 (lv_at hl 1 rfl) ?_
        refine r_icmp_ge (tgt := 135) hx hb dX12_isWindward_128 (by decide) (fun c22 => ?_) (fun c22 => ?_)
        · refine r_iconst hx hb dX12_isWindward_135 (by decide) (fun z23 ez23 => ?_)
          exact r_zret hx hb hr hK hP hS hk (by omega) dX12_isWindward_136 (show P_X12_isWindward σ0 τ0 a1 a2 a3 z23 σ0 τ0 from ⟨hR, hF, hFL, by omega⟩)
        · refine r_iconst hx hb dX12_isWindward_131 (by decide) (fun z24 ez24 => ?_)
          refine lv_goto (tgt := 136) hx hb dX12_isWindward_132 (by decide) ?_
          exact r_zret hx hb hr hK hP hS hk (by omega) dX12_isWindward_136 (show P_X12_isWindward σ0 τ0 a1 a2 a3 z24 σ0 τ0 from ⟨hR, hF, hFL, by omega⟩)
      · refine lv_aload_n hx hb dX12_isWindward_101 rfl (lv_at hl 2 rfl) ?_
        refine fg_12_23 (k := 387) hx hb hts in_X12_isWindward_12 hown hK hP (by decide) (by decide) (hts _ lk_X12_isWindward_53) dX12_isWindward_102 ?_
        refine lv_iload_n hx hb dX12_isWindward_105 rfl (lv_at hl 3 rfl) ?_
        obtain ⟨j25, ej25⟩ : ∃ j : Nat, a1.toInt = (j : Int) := ⟨_, ti_nat (by omega)⟩
        refine ad_mp8 (k := 395) (j := j25) hx hb hK hP (by decide) (by decide) ej25 (by omega) dX12_isWindward_106 ?_
        refine lv_iload hx hb dX12_isWindward_107 (lv_at hl 0 rfl) ?_
        refine r_icmp_le (tgt := 116) hx hb dX12_isWindward_109 (by decide) (fun c26 => ?_) (fun c26 => ?_)
        · refine r_iconst hx hb dX12_isWindward_116 (by decide) (fun z27 ez27 => ?_)
          refine lv_goto (tgt := 136) hx hb dX12_isWindward_117 (by decide) ?_
          exact r_zret hx hb hr hK hP hS hk (by omega) dX12_isWindward_136 (show P_X12_isWindward σ0 τ0 a1 a2 a3 z27 σ0 τ0 from ⟨hR, hF, hFL, by omega⟩)
        · refine r_iconst hx hb dX12_isWindward_112 (by decide) (fun z28 ez28 => ?_)
          refine lv_goto (tgt := 136) hx hb dX12_isWindward_113 (by decide) ?_
          exact r_zret hx hb hr hK hP hS hk (by omega) dX12_isWindward_136 (show P_X12_isWindward σ0 τ0 a1 a2 a3 z28 σ0 τ0 from ⟨hR, hF, hFL, by omega⟩)
    · refine lv_aload_n hx hb dX12_isWindward_72 rfl (lv_at hl 2 rfl) ?_
      refine fg_12_22 (k := 387) hx hb hts in_X12_isWindward_12 hown hK hP (by decide) (by decide) (hts _ lk_X12_isWindward_50) dX12_isWindward_73 ?_
      refine lv_iload_n hx hb dX12_isWindward_76 rfl (lv_at hl 3 rfl) ?_
      obtain ⟨j29, ej29⟩ : ∃ j : Nat, a1.toInt = (j : Int) := ⟨_, ti_nat (by omega)⟩
      refine ad_mp8 (k := 394) (j := j29) hx hb hK hP (by decide) (by decide) ej29 (by omega) dX12_isWindward_77 ?_
      refine lv_iload hx hb dX12_isWindward_78 (lv_at hl 1 rfl) ?_
      refine r_icmp_le (tgt := 87) hx hb dX12_isWindward_80 (by decide) (fun c30 => ?_) (fun c30 => ?_)
      · refine r_iconst hx hb dX12_isWindward_87 (by decide) (fun z31 ez31 => ?_)
        refine lv_goto (tgt := 136) hx hb dX12_isWindward_88 (by decide) ?_
        exact r_zret hx hb hr hK hP hS hk (by omega) dX12_isWindward_136 (show P_X12_isWindward σ0 τ0 a1 a2 a3 z31 σ0 τ0 from ⟨hR, hF, hFL, by omega⟩)
      · refine r_iconst hx hb dX12_isWindward_83 (by decide) (fun z32 ez32 => ?_)
        refine lv_goto (tgt := 136) hx hb dX12_isWindward_84 (by decide) ?_
        exact r_zret hx hb hr hK hP hS hk (by omega) dX12_isWindward_136 (show P_X12_isWindward σ0 τ0 a1 a2 a3 z32 σ0 τ0 from ⟨hR, hF, hFL, by omega⟩)
  · refine lv_aload_n hx hb dX12_isWindward_43 rfl (lv_at hl 2 rfl) ?_
    refine fg_12_23 (k := 387) hx hb hts in_X12_isWindward_12 hown hK hP (by decide) (by decide) (hts _ lk_X12_isWindward_53) dX12_isWindward_44 ?_
    refine lv_iload_n hx hb dX12_isWindward_47 rfl (lv_at hl 3 rfl) ?_
    obtain ⟨j33, ej33⟩ : ∃ j : Nat, a1.toInt = (j : Int) := ⟨_, ti_nat (by omega)⟩
    refine ad_mp8 (k := 395) (j := j33) hx hb hK hP (by decide) (by decide) ej33 (by omega) dX12_isWindward_48 ?_
    refine lv_iload hx hb dX12_isWindward_49 (lv_at hl 0 rfl) ?_
    refine r_icmp_ge (tgt := 58) hx hb dX12_isWindward_51 (by decide) (fun c34 => ?_) (fun c34 => ?_)
    · refine r_iconst hx hb dX12_isWindward_58 (by decide) (fun z35 ez35 => ?_)
      refine lv_goto (tgt := 136) hx hb dX12_isWindward_59 (by decide) ?_
      exact r_zret hx hb hr hK hP hS hk (by omega) dX12_isWindward_136 (show P_X12_isWindward σ0 τ0 a1 a2 a3 z35 σ0 τ0 from ⟨hR, hF, hFL, by omega⟩)
    · refine r_iconst hx hb dX12_isWindward_54 (by decide) (fun z36 ez36 => ?_)
      refine lv_goto (tgt := 136) hx hb dX12_isWindward_55 (by decide) ?_
      exact r_zret hx hb hr hK hP hS hk (by omega) dX12_isWindward_136 (show P_X12_isWindward σ0 τ0 a1 a2 a3 z36 σ0 τ0 from ⟨hR, hF, hFL, by omega⟩)
theorem in_X12_canHear_12 : ∀ w ∈ u_ws RX12 TX12 47, w ∈ wsX12_canHear := by decide +kernel
theorem lk_X12_canHear_33 : Cond.fieldLink RX12 33 "CuckooSharesModel" "s" "[I" ∈ wsX12_canHear := by decide +kernel
theorem lk_X12_canHear_50 : Cond.fieldLink RX12 50 "CuckooSharesModel" "px" "[I" ∈ wsX12_canHear := by decide +kernel
theorem lk_X12_canHear_56 : Cond.fieldLink RX12 56 "CuckooSharesModel" "pf" "[I" ∈ wsX12_canHear := by decide +kernel
abbrev L_X12_canHear : List Rc := []
abbrev LL_X12_canHear : List Rc := []
def P_X12_canHear (σ0 : Nat → Nat → Int32) (τ0 : Nat → Nat → Int64) (a1 : Int32) (a2 : Int32) (a3 : Int32) (r : Int32) (σ : Nat → Nat → Int32) (τ : Nat → Nat → Int64) : Prop := Rg σ ∧ Fr L_X12_canHear σ0 σ ∧ FrL LL_X12_canHear τ0 τ ∧ (0 ≤ r.toInt ∧ r.toInt ≤ 1)
def J_X12_canHear_27 (p : Program) (l : Launch) (e : Env) (s : State) (m : MethodId) (args : Array Value) (below : List Frame) (meth : Method) (c : Code) (D : va_G) (cA : Nat → ClassId) (ad : Nat → Nat) (σ0 : Nat → Nat → Int32) (τ0 : Nat → Nat → Int64) (a1 : Int32) (a2 : Int32) (a3 : Int32) (n : Nat) : Prop := ∀ (σ : Nat → Nat → Int32) (τ : Nat → Nat → Int64) (H : Heap) (locs : List Loc) (w0 : Int32) (ls : Array Slot), Rg σ → Fr L_X12_canHear σ0 σ → FrL LL_X12_canHear τ0 τ → va_P D vwCl (gw cA ad σ τ) H → va_S (AA ad) s.heap H locs → (0 ≤ w0.toInt ∧ w0.toInt ≤ 7) → lv_has ls 6 [(0, .ref (ad 387)), (1, .int a1), (2, .int a2), (3, .int a3)] → 3 < (n : Int) → W p l e ({ frames := 2, cells := 0, slots := 0, locals := 44 } : Room) s m args below meth c H locs 0 0 (MQ below (va_Qi (fun (r : Int32) (u : SS) => P_X12_canHear σ0 τ0 a1 a2 a3 r u.1 u.2) (WB D cA ad) (AA ad)) args s 0 0 (AA ad)) (F0 m 27 ls [.int w0])
def J_X12_canHear_50 (p : Program) (l : Launch) (e : Env) (s : State) (m : MethodId) (args : Array Value) (below : List Frame) (meth : Method) (c : Code) (D : va_G) (cA : Nat → ClassId) (ad : Nat → Nat) (σ0 : Nat → Nat → Int32) (τ0 : Nat → Nat → Int64) (a1 : Int32) (a2 : Int32) (a3 : Int32) (n : Nat) : Prop := ∀ (σ : Nat → Nat → Int32) (τ : Nat → Nat → Int64) (H : Heap) (locs : List Loc) (x4 : Int32) (ls : Array Slot), Rg σ → Fr L_X12_canHear σ0 σ → FrL LL_X12_canHear τ0 τ → va_P D vwCl (gw cA ad σ τ) H → va_S (AA ad) s.heap H locs → (0 ≤ x4.toInt ∧ x4.toInt ≤ 7) → lv_has ls 6 [(0, .ref (ad 387)), (1, .int a1), (2, .int a2), (3, .int a3), (4, .int x4)] → 2 < (n : Int) → W p l e ({ frames := 2, cells := 0, slots := 0, locals := 44 } : Room) s m args below meth c H locs 0 0 (MQ below (va_Qi (fun (r : Int32) (u : SS) => P_X12_canHear σ0 τ0 a1 a2 a3 r u.1 u.2) (WB D cA ad) (AA ad)) args s 0 0 (AA ad)) (F0 m 50 ls [])
def J_X12_canHear_100 (p : Program) (l : Launch) (e : Env) (s : State) (m : MethodId) (args : Array Value) (below : List Frame) (meth : Method) (c : Code) (D : va_G) (cA : Nat → ClassId) (ad : Nat → Nat) (σ0 : Nat → Nat → Int32) (τ0 : Nat → Nat → Int64) (a1 : Int32) (a2 : Int32) (a3 : Int32) (n : Nat) : Prop := ∀ (σ : Nat → Nat → Int32) (τ : Nat → Nat → Int64) (H : Heap) (locs : List Loc) (x4 : Int32) (w0 : Int32) (w1 : Int32) (ls : Array Slot), Rg σ → Fr L_X12_canHear σ0 σ → FrL LL_X12_canHear τ0 τ → va_P D vwCl (gw cA ad σ τ) H → va_S (AA ad) s.heap H locs → (0 ≤ x4.toInt ∧ x4.toInt ≤ 7) → lv_has ls 6 [(0, .ref (ad 387)), (1, .int a1), (2, .int a2), (3, .int a3), (4, .int x4)] → 1 < (n : Int) → W p l e ({ frames := 2, cells := 0, slots := 0, locals := 44 } : Room) s m args below meth c H locs 0 0 (MQ below (va_Qi (fun (r : Int32) (u : SS) => P_X12_canHear σ0 τ0 a1 a2 a3 r u.1 u.2) (WB D cA ad) (AA ad)) args s 0 0 (AA ad)) (F0 m 100 ls [.int w1, .int w0])
set_option maxHeartbeats 4000000 in
theorem B_X12_canHear_27 (p : Program) (l : Launch) (e : Env) (s : State) (m : MethodId) (args : Array Value) (below : List Frame) (meth : Method) (c : Code) (D : va_G) (cA : Nat → ClassId) (ad : Nat → Nat) (σ0 : Nat → Nat → Int32) (τ0 : Nat → Nat → Int64) (a1 : Int32) (a2 : Int32) (a3 : Int32) (n : Nat) (C : Cy p s m args meth c cX12_canHear 6 wsX12_canHear RX12 D cA ad (some .boolean)) (ha1 : 0 ≤ a1.toInt ∧ a1.toInt ≤ 7) (ha2 : -1 ≤ a2.toInt ∧ a2.toInt ≤ 3) (ha3 : -1 ≤ a3.toInt ∧ a3.toInt ≤ 9) (K27 : J_X12_canHear_27 p l e s m args below meth c D cA ad σ0 τ0 a1 a2 a3 n) (K50 : J_X12_canHear_50 p l e s m args below meth c D cA ad σ0 τ0 a1 a2 a3 n) (K100 : J_X12_canHear_100 p l e s m args below meth c D cA ad σ0 τ0 a1 a2 a3 n) : J_X12_canHear_27 p l e s m args below meth c D cA ad σ0 τ0 a1 a2 a3 (n + 1) := by
  obtain ⟨hx, hb, hml, hown, hts, hK, hk, hr, hI, hN⟩ := C
  intro σ τ H locs w0 ls hR hF hFL hP hS hc0 hl hm
  obtain rfl := Fr.nil hF
  obtain rfl := FrL.nil hFL
  refine lv_istore (lv' := [(4, .int w0), (0, .ref (ad 387)), (1, .int a1), (2, .int a2), (3, .int a3)]) hx hb dX12_canHear_27 hl (by decide) rfl (fun ls hl => ?_)
  refine lv_iload hx hb dX12_canHear_29 (lv_at hl 0 rfl) ?_
  refine lv_iload_n hx hb dX12_canHear_31 rfl (lv_at hl 2 rfl) ?_
  refine r_icmp_eq (tgt := 50) hx hb dX12_canHear_32 (by decide) (fun c1 => ?_) (fun c1 => ?_)
  · exact K50 σ0 τ0 H locs w0 ls hR hF hFL hP hS (by omega) (lv_sub hl [1, 2, 3, 4, 0] rfl) (by omega)
  · refine lv_aload_n hx hb dX12_canHear_35 rfl (lv_at hl 1 rfl) ?_
    refine fg_12_6 (k := 387) hx hb hts in_X12_canHear_12 hown hK hP (by decide) (by decide) (hts _ lk_X12_canHear_33) dX12_canHear_36 ?_
    refine r_bipush hx hb dX12_canHear_39 (by decide) (fun z2 ez2 => ?_)
    refine lv_iload hx hb dX12_canHear_41 (lv_at hl 0 rfl) ?_
    refine r_iadd hx hb dX12_canHear_43 (by omega) (fun z3 ez3 => ?_)
    obtain ⟨j4, ej4⟩ : ∃ j : Nat, z3.toInt = (j : Int) := ⟨_, ti_nat (by omega)⟩
    refine ad_ms (k := 389) (j := j4) hx hb hK hP (by decide) (by decide) ej4 (by omega) dX12_canHear_44 ?_
    have hr5 := ra_ms_3 hR (k := 389) (j := j4) (by decide) (by decide) (by omega) (by omega)
    refine r_if_le (tgt := 50) hx hb dX12_canHear_45 (by decide) (fun c6 => ?_) (fun c6 => ?_)
    · exact K50 σ0 τ0 H locs w0 ls hR hF hFL hP hS (by omega) (lv_sub hl [1, 2, 3, 4, 0] rfl) (by omega)
    · refine r_iconst hx hb dX12_canHear_48 (by decide) (fun z7 ez7 => ?_)
      exact r_zret hx hb hr hK hP hS hk (by omega) dX12_canHear_49 (show P_X12_canHear σ0 τ0 a1 a2 a3 z7 σ0 τ0 from ⟨hR, hF, hFL, by omega⟩)
set_option maxHeartbeats 4000000 in
theorem B_X12_canHear_50 (p : Program) (l : Launch) (e : Env) (s : State) (m : MethodId) (args : Array Value) (below : List Frame) (meth : Method) (c : Code) (D : va_G) (cA : Nat → ClassId) (ad : Nat → Nat) (σ0 : Nat → Nat → Int32) (τ0 : Nat → Nat → Int64) (a1 : Int32) (a2 : Int32) (a3 : Int32) (n : Nat) (C : Cy p s m args meth c cX12_canHear 6 wsX12_canHear RX12 D cA ad (some .boolean)) (ha1 : 0 ≤ a1.toInt ∧ a1.toInt ≤ 7) (ha2 : -1 ≤ a2.toInt ∧ a2.toInt ≤ 3) (ha3 : -1 ≤ a3.toInt ∧ a3.toInt ≤ 9) (K27 : J_X12_canHear_27 p l e s m args below meth c D cA ad σ0 τ0 a1 a2 a3 n) (K50 : J_X12_canHear_50 p l e s m args below meth c D cA ad σ0 τ0 a1 a2 a3 n) (K100 : J_X12_canHear_100 p l e s m args below meth c D cA ad σ0 τ0 a1 a2 a3 n) : J_X12_canHear_50 p l e s m args below meth c D cA ad σ0 τ0 a1 a2 a3 (n + 1) := by
  obtain ⟨hx, hb, hml, hown, hts, hK, hk, hr, hI, hN⟩ := C
  intro σ τ H locs x4 ls hR hF hFL hP hS hc0 hl hm
  obtain rfl := Fr.nil hF
  obtain rfl := FrL.nil hFL
  refine lv_aload_n hx hb dX12_canHear_50 rfl (lv_at hl 0 rfl) ?_
  refine fg_12_6 (k := 387) hx hb hts in_X12_canHear_12 hown hK hP (by decide) (by decide) (hts _ lk_X12_canHear_33) dX12_canHear_51 ?_
  refine r_bipush hx hb dX12_canHear_54 (by decide) (fun z1 ez1 => ?_)
  refine lv_iload hx hb dX12_canHear_56 (lv_at hl 4 rfl) ?_
  refine r_iadd hx hb dX12_canHear_58 (by omega) (fun z2 ez2 => ?_)
  obtain ⟨j3, ej3⟩ : ∃ j : Nat, z2.toInt = (j : Int) := ⟨_, ti_nat (by omega)⟩
  refine ad_ms (k := 389) (j := j3) hx hb hK hP (by decide) (by decide) ej3 (by omega) dX12_canHear_59 ?_
  refine lv_aload_n hx hb dX12_canHear_60 rfl (lv_at hl 0 rfl) ?_
  refine fg_12_6 (k := 387) hx hb hts in_X12_canHear_12 hown hK hP (by decide) (by decide) (hts _ lk_X12_canHear_33) dX12_canHear_61 ?_
  refine r_bipush hx hb dX12_canHear_64 (by decide) (fun z4 ez4 => ?_)
  refine lv_iload_n hx hb dX12_canHear_66 rfl (lv_at hl 2 rfl) ?_
  refine r_iadd hx hb dX12_canHear_67 (by omega) (fun z5 ez5 => ?_)
  obtain ⟨j6, ej6⟩ : ∃ j : Nat, z5.toInt = (j : Int) := ⟨_, ti_nat (by omega)⟩
  refine ad_ms (k := 389) (j := j6) hx hb hK hP (by decide) (by decide) ej6 (by omega) dX12_canHear_68 ?_
  refine r_iaddU hx hb dX12_canHear_69 (fun z7 => ?_)
  refine lv_aload_n hx hb dX12_canHear_70 rfl (lv_at hl 0 rfl) ?_
  refine fg_12_24 (k := 387) hx hb hts in_X12_canHear_12 hown hK hP (by decide) (by decide) (hts _ lk_X12_canHear_56) dX12_canHear_71 ?_
  refine lv_iload hx hb dX12_canHear_74 (lv_at hl 4 rfl) ?_
  obtain ⟨j8, ej8⟩ : ∃ j : Nat, x4.toInt = (j : Int) := ⟨_, ti_nat (by omega)⟩
  refine ad_mp8 (k := 396) (j := j8) hx hb hK hP (by decide) (by decide) ej8 (by omega) dX12_canHear_76 ?_
  refine r_isubU hx hb dX12_canHear_77 (fun z9 => ?_)
  refine lv_aload_n hx hb dX12_canHear_78 rfl (lv_at hl 0 rfl) ?_
  refine lv_iload hx hb dX12_canHear_79 (lv_at hl 4 rfl) ?_
  refine lv_iload_n hx hb dX12_canHear_81 rfl (lv_at hl 2 rfl) ?_
  refine lv_iload_n hx hb dX12_canHear_82 rfl (lv_at hl 3 rfl) ?_
  refine r_cVi (k := 387) (As := [.int x4, .int a2, .int a3]) (rest := [.int z9]) ⟨hx, hb, hml, hown, hts⟩ hK hP hN hS (c_X12_isWindward l D cA ad hI σ0 τ0 hR x4 a2 a3 (by omega) (by omega) (by omega)) (cwV 3 hts gX12_canHear_X12_isWindward rfl rfl rfl (by decide +kernel) ⟨by decide, by decide⟩) (rv_M hK hP (by decide) (by decide)) rfl hl.1 rfl (Nat.le_of_ble_eq_true rfl) dX12_canHear_83 (Nat.zero_le _) (Nat.zero_le _) (fun r10 u10 H10 locs10 hp10 hP hS => ?_)
  obtain ⟨σ10, τ10⟩ := u10
  obtain ⟨hR, f10, fL10, hq10⟩ : P_X12_isWindward σ0 τ0 x4 a2 a3 r10 σ10 τ10 := hp10
  have hP : va_P D vwCl (gw cA ad σ10 τ10) H10 := hP
  obtain rfl := FrL.nil fL10
  obtain rfl := Fr.nil f10
  refine r_if_eq (tgt := 99) hx hb dX12_canHear_86 (by decide) (fun c11 => ?_) (fun c11 => ?_)
  · refine r_iconst hx hb dX12_canHear_99 (by decide) (fun z12 ez12 => ?_)
    exact K100 σ0 τ0 H10 locs10 x4 z9 z12 ls hR hF hFL hP hS (by omega) (lv_sub hl [0, 1, 2, 3, 4] rfl) (by omega)
  · refine lv_aload_n hx hb dX12_canHear_89 rfl (lv_at hl 0 rfl) ?_
    refine fg_12_6 (k := 387) hx hb hts in_X12_canHear_12 hown hK hP (by decide) (by decide) (hts _ lk_X12_canHear_33) dX12_canHear_90 ?_
    refine r_bipush hx hb dX12_canHear_93 (by decide) (fun z13 ez13 => ?_)
    refine ad_ms (k := 389) (j := 6) hx hb hK hP (by decide) (by decide) (by omega) (by omega) dX12_canHear_95 ?_
    refine lv_goto (tgt := 100) hx hb dX12_canHear_96 (by decide) ?_
    exact K100 σ0 τ0 H10 locs10 x4 z9 (σ0 389 6) ls hR hF hFL hP hS (by omega) (lv_sub hl [0, 1, 2, 3, 4] rfl) (by omega)
set_option maxHeartbeats 4000000 in
theorem B_X12_canHear_100 (p : Program) (l : Launch) (e : Env) (s : State) (m : MethodId) (args : Array Value) (below : List Frame) (meth : Method) (c : Code) (D : va_G) (cA : Nat → ClassId) (ad : Nat → Nat) (σ0 : Nat → Nat → Int32) (τ0 : Nat → Nat → Int64) (a1 : Int32) (a2 : Int32) (a3 : Int32) (n : Nat) (C : Cy p s m args meth c cX12_canHear 6 wsX12_canHear RX12 D cA ad (some .boolean)) (ha1 : 0 ≤ a1.toInt ∧ a1.toInt ≤ 7) (ha2 : -1 ≤ a2.toInt ∧ a2.toInt ≤ 3) (ha3 : -1 ≤ a3.toInt ∧ a3.toInt ≤ 9) (K27 : J_X12_canHear_27 p l e s m args below meth c D cA ad σ0 τ0 a1 a2 a3 n) (K50 : J_X12_canHear_50 p l e s m args below meth c D cA ad σ0 τ0 a1 a2 a3 n) (K100 : J_X12_canHear_100 p l e s m args below meth c D cA ad σ0 τ0 a1 a2 a3 n) : J_X12_canHear_100 p l e s m args below meth c D cA ad σ0 τ0 a1 a2 a3 (n + 1) := by
  obtain ⟨hx, hb, hml, hown, hts, hK, hk, hr, hI, hN⟩ := C
  intro σ τ H locs x4 w0 w1 ls hR hF hFL hP hS hc0 hl hm
  obtain rfl := Fr.nil hF
  obtain rfl := FrL.nil hFL
  refine r_iaddU hx hb dX12_canHear_100 (fun z1 => ?_)
  refine lv_istore (lv' := [(5, .int z1), (0, .ref (ad 387)), (1, .int a1), (2, .int a2), (3, .int a3), (4, .int x4)]) hx hb dX12_canHear_101 hl (by decide) rfl (fun ls hl => ?_)
  refine lv_aload_n hx hb dX12_canHear_103 rfl (lv_at hl 1 rfl) ?_
  refine lv_aload_n hx hb dX12_canHear_104 rfl (lv_at hl 1 rfl) ?_
  refine fg_12_22 (k := 387) hx hb hts in_X12_canHear_12 hown hK hP (by decide) (by decide) (hts _ lk_X12_canHear_50) dX12_canHear_105 ?_
  refine lv_iload hx hb dX12_canHear_108 (lv_at hl 5 rfl) ?_
  obtain ⟨j2, ej2⟩ : ∃ j : Nat, x4.toInt = (j : Int) := ⟨_, ti_nat (by omega)⟩
  refine ad_mp8 (k := 394) (j := j2) hx hb hK hP (by decide) (by decide) ej2 (by omega) dX12_canHear_110 ?_
  refine r_cVi (k := 387) (As := [.int (σ0 394 j2)]) (rest := []) ⟨hx, hb, hml, hown, hts⟩ hK hP hN hS (c_X12_valleyOf l D cA ad hI σ0 τ0 hR (σ0 394 j2)) (cwV 1 hts gX12_canHear_X12_valleyOf rfl rfl rfl (by decide +kernel) ⟨by decide, by decide⟩) (rv_M hK hP (by decide) (by decide)) rfl hl.1 rfl (Nat.le_of_ble_eq_true rfl) dX12_canHear_111 (Nat.zero_le _) (Nat.zero_le _) (fun r3 u3 H3 locs3 hp3 hP hS => ?_)
  obtain ⟨σ3, τ3⟩ := u3
  obtain ⟨hR, f3, fL3, hq3⟩ : P_X12_valleyOf σ0 τ0 (σ0 394 j2) r3 σ3 τ3 := hp3
  have hP : va_P D vwCl (gw cA ad σ3 τ3) H3 := hP
  obtain rfl := FrL.nil fL3
  obtain rfl := Fr.nil f3
  refine lv_aload_n hx hb dX12_canHear_114 rfl (lv_at hl 1 rfl) ?_
  refine lv_aload_n hx hb dX12_canHear_115 rfl (lv_at hl 1 rfl) ?_
  refine fg_12_6 (k := 387) hx hb hts in_X12_canHear_12 hown hK hP (by decide) (by decide) (hts _ lk_X12_canHear_33) dX12_canHear_116 ?_
  refine r_sipush hx hb dX12_canHear_119 (by decide) (fun z4 ez4 => ?_)
  refine r_bipush hx hb dX12_canHear_122 (by decide) (fun z5 ez5 => ?_)
  refine lv_iload_n hx hb dX12_canHear_124 rfl (lv_at hl 3 rfl) ?_
  refine r_imulL (n := 10) hx hb dX12_canHear_125 (by omega) (by omega) (fun z6 ez6 => ?_)
  refine r_iadd hx hb dX12_canHear_126 (by omega) (fun z7 ez7 => ?_)
  refine lv_iload_n hx hb dX12_canHear_127 rfl (lv_at hl 4 rfl) ?_
  refine r_iadd hx hb dX12_canHear_128 (by omega) (fun z8 ez8 => ?_)
  obtain ⟨j9, ej9⟩ : ∃ j : Nat, z8.toInt = (j : Int) := ⟨_, ti_nat (by omega)⟩
  refine ad_ms (k := 389) (j := j9) hx hb hK hP (by decide) (by decide) ej9 (by omega) dX12_canHear_129 ?_
  refine r_cVi (k := 387) (As := [.int (σ0 389 j9)]) (rest := [.int r3]) ⟨hx, hb, hml, hown, hts⟩ hK hP hN hS (c_X12_valleyOf l D cA ad hI σ0 τ0 hR (σ0 389 j9)) (cwV 1 hts gX12_canHear_X12_valleyOf rfl rfl rfl (by decide +kernel) ⟨by decide, by decide⟩) (rv_M hK hP (by decide) (by decide)) rfl hl.1 rfl (Nat.le_of_ble_eq_true rfl) dX12_canHear_130 (Nat.zero_le _) (Nat.zero_le _) (fun r10 u10 H10 locs10 hp10 hP hS => ?_)
  obtain ⟨σ10, τ10⟩ := u10
  obtain ⟨hR, f10, fL10, hq10⟩ : P_X12_valleyOf σ0 τ0 (σ0 389 j9) r10 σ10 τ10 := hp10
  have hP : va_P D vwCl (gw cA ad σ10 τ10) H10 := hP
  obtain rfl := FrL.nil fL10
  obtain rfl := Fr.nil f10
  refine r_icmp_eq (tgt := 139) hx hb dX12_canHear_133 (by decide) (fun c11 => ?_) (fun c11 => ?_)
  · refine lv_aload_n hx hb dX12_canHear_139 rfl (lv_at hl 1 rfl) ?_
    refine lv_iload hx hb dX12_canHear_140 (lv_at hl 5 rfl) ?_
    refine lv_iload_n hx hb dX12_canHear_142 rfl (lv_at hl 3 rfl) ?_
    refine lv_iload_n hx hb dX12_canHear_143 rfl (lv_at hl 4 rfl) ?_
    refine r_cVi (k := 387) (As := [.int x4, .int a2, .int a3]) (rest := []) ⟨hx, hb, hml, hown, hts⟩ hK hP hN hS (c_X12_farOf l D cA ad hI σ0 τ0 hR x4 a2 a3 (by omega) (by omega) (by omega)) (cwV 3 hts gX12_canHear_X12_farOf rfl rfl rfl (by decide +kernel) ⟨by decide, by decide⟩) (rv_M hK hP (by decide) (by decide)) rfl hl.1 rfl (Nat.le_of_ble_eq_true rfl) dX12_canHear_144 (Nat.zero_le _) (Nat.zero_le _) (fun r12 u12 H12 locs12 hp12 hP hS => ?_)
    obtain ⟨σ12, τ12⟩ := u12
    obtain ⟨hR, f12, fL12⟩ : P_X12_farOf σ0 τ0 x4 a2 a3 r12 σ12 τ12 := hp12
    have hP : va_P D vwCl (gw cA ad σ12 τ12) H12 := hP
    obtain rfl := FrL.nil fL12
    obtain rfl := Fr.nil f12
    refine lv_iload hx hb dX12_canHear_147 (lv_at hl 0 rfl) ?_
    refine r_icmp_gt (tgt := 156) hx hb dX12_canHear_149 (by decide) (fun c13 => ?_) (fun c13 => ?_)
    · refine r_iconst hx hb dX12_canHear_156 (by decide) (fun z14 ez14 => ?_)
      exact r_zret hx hb hr hK hP hS hk (by omega) dX12_canHear_157 (show P_X12_canHear σ0 τ0 a1 a2 a3 z14 σ0 τ0 from ⟨hR, hF, hFL, by omega⟩)
    · refine r_iconst hx hb dX12_canHear_152 (by decide) (fun z15 ez15 => ?_)
      refine lv_goto (tgt := 157) hx hb dX12_canHear_153 (by decide) ?_
      exact r_zret hx hb hr hK hP hS hk (by omega) dX12_canHear_157 (show P_X12_canHear σ0 τ0 a1 a2 a3 z15 σ0 τ0 from ⟨hR, hF, hFL, by omega⟩)
  · refine r_iincU (k := 0) (lv1 := fun z16 => [(5, .int z16), (0, .ref (ad 387)), (1, .int a1), (2, .int a2), (3, .int a3), (4, .int x4)]) hx hb dX12_canHear_136 hl rfl (by decide) (fun _ => rfl) (fun z16 ls hl => ?_)
    refine lv_aload_n hx hb dX12_canHear_139 rfl (lv_at hl 1 rfl) ?_
    refine lv_iload hx hb dX12_canHear_140 (lv_at hl 5 rfl) ?_
    refine lv_iload_n hx hb dX12_canHear_142 rfl (lv_at hl 3 rfl) ?_
    refine lv_iload_n hx hb dX12_canHear_143 rfl (lv_at hl 4 rfl) ?_
    refine r_cVi (k := 387) (As := [.int x4, .int a2, .int a3]) (rest := []) ⟨hx, hb, hml, hown, hts⟩ hK hP hN hS (c_X12_farOf l D cA ad hI σ0 τ0 hR x4 a2 a3 (by omega) (by omega) (by omega)) (cwV 3 hts gX12_canHear_X12_farOf rfl rfl rfl (by decide +kernel) ⟨by decide, by decide⟩) (rv_M hK hP (by decide) (by decide)) rfl hl.1 rfl (Nat.le_of_ble_eq_true rfl) dX12_canHear_144 (Nat.zero_le _) (Nat.zero_le _) (fun r17 u17 H17 locs17 hp17 hP hS => ?_)
    obtain ⟨σ17, τ17⟩ := u17
    obtain ⟨hR, f17, fL17⟩ : P_X12_farOf σ0 τ0 x4 a2 a3 r17 σ17 τ17 := hp17
    have hP : va_P D vwCl (gw cA ad σ17 τ17) H17 := hP
    obtain rfl := FrL.nil fL17
    obtain rfl := Fr.nil f17
    refine lv_iload hx hb dX12_canHear_147 (lv_at hl 0 rfl) ?_
    refine r_icmp_gt (tgt := 156) hx hb dX12_canHear_149 (by decide) (fun c18 => ?_) (fun c18 => ?_)
    · refine r_iconst hx hb dX12_canHear_156 (by decide) (fun z19 ez19 => ?_)
      exact r_zret hx hb hr hK hP hS hk (by omega) dX12_canHear_157 (show P_X12_canHear σ0 τ0 a1 a2 a3 z19 σ0 τ0 from ⟨hR, hF, hFL, by omega⟩)
    · refine r_iconst hx hb dX12_canHear_152 (by decide) (fun z20 ez20 => ?_)
      refine lv_goto (tgt := 157) hx hb dX12_canHear_153 (by decide) ?_
      exact r_zret hx hb hr hK hP hS hk (by omega) dX12_canHear_157 (show P_X12_canHear σ0 τ0 a1 a2 a3 z20 σ0 τ0 from ⟨hR, hF, hFL, by omega⟩)
theorem A_X12_canHear (p : Program) (l : Launch) (e : Env) (s : State) (m : MethodId) (args : Array Value) (below : List Frame) (meth : Method) (c : Code) (D : va_G) (cA : Nat → ClassId) (ad : Nat → Nat) (σ0 : Nat → Nat → Int32) (τ0 : Nat → Nat → Int64) (a1 : Int32) (a2 : Int32) (a3 : Int32) (C : Cy p s m args meth c cX12_canHear 6 wsX12_canHear RX12 D cA ad (some .boolean)) (ha1 : 0 ≤ a1.toInt ∧ a1.toInt ≤ 7) (ha2 : -1 ≤ a2.toInt ∧ a2.toInt ≤ 3) (ha3 : -1 ≤ a3.toInt ∧ a3.toInt ≤ 9) : ∀ n : Nat, J_X12_canHear_27 p l e s m args below meth c D cA ad σ0 τ0 a1 a2 a3 n ∧ J_X12_canHear_50 p l e s m args below meth c D cA ad σ0 τ0 a1 a2 a3 n ∧ J_X12_canHear_100 p l e s m args below meth c D cA ad σ0 τ0 a1 a2 a3 n := by
  intro n
  induction n with
  | zero =>
    exact ⟨(by intro σ τ H locs w0 ls hR hF hFL hP hS hc0 hl hm; exfalso; omega), (by intro σ τ H locs x4 ls hR hF hFL hP hS hc0 hl hm; exfalso; omega), (by intro σ τ H locs x4 w0 w1 ls hR hF hFL hP hS hc0 hl hm; exfalso; omega)⟩
  | succ n ih =>
    exact ⟨B_X12_canHear_27 p l e s m args below meth c D cA ad σ0 τ0 a1 a2 a3 n C ha1 ha2 ha3 ih.1 ih.2.1 ih.2.2, B_X12_canHear_50 p l e s m args below meth c D cA ad σ0 τ0 a1 a2 a3 n C ha1 ha2 ha3 ih.1 ih.2.1 ih.2.2, B_X12_canHear_100 p l e s m args below meth c D cA ad σ0 τ0 a1 a2 a3 n C ha1 ha2 ha3 ih.1 ih.2.1 ih.2.2⟩
set_option maxHeartbeats 4000000 in
theorem c_X12_canHear (l : Launch) (D : va_G) (cA : Nat → ClassId) (ad : Nat → Nat) (hI : Inj ad) (σ0 : Nat → Nat → Int32) (τ0 : Nat → Nat → Int64) (hR : Rg σ0) (a1 : Int32) (a2 : Int32) (a3 : Int32) (ha1 : 0 ≤ a1.toInt ∧ a1.toInt ≤ 7) (ha2 : -1 ≤ a2.toInt ∧ a2.toInt ≤ 3) (ha3 : -1 ≤ a3.toInt ∧ a3.toInt ≤ 9) : Met l yX12_canHear wsX12_canHear ({ frames := 2, cells := 0, slots := 0, locals := 44 } : Room) (WQc D cA ad [.ref (ad 387), .int a1, .int a2, .int a3] σ0 τ0) (va_Qi (fun (r : Int32) (u : SS) => P_X12_canHear σ0 τ0 a1 a2 a3 r u.1 u.2) (WB D cA ad) (AA ad)) 0 0 (AA ad) := by
  refine Met.ofW (cc := cX12_canHear) (maxL := 6) (ret := (some .boolean)) (by decide) rfl ?_
  intro p e s m args below meth c s₁ B hml hv
  obtain ⟨rfl, hP, hK, hN⟩ := hv
  have C : Cy p s m _ meth c cX12_canHear 6 wsX12_canHear RX12 D cA ad (some .boolean) := ⟨B.exec, B.bytes, hml, findClass_of_methodNamed B.named, atoms_spec (ws := wsX12_canHear) B.pre, hK, B.notSynchronized, B.returns, hI, hN⟩
  have hl := lv_entry ([.ref (ad 387), .int a1, .int a2, .int a3]) (n := 6) (Nat.le_of_ble_eq_true rfl)
  rw [lg_entry_eq]
  generalize (lg_sl ([.ref (ad 387), .int a1, .int a2, .int a3]) ++ List.replicate (6 - (lg_sl ([.ref (ad 387), .int a1, .int a2, .int a3])).length) Slot.unset).toArray = ls at hl ⊢
  have hl : lv_has ls 6 [(0, .ref (ad 387)), (1, .int a1), (2, .int a2), (3, .int a3)] := hl
  have hS : va_S (AA ad) s.heap s.heap [] := va_S.rf
  have hF : Fr L_X12_canHear σ0 σ0 := Fr.rf
  have hFL : FrL LL_X12_canHear τ0 τ0 := FrL.rf
  have hA := A_X12_canHear p l e s m _ below meth c D cA ad σ0 τ0 a1 a2 a3 C ha1 ha2 ha3 8
  have K27 := hA.1
  have K50 := hA.2.1
  have K100 := hA.2.2
  clear hA
  obtain ⟨hx, hb, _, hown, hts, _, hk, hr, _, _⟩ := C
  refine lv_aload_n hx hb dX12_canHear_0 rfl (lv_at hl 0 rfl) ?_
  refine fg_12_6 (k := 387) hx hb hts in_X12_canHear_12 hown hK hP (by decide) (by decide) (hts _ lk_X12_canHear_33) dX12_canHear_1 ?_
  refine r_bipush hx hb dX12_canHear_4 (by decide) (fun z1 ez1 => ?_)
  refine lv_iload_n hx hb dX12_canHear_6 rfl (lv_at hl 1 rfl) ?_
  refine r_iadd hx hb dX12_canHear_7 (by omega) (fun z2 ez2 => ?_)
  obtain ⟨j3, ej3⟩ : ∃ j : Nat, z2.toInt = (j : Int) := ⟨_, ti_nat (by omega)⟩
  refine ad_ms (k := 389) (j := j3) hx hb hK hP (by decide) (by decide) ej3 (by omega) dX12_canHear_8 ?_
  have hr4 := ra_ms_3 hR (k := 389) (j := j3) (by decide) (by decide) (by omega) (by omega)
  refine r_if_le (tgt := 26) hx hb dX12_canHear_9 (by decide) (fun c5 => ?_) (fun c5 => ?_)
  · refine lv_iload_n hx hb dX12_canHear_26 rfl (lv_at hl 1 rfl) ?_
    exact K27 σ0 τ0 s.heap [] a1 ls hR hF hFL hP hS (by omega) (lv_sub hl [0, 1, 2, 3] rfl) (by omega)
  · refine lv_aload_n hx hb dX12_canHear_12 rfl (lv_at hl 0 rfl) ?_
    refine fg_12_6 (k := 387) hx hb hts in_X12_canHear_12 hown hK hP (by decide) (by decide) (hts _ lk_X12_canHear_33) dX12_canHear_13 ?_
    refine r_bipush hx hb dX12_canHear_16 (by decide) (fun z6 ez6 => ?_)
    refine lv_iload_n hx hb dX12_canHear_18 rfl (lv_at hl 1 rfl) ?_
    refine r_iadd hx hb dX12_canHear_19 (by omega) (fun z7 ez7 => ?_)
    refine ad_ms (k := 389) (j := j3) hx hb hK hP (by decide) (by decide) (by omega) (by omega) dX12_canHear_20 ?_
    have hr8 := ra_ms_3 hR (k := 389) (j := j3) (by decide) (by decide) (by omega) (by omega)
    refine r_iconst hx hb dX12_canHear_21 (by decide) (fun z9 ez9 => ?_)
    refine r_isub hx hb dX12_canHear_22 (by omega) (fun z10 ez10 => ?_)
    refine lv_goto (tgt := 27) hx hb dX12_canHear_23 (by decide) ?_
    exact K27 σ0 τ0 s.heap [] z10 ls hR hF hFL hP hS (by omega) (lv_sub hl [0, 1, 2, 3] rfl) (by omega)
theorem in_X12_isTrue_12 : ∀ w ∈ u_ws RX12 TX12 47, w ∈ wsX12_isTrue := by decide +kernel
theorem lk_X12_isTrue_33 : Cond.fieldLink RX12 33 "CuckooSharesModel" "s" "[I" ∈ wsX12_isTrue := by decide +kernel
abbrev L_X12_isTrue : List Rc := [(394, 394, 0, 7), (395, 395, 0, 7), (396, 396, 0, 7)]
abbrev LL_X12_isTrue : List Rc := []
def P_X12_isTrue (σ0 : Nat → Nat → Int32) (τ0 : Nat → Nat → Int64) (a1 : Int32) (r : Int32) (σ : Nat → Nat → Int32) (τ : Nat → Nat → Int64) : Prop := Rg σ ∧ Fr L_X12_isTrue σ0 σ ∧ FrL LL_X12_isTrue τ0 τ ∧ (0 ≤ r.toInt ∧ r.toInt ≤ 1)
set_option maxHeartbeats 4000000 in
theorem c_X12_isTrue (l : Launch) (D : va_G) (cA : Nat → ClassId) (ad : Nat → Nat) (hI : Inj ad) (σ0 : Nat → Nat → Int32) (τ0 : Nat → Nat → Int64) (hR : Rg σ0) (a1 : Int32) (ha1 : 0 ≤ a1.toInt ∧ a1.toInt ≤ 7) : Met l yX12_isTrue wsX12_isTrue ({ frames := 3, cells := 0, slots := 0, locals := 69 } : Room) (WQc D cA ad [.ref (ad 387), .int a1] σ0 τ0) (va_Qi (fun (r : Int32) (u : SS) => P_X12_isTrue σ0 τ0 a1 r u.1 u.2) (WB D cA ad) (AA ad)) 0 0 (AA ad) := by
  refine Met.ofW (cc := cX12_isTrue) (maxL := 2) (ret := (some .boolean)) (by decide) rfl ?_
  intro p e s m args below meth c s₁ B hml hv
  obtain ⟨rfl, hP, hK, hN⟩ := hv
  have C : Cy p s m _ meth c cX12_isTrue 2 wsX12_isTrue RX12 D cA ad (some .boolean) := ⟨B.exec, B.bytes, hml, findClass_of_methodNamed B.named, atoms_spec (ws := wsX12_isTrue) B.pre, hK, B.notSynchronized, B.returns, hI, hN⟩
  have hl := lv_entry ([.ref (ad 387), .int a1]) (n := 2) (Nat.le_of_ble_eq_true rfl)
  rw [lg_entry_eq]
  generalize (lg_sl ([.ref (ad 387), .int a1]) ++ List.replicate (2 - (lg_sl ([.ref (ad 387), .int a1])).length) Slot.unset).toArray = ls at hl ⊢
  have hl : lv_has ls 2 [(0, .ref (ad 387)), (1, .int a1)] := hl
  have hS : va_S (AA ad) s.heap s.heap [] := va_S.rf
  have hF : Fr L_X12_isTrue σ0 σ0 := Fr.rf
  have hFL : FrL LL_X12_isTrue τ0 τ0 := FrL.rf
  obtain ⟨hx, hb, _, hown, hts, _, hk, hr, _, _⟩ := C
  refine lv_aload_n hx hb dX12_isTrue_0 rfl (lv_at hl 0 rfl) ?_
  refine r_cVv (k := 387) (As := []) (rest := []) ⟨hx, hb, hml, hown, hts⟩ hK hP hN hS (c_X12_asNow l D cA ad hI σ0 τ0 hR) (cwV 0 hts gX12_isTrue_X12_asNow rfl rfl rfl (by decide +kernel) ⟨by decide, by decide⟩) (rv_M hK hP (by decide) (by decide)) rfl hl.1 rfl (Nat.le_of_ble_eq_true rfl) dX12_isTrue_1 (Nat.zero_le _) (Nat.zero_le _) (fun u1 H1 locs1 hp1 hP hS => ?_)
  obtain ⟨σ1, τ1⟩ := u1
  obtain ⟨hR, f1, fL1⟩ : P_X12_asNow σ0 τ0 σ1 τ1 := hp1
  have hP : va_P D vwCl (gw cA ad σ1 τ1) H1 := hP
  obtain rfl := FrL.nil fL1
  have hF := hF.step f1 (by decide)
  refine lv_aload_n hx hb dX12_isTrue_4 rfl (lv_at hl 0 rfl) ?_
  refine lv_iload_n hx hb dX12_isTrue_5 rfl (lv_at hl 1 rfl) ?_
  refine lv_aload_n hx hb dX12_isTrue_6 rfl (lv_at hl 0 rfl) ?_
  refine fg_12_6 (k := 387) hx hb hts in_X12_isTrue_12 hown hK hP (by decide) (by decide) (hts _ lk_X12_isTrue_33) dX12_isTrue_7 ?_
  refine r_sipush hx hb dX12_isTrue_10 (by decide) (fun z2 ez2 => ?_)
  refine ad_ms (k := 389) (j := 212) hx hb hK hP (by decide) (by decide) (by omega) (by omega) dX12_isTrue_13 ?_
  have hr3 := ra_ms_5 hR (k := 389) (j := 212) (by decide) (by decide) (by decide) (by decide)
  refine r_iconst hx hb dX12_isTrue_14 (by decide) (fun z4 ez4 => ?_)
  refine r_isub hx hb dX12_isTrue_15 (by omega) (fun z5 ez5 => ?_)
  refine lv_aload_n hx hb dX12_isTrue_16 rfl (lv_at hl 0 rfl) ?_
  refine fg_12_6 (k := 387) hx hb hts in_X12_isTrue_12 hown hK hP (by decide) (by decide) (hts _ lk_X12_isTrue_33) dX12_isTrue_17 ?_
  refine r_sipush hx hb dX12_isTrue_20 (by decide) (fun z6 ez6 => ?_)
  refine lv_iload_n hx hb dX12_isTrue_23 rfl (lv_at hl 1 rfl) ?_
  refine r_iadd hx hb dX12_isTrue_24 (by omega) (fun z7 ez7 => ?_)
  obtain ⟨j8, ej8⟩ : ∃ j : Nat, z7.toInt = (j : Int) := ⟨_, ti_nat (by omega)⟩
  refine ad_ms (k := 389) (j := j8) hx hb hK hP (by decide) (by decide) ej8 (by omega) dX12_isTrue_25 ?_
  have hr9 := ra_ms_7 hR (k := 389) (j := j8) (by decide) (by decide) (by omega) (by omega)
  refine r_iconst hx hb dX12_isTrue_26 (by decide) (fun z10 ez10 => ?_)
  refine r_isub hx hb dX12_isTrue_27 (by omega) (fun z11 ez11 => ?_)
  refine r_cVi (k := 387) (As := [.int a1, .int z5, .int z11]) (rest := []) ⟨hx, hb, hml, hown, hts⟩ hK hP hN hS (c_X12_canHear l D cA ad hI σ1 τ0 hR a1 z5 z11 (by omega) (by omega) (by omega)) (cwV 3 hts gX12_isTrue_X12_canHear rfl rfl rfl (by decide +kernel) ⟨by decide, by decide⟩) (rv_M hK hP (by decide) (by decide)) rfl hl.1 rfl (Nat.le_of_ble_eq_true rfl) dX12_isTrue_28 (Nat.zero_le _) (Nat.zero_le _) (fun r12 u12 H12 locs12 hp12 hP hS => ?_)
  obtain ⟨σ12, τ12⟩ := u12
  obtain ⟨hR, f12, fL12, hq12⟩ : P_X12_canHear σ1 τ0 a1 z5 z11 r12 σ12 τ12 := hp12
  have hP : va_P D vwCl (gw cA ad σ12 τ12) H12 := hP
  obtain rfl := FrL.nil fL12
  obtain rfl := Fr.nil f12
  exact r_zret hx hb hr hK hP hS hk (by omega) dX12_isTrue_31 (show P_X12_isTrue σ0 τ0 a1 r12 σ1 τ0 from ⟨hR, hF, hFL, by omega⟩)
theorem in_X12_accuses_12 : ∀ w ∈ u_ws RX12 TX12 47, w ∈ wsX12_accuses := by decide +kernel
theorem lk_X12_accuses_33 : Cond.fieldLink RX12 33 "CuckooSharesModel" "s" "[I" ∈ wsX12_accuses := by decide +kernel
abbrev L_X12_accuses : List Rc := [(394, 394, 0, 7), (395, 395, 0, 7), (396, 396, 0, 7), (389, 389, 222, 237)]
abbrev LL_X12_accuses : List Rc := []
def P_X12_accuses (σ0 : Nat → Nat → Int32) (τ0 : Nat → Nat → Int64) (a1 : Int32) (a2 : Int32) (σ : Nat → Nat → Int32) (τ : Nat → Nat → Int64) : Prop := Rg σ ∧ Fr L_X12_accuses σ0 σ ∧ FrL LL_X12_accuses τ0 τ
set_option maxHeartbeats 4000000 in
theorem c_X12_accuses (l : Launch) (D : va_G) (cA : Nat → ClassId) (ad : Nat → Nat) (hI : Inj ad) (σ0 : Nat → Nat → Int32) (τ0 : Nat → Nat → Int64) (hR : Rg σ0) (a1 : Int32) (a2 : Int32) (ha1 : 0 ≤ a1.toInt ∧ a1.toInt ≤ 7) (ha2 : 0 ≤ a2.toInt ∧ a2.toInt ≤ 7) : Met l yX12_accuses wsX12_accuses ({ frames := 4, cells := 0, slots := 0, locals := 90 } : Room) (WQc D cA ad [.ref (ad 387), .int a1, .int a2] σ0 τ0) (va_Qv (fun u : SS => P_X12_accuses σ0 τ0 a1 a2 u.1 u.2) (WB D cA ad) (AA ad)) 0 0 (AA ad) := by
  refine Met.ofW (cc := cX12_accuses) (maxL := 3) (ret := none) (by decide) rfl ?_
  intro p e s m args below meth c s₁ B hml hv
  obtain ⟨rfl, hP, hK, hN⟩ := hv
  have C : Cy p s m _ meth c cX12_accuses 3 wsX12_accuses RX12 D cA ad none := ⟨B.exec, B.bytes, hml, findClass_of_methodNamed B.named, atoms_spec (ws := wsX12_accuses) B.pre, hK, B.notSynchronized, B.returns, hI, hN⟩
  have hl := lv_entry ([.ref (ad 387), .int a1, .int a2]) (n := 3) (Nat.le_of_ble_eq_true rfl)
  rw [lg_entry_eq]
  generalize (lg_sl ([.ref (ad 387), .int a1, .int a2]) ++ List.replicate (3 - (lg_sl ([.ref (ad 387), .int a1, .int a2])).length) Slot.unset).toArray = ls at hl ⊢
  have hl : lv_has ls 3 [(0, .ref (ad 387)), (1, .int a1), (2, .int a2)] := hl
  have hS : va_S (AA ad) s.heap s.heap [] := va_S.rf
  have hF : Fr L_X12_accuses σ0 σ0 := Fr.rf
  have hFL : FrL LL_X12_accuses τ0 τ0 := FrL.rf
  obtain ⟨hx, hb, _, hown, hts, _, hk, hr, _, _⟩ := C
  refine lv_aload_n hx hb dX12_accuses_0 rfl (lv_at hl 0 rfl) ?_
  refine lv_iload_n hx hb dX12_accuses_1 rfl (lv_at hl 2 rfl) ?_
  refine r_cVi (k := 387) (As := [.int a2]) (rest := []) ⟨hx, hb, hml, hown, hts⟩ hK hP hN hS (c_X12_isTrue l D cA ad hI σ0 τ0 hR a2 (by omega)) (cwV 1 hts gX12_accuses_X12_isTrue rfl rfl rfl (by decide +kernel) ⟨by decide, by decide⟩) (rv_M hK hP (by decide) (by decide)) rfl hl.1 rfl (Nat.le_of_ble_eq_true rfl) dX12_accuses_2 (Nat.zero_le _) (Nat.zero_le _) (fun r1 u1 H1 locs1 hp1 hP hS => ?_)
  obtain ⟨σ1, τ1⟩ := u1
  obtain ⟨hR, f1, fL1, hq1⟩ : P_X12_isTrue σ0 τ0 a2 r1 σ1 τ1 := hp1
  have hP : va_P D vwCl (gw cA ad σ1 τ1) H1 := hP
  obtain rfl := FrL.nil fL1
  have hF := hF.step f1 (by decide)
  refine r_if_eq (tgt := 25) hx hb dX12_accuses_5 (by decide) (fun c2 => ?_) (fun c2 => ?_)
  · refine lv_aload_n hx hb dX12_accuses_25 rfl (lv_at hl 0 rfl) ?_
    refine fg_12_6 (k := 387) hx hb hts in_X12_accuses_12 hown hK hP (by decide) (by decide) (hts _ lk_X12_accuses_33) dX12_accuses_26 ?_
    refine r_sipush hx hb dX12_accuses_29 (by decide) (fun z3 ez3 => ?_)
    refine lv_iload_n hx hb dX12_accuses_32 rfl (lv_at hl 2 rfl) ?_
    refine r_iadd hx hb dX12_accuses_33 (by omega) (fun z4 ez4 => ?_)
    refine r_iconst hx hb dX12_accuses_34 (by decide) (fun z5 ez5 => ?_)
    obtain ⟨j6, ej6⟩ : ∃ j : Nat, z4.toInt = (j : Int) := ⟨_, ti_nat (by omega)⟩
    refine as_ms (k := 389) (j := j6) hx hb hK hP hI hR hS (by decide) (by decide) ej6 (by omega) (rw_ms_7 (by decide) (by decide) (by omega) (by omega) (by omega)) dX12_accuses_35 (fun σ7 H7 locs7 u7 v7 hR hP hS => ?_)
    have hF := hF.puts u7 3 rfl (by decide) (by decide) (by omega) (by omega)
    exact r_vret hx hb hr hK hP hS hk dX12_accuses_36 (show P_X12_accuses σ0 τ0 a1 a2 σ7 τ0 from ⟨hR, hF, hFL⟩)
  · refine lv_aload_n hx hb dX12_accuses_8 rfl (lv_at hl 0 rfl) ?_
    refine fg_12_6 (k := 387) hx hb hts in_X12_accuses_12 hown hK hP (by decide) (by decide) (hts _ lk_X12_accuses_33) dX12_accuses_9 ?_
    refine r_sipush hx hb dX12_accuses_12 (by decide) (fun z8 ez8 => ?_)
    refine lv_iload_n hx hb dX12_accuses_15 rfl (lv_at hl 1 rfl) ?_
    refine r_iadd hx hb dX12_accuses_16 (by omega) (fun z9 ez9 => ?_)
    refine lv_dup2_11 hx hb dX12_accuses_17 rfl rfl ?_
    obtain ⟨j10, ej10⟩ : ∃ j : Nat, z9.toInt = (j : Int) := ⟨_, ti_nat (by omega)⟩
    refine ad_ms (k := 389) (j := j10) hx hb hK hP (by decide) (by decide) ej10 (by omega) dX12_accuses_18 ?_
    refine r_iconst hx hb dX12_accuses_19 (by decide) (fun z11 ez11 => ?_)
    refine r_isubU hx hb dX12_accuses_20 (fun z12 => ?_)
    refine as_ms (k := 389) (j := j10) hx hb hK hP hI hR hS (by decide) (by decide) ej10 (by omega) (rx_ms_222 (by decide) (by decide) (by omega) (by omega)) dX12_accuses_21 (fun σ13 H13 locs13 u13 v13 hR hP hS => ?_)
    have hF := hF.puts u13 3 rfl (by decide) (by decide) (by omega) (by omega)
    refine lv_goto (tgt := 36) hx hb dX12_accuses_22 (by decide) ?_
    exact r_vret hx hb hr hK hP hS hk dX12_accuses_36 (show P_X12_accuses σ0 τ0 a1 a2 σ13 τ0 from ⟨hR, hF, hFL⟩)
theorem in_X12_whyAccuse_12 : ∀ w ∈ u_ws RX12 TX12 47, w ∈ wsX12_whyAccuse := by decide +kernel
theorem lk_X12_whyAccuse_33 : Cond.fieldLink RX12 33 "CuckooSharesModel" "s" "[I" ∈ wsX12_whyAccuse := by decide +kernel
abbrev L_X12_whyAccuse : List Rc := [(394, 394, 0, 7), (395, 395, 0, 7), (396, 396, 0, 7)]
abbrev LL_X12_whyAccuse : List Rc := []
def P_X12_whyAccuse (σ0 : Nat → Nat → Int32) (τ0 : Nat → Nat → Int64) (a1 : Int32) (a2 : Int32) (r : Int32) (σ : Nat → Nat → Int32) (τ : Nat → Nat → Int64) : Prop := Rg σ ∧ Fr L_X12_whyAccuse σ0 σ ∧ FrL LL_X12_whyAccuse τ0 τ ∧ (0 ≤ r.toInt ∧ r.toInt ≤ 4)
set_option maxHeartbeats 4000000 in
theorem c_X12_whyAccuse (l : Launch) (D : va_G) (cA : Nat → ClassId) (ad : Nat → Nat) (hI : Inj ad) (σ0 : Nat → Nat → Int32) (τ0 : Nat → Nat → Int64) (hR : Rg σ0) (a1 : Int32) (a2 : Int32) (ha1 : 0 ≤ a1.toInt ∧ a1.toInt ≤ 7) (ha2 : 0 ≤ a2.toInt ∧ a2.toInt ≤ 7) : Met l yX12_whyAccuse wsX12_whyAccuse ({ frames := 2, cells := 0, slots := 0, locals := 44 } : Room) (WQc D cA ad [.ref (ad 387), .int a1, .int a2] σ0 τ0) (va_Qi (fun (r : Int32) (u : SS) => P_X12_whyAccuse σ0 τ0 a1 a2 r u.1 u.2) (WB D cA ad) (AA ad)) 0 0 (AA ad) := by
  refine Met.ofW (cc := cX12_whyAccuse) (maxL := 5) (ret := (some .int)) (by decide) rfl ?_
  intro p e s m args below meth c s₁ B hml hv
  obtain ⟨rfl, hP, hK, hN⟩ := hv
  have C : Cy p s m _ meth c cX12_whyAccuse 5 wsX12_whyAccuse RX12 D cA ad (some .int) := ⟨B.exec, B.bytes, hml, findClass_of_methodNamed B.named, atoms_spec (ws := wsX12_whyAccuse) B.pre, hK, B.notSynchronized, B.returns, hI, hN⟩
  have hl := lv_entry ([.ref (ad 387), .int a1, .int a2]) (n := 5) (Nat.le_of_ble_eq_true rfl)
  rw [lg_entry_eq]
  generalize (lg_sl ([.ref (ad 387), .int a1, .int a2]) ++ List.replicate (5 - (lg_sl ([.ref (ad 387), .int a1, .int a2])).length) Slot.unset).toArray = ls at hl ⊢
  have hl : lv_has ls 5 [(0, .ref (ad 387)), (1, .int a1), (2, .int a2)] := hl
  have hS : va_S (AA ad) s.heap s.heap [] := va_S.rf
  have hF : Fr L_X12_whyAccuse σ0 σ0 := Fr.rf
  have hFL : FrL LL_X12_whyAccuse τ0 τ0 := FrL.rf
  obtain ⟨hx, hb, _, hown, hts, _, hk, hr, _, _⟩ := C
  refine lv_aload_n hx hb dX12_whyAccuse_0 rfl (lv_at hl 0 rfl) ?_
  refine fg_12_6 (k := 387) hx hb hts in_X12_whyAccuse_12 hown hK hP (by decide) (by decide) (hts _ lk_X12_whyAccuse_33) dX12_whyAccuse_1 ?_
  refine r_sipush hx hb dX12_whyAccuse_4 (by decide) (fun z1 ez1 => ?_)
  refine lv_iload_n hx hb dX12_whyAccuse_7 rfl (lv_at hl 2 rfl) ?_
  refine r_iadd hx hb dX12_whyAccuse_8 (by omega) (fun z2 ez2 => ?_)
  obtain ⟨j3, ej3⟩ : ∃ j : Nat, z2.toInt = (j : Int) := ⟨_, ti_nat (by omega)⟩
  refine ad_ms (k := 389) (j := j3) hx hb hK hP (by decide) (by decide) ej3 (by omega) dX12_whyAccuse_9 ?_
  have hr4 := ra_ms_7 hR (k := 389) (j := j3) (by decide) (by decide) (by omega) (by omega)
  refine r_if_ne (tgt := 15) hx hb dX12_whyAccuse_10 (by decide) (fun c5 => ?_) (fun c5 => ?_)
  · refine lv_aload_n hx hb dX12_whyAccuse_15 rfl (lv_at hl 0 rfl) ?_
    refine r_cVv (k := 387) (As := []) (rest := []) ⟨hx, hb, hml, hown, hts⟩ hK hP hN hS (c_X12_asNow l D cA ad hI σ0 τ0 hR) (cwV 0 hts gX12_whyAccuse_X12_asNow rfl rfl rfl (by decide +kernel) ⟨by decide, by decide⟩) (rv_M hK hP (by decide) (by decide)) rfl hl.1 rfl (Nat.le_of_ble_eq_true rfl) dX12_whyAccuse_16 (Nat.zero_le _) (Nat.zero_le _) (fun u6 H6 locs6 hp6 hP hS => ?_)
    obtain ⟨σ6, τ6⟩ := u6
    obtain ⟨hR, f6, fL6⟩ : P_X12_asNow σ0 τ0 σ6 τ6 := hp6
    have hP : va_P D vwCl (gw cA ad σ6 τ6) H6 := hP
    obtain rfl := FrL.nil fL6
    have hF := hF.step f6 (by decide)
    refine lv_aload_n hx hb dX12_whyAccuse_19 rfl (lv_at hl 0 rfl) ?_
    refine fg_12_6 (k := 387) hx hb hts in_X12_whyAccuse_12 hown hK hP (by decide) (by decide) (hts _ lk_X12_whyAccuse_33) dX12_whyAccuse_20 ?_
    refine r_sipush hx hb dX12_whyAccuse_23 (by decide) (fun z7 ez7 => ?_)
    refine ad_ms (k := 389) (j := 212) hx hb hK hP (by decide) (by decide) (by omega) (by omega) dX12_whyAccuse_26 ?_
    have hr8 := ra_ms_5 hR (k := 389) (j := 212) (by decide) (by decide) (by decide) (by decide)
    refine r_iconst hx hb dX12_whyAccuse_27 (by decide) (fun z9 ez9 => ?_)
    refine r_isub hx hb dX12_whyAccuse_28 (by omega) (fun z10 ez10 => ?_)
    refine lv_istore_n (lv' := [(3, .int z10), (0, .ref (ad 387)), (1, .int a1), (2, .int a2)]) hx hb dX12_whyAccuse_29 rfl hl (by decide) rfl (fun ls hl => ?_)
    refine lv_aload_n hx hb dX12_whyAccuse_30 rfl (lv_at hl 1 rfl) ?_
    refine fg_12_6 (k := 387) hx hb hts in_X12_whyAccuse_12 hown hK hP (by decide) (by decide) (hts _ lk_X12_whyAccuse_33) dX12_whyAccuse_31 ?_
    refine r_sipush hx hb dX12_whyAccuse_34 (by decide) (fun z11 ez11 => ?_)
    refine lv_iload_n hx hb dX12_whyAccuse_37 rfl (lv_at hl 3 rfl) ?_
    refine r_iadd hx hb dX12_whyAccuse_38 (by omega) (fun z12 ez12 => ?_)
    refine ad_ms (k := 389) (j := j3) hx hb hK hP (by decide) (by decide) (by omega) (by omega) dX12_whyAccuse_39 ?_
    have hr13 := ra_ms_7 hR (k := 389) (j := j3) (by decide) (by decide) (by omega) (by omega)
    refine r_iconst hx hb dX12_whyAccuse_40 (by decide) (fun z14 ez14 => ?_)
    refine r_isub hx hb dX12_whyAccuse_41 (by omega) (fun z15 ez15 => ?_)
    refine lv_istore (lv' := [(4, .int z15), (3, .int z10), (0, .ref (ad 387)), (1, .int a1), (2, .int a2)]) hx hb dX12_whyAccuse_42 hl (by decide) rfl (fun ls hl => ?_)
    refine lv_aload_n hx hb dX12_whyAccuse_44 rfl (lv_at hl 2 rfl) ?_
    refine lv_iload_n hx hb dX12_whyAccuse_45 rfl (lv_at hl 3 rfl) ?_
    refine lv_iload_n hx hb dX12_whyAccuse_46 rfl (lv_at hl 1 rfl) ?_
    refine lv_iload hx hb dX12_whyAccuse_47 (lv_at hl 0 rfl) ?_
    refine r_cVi (k := 387) (As := [.int a1, .int z10, .int z15]) (rest := []) ⟨hx, hb, hml, hown, hts⟩ hK hP hN hS (c_X12_farOf l D cA ad hI σ6 τ0 hR a1 z10 z15 (by omega) (by omega) (by omega)) (cwV 3 hts gX12_whyAccuse_X12_farOf rfl rfl rfl (by decide +kernel) ⟨by decide, by decide⟩) (rv_M hK hP (by decide) (by decide)) rfl hl.1 rfl (Nat.le_of_ble_eq_true rfl) dX12_whyAccuse_49 (Nat.zero_le _) (Nat.zero_le _) (fun r16 u16 H16 locs16 hp16 hP hS => ?_)
    obtain ⟨σ16, τ16⟩ := u16
    obtain ⟨hR, f16, fL16⟩ : P_X12_farOf σ6 τ0 a1 z10 z15 r16 σ16 τ16 := hp16
    have hP : va_P D vwCl (gw cA ad σ16 τ16) H16 := hP
    obtain rfl := FrL.nil fL16
    obtain rfl := Fr.nil f16
    refine lv_aload_n hx hb dX12_whyAccuse_52 rfl (lv_at hl 2 rfl) ?_
    refine lv_iload_n hx hb dX12_whyAccuse_53 rfl (lv_at hl 4 rfl) ?_
    refine lv_iload_n hx hb dX12_whyAccuse_54 rfl (lv_at hl 1 rfl) ?_
    refine lv_iload hx hb dX12_whyAccuse_55 (lv_at hl 0 rfl) ?_
    refine r_cVi (k := 387) (As := [.int a2, .int z10, .int z15]) (rest := [.int r16]) ⟨hx, hb, hml, hown, hts⟩ hK hP hN hS (c_X12_farOf l D cA ad hI σ6 τ0 hR a2 z10 z15 (by omega) (by omega) (by omega)) (cwV 3 hts gX12_whyAccuse_X12_farOf rfl rfl rfl (by decide +kernel) ⟨by decide, by decide⟩) (rv_M hK hP (by decide) (by decide)) rfl hl.1 rfl (Nat.le_of_ble_eq_true rfl) dX12_whyAccuse_57 (Nat.zero_le _) (Nat.zero_le _) (fun r17 u17 H17 locs17 hp17 hP hS => ?_)
    obtain ⟨σ17, τ17⟩ := u17
    obtain ⟨hR, f17, fL17⟩ : P_X12_farOf σ6 τ0 a2 z10 z15 r17 σ17 τ17 := hp17
    have hP : va_P D vwCl (gw cA ad σ17 τ17) H17 := hP
    obtain rfl := FrL.nil fL17
    obtain rfl := Fr.nil f17
    refine r_icmp_lt (tgt := 65) hx hb dX12_whyAccuse_60 (by decide) (fun c18 => ?_) (fun c18 => ?_)
    · refine lv_aload_n hx hb dX12_whyAccuse_65 rfl (lv_at hl 2 rfl) ?_
      refine fg_12_6 (k := 387) hx hb hts in_X12_whyAccuse_12 hown hK hP (by decide) (by decide) (hts _ lk_X12_whyAccuse_33) dX12_whyAccuse_66 ?_
      refine r_sipush hx hb dX12_whyAccuse_69 (by decide) (fun z19 ez19 => ?_)
      refine lv_iload_n hx hb dX12_whyAccuse_72 rfl (lv_at hl 3 rfl) ?_
      refine r_iadd hx hb dX12_whyAccuse_73 (by omega) (fun z20 ez20 => ?_)
      obtain ⟨j21, ej21⟩ : ∃ j : Nat, z20.toInt = (j : Int) := ⟨_, ti_nat (by omega)⟩
      refine ad_ms (k := 389) (j := j21) hx hb hK hP (by decide) (by decide) ej21 (by omega) dX12_whyAccuse_74 ?_
      have hr22 := ra_ms_7 hR (k := 389) (j := j21) (by decide) (by decide) (by omega) (by omega)
      refine lv_aload_n hx hb dX12_whyAccuse_75 rfl (lv_at hl 2 rfl) ?_
      refine fg_12_6 (k := 387) hx hb hts in_X12_whyAccuse_12 hown hK hP (by decide) (by decide) (hts _ lk_X12_whyAccuse_33) dX12_whyAccuse_76 ?_
      refine r_sipush hx hb dX12_whyAccuse_79 (by decide) (fun z23 ez23 => ?_)
      refine lv_iload_n hx hb dX12_whyAccuse_82 rfl (lv_at hl 4 rfl) ?_
      refine r_iadd hx hb dX12_whyAccuse_83 (by omega) (fun z24 ez24 => ?_)
      refine ad_ms (k := 389) (j := j3) hx hb hK hP (by decide) (by decide) (by omega) (by omega) dX12_whyAccuse_84 ?_
      have hr25 := ra_ms_7 hR (k := 389) (j := j3) (by decide) (by decide) (by omega) (by omega)
      refine r_icmp_ne (tgt := 92) hx hb dX12_whyAccuse_85 (by decide) (fun c26 => ?_) (fun c26 => ?_)
      · refine lv_aload_n hx hb dX12_whyAccuse_92 rfl (lv_at hl 2 rfl) ?_
        refine fg_12_6 (k := 387) hx hb hts in_X12_whyAccuse_12 hown hK hP (by decide) (by decide) (hts _ lk_X12_whyAccuse_33) dX12_whyAccuse_93 ?_
        refine r_sipush hx hb dX12_whyAccuse_96 (by decide) (fun z27 ez27 => ?_)
        refine lv_iload_n hx hb dX12_whyAccuse_99 rfl (lv_at hl 3 rfl) ?_
        refine r_iadd hx hb dX12_whyAccuse_100 (by omega) (fun z28 ez28 => ?_)
        obtain ⟨j29, ej29⟩ : ∃ j : Nat, z28.toInt = (j : Int) := ⟨_, ti_nat (by omega)⟩
        refine ad_ms (k := 389) (j := j29) hx hb hK hP (by decide) (by decide) ej29 (by omega) dX12_whyAccuse_101 ?_
        refine r_if_ne (tgt := 109) hx hb dX12_whyAccuse_102 (by decide) (fun c30 => ?_) (fun c30 => ?_)
        · refine r_iconst hx hb dX12_whyAccuse_109 (by decide) (fun z31 ez31 => ?_)
          exact r_iret hx hb hr hK hP hS hk dX12_whyAccuse_110 (show P_X12_whyAccuse σ0 τ0 a1 a2 z31 σ6 τ0 from ⟨hR, hF, hFL, by omega⟩)
        · refine r_iconst hx hb dX12_whyAccuse_105 (by decide) (fun z32 ez32 => ?_)
          refine lv_goto (tgt := 110) hx hb dX12_whyAccuse_106 (by decide) ?_
          exact r_iret hx hb hr hK hP hS hk dX12_whyAccuse_110 (show P_X12_whyAccuse σ0 τ0 a1 a2 z32 σ6 τ0 from ⟨hR, hF, hFL, by omega⟩)
      · refine r_iconst hx hb dX12_whyAccuse_88 (by decide) (fun z33 ez33 => ?_)
        refine lv_goto (tgt := 110) hx hb dX12_whyAccuse_89 (by decide) ?_
        exact r_iret hx hb hr hK hP hS hk dX12_whyAccuse_110 (show P_X12_whyAccuse σ0 τ0 a1 a2 z33 σ6 τ0 from ⟨hR, hF, hFL, by omega⟩)
    · refine r_iconst hx hb dX12_whyAccuse_63 (by decide) (fun z34 ez34 => ?_)
      exact r_iret hx hb hr hK hP hS hk dX12_whyAccuse_64 (show P_X12_whyAccuse σ0 τ0 a1 a2 z34 σ6 τ0 from ⟨hR, hF, hFL, by omega⟩)
  · refine r_iconst hx hb dX12_whyAccuse_13 (by decide) (fun z35 ez35 => ?_)
    exact r_iret hx hb hr hK hP hS hk dX12_whyAccuse_14 (show P_X12_whyAccuse σ0 τ0 a1 a2 z35 σ0 τ0 from ⟨hR, hF, hFL, by omega⟩)
theorem in_X12_accuse_12 : ∀ w ∈ u_ws RX12 TX12 47, w ∈ wsX12_accuse := by decide +kernel
theorem lk_X12_accuse_1 : Cond.fieldLink RX12 1 "CuckooSharesModel" "thrown" "I" ∈ wsX12_accuse := by decide +kernel
abbrev L_X12_accuse : List Rc := [(387, 387, 0, 0), (394, 394, 0, 7), (395, 395, 0, 7), (396, 396, 0, 7), (387, 387, 29, 29), (398, 398, 0, 279), (389, 389, 222, 237)]
abbrev LL_X12_accuse : List Rc := []
def P_X12_accuse (σ0 : Nat → Nat → Int32) (τ0 : Nat → Nat → Int64) (a1 : Int32) (a2 : Int32) (r : Int32) (σ : Nat → Nat → Int32) (τ : Nat → Nat → Int64) : Prop := Rg σ ∧ Fr L_X12_accuse σ0 σ ∧ FrL LL_X12_accuse τ0 τ ∧ (-1 ≤ r.toInt ∧ r.toInt ≤ 4)
set_option maxHeartbeats 4000000 in
theorem c_X12_accuse (l : Launch) (D : va_G) (cA : Nat → ClassId) (ad : Nat → Nat) (hI : Inj ad) (σ0 : Nat → Nat → Int32) (τ0 : Nat → Nat → Int64) (hR : Rg σ0) (a1 : Int32) (a2 : Int32)  : Met l yX12_accuse wsX12_accuse ({ frames := 5, cells := 0, slots := 0, locals := 112 } : Room) (WQc D cA ad [.ref (ad 387), .int a1, .int a2] σ0 τ0) (va_Qi (fun (r : Int32) (u : SS) => P_X12_accuse σ0 τ0 a1 a2 r u.1 u.2) (WB D cA ad) (AA ad)) 0 0 (AA ad) := by
  refine Met.ofW (cc := cX12_accuse) (maxL := 4) (ret := (some .int)) (by decide) rfl ?_
  intro p e s m args below meth c s₁ B hml hv
  obtain ⟨rfl, hP, hK, hN⟩ := hv
  have C : Cy p s m _ meth c cX12_accuse 4 wsX12_accuse RX12 D cA ad (some .int) := ⟨B.exec, B.bytes, hml, findClass_of_methodNamed B.named, atoms_spec (ws := wsX12_accuse) B.pre, hK, B.notSynchronized, B.returns, hI, hN⟩
  have hl := lv_entry ([.ref (ad 387), .int a1, .int a2]) (n := 4) (Nat.le_of_ble_eq_true rfl)
  rw [lg_entry_eq]
  generalize (lg_sl ([.ref (ad 387), .int a1, .int a2]) ++ List.replicate (4 - (lg_sl ([.ref (ad 387), .int a1, .int a2])).length) Slot.unset).toArray = ls at hl ⊢
  have hl : lv_has ls 4 [(0, .ref (ad 387)), (1, .int a1), (2, .int a2)] := hl
  have hS : va_S (AA ad) s.heap s.heap [] := va_S.rf
  have hF : Fr L_X12_accuse σ0 σ0 := Fr.rf
  have hFL : FrL LL_X12_accuse τ0 τ0 := FrL.rf
  obtain ⟨hx, hb, _, hown, hts, _, hk, hr, _, _⟩ := C
  refine lv_aload_n hx hb dX12_accuse_0 rfl (lv_at hl 0 rfl) ?_
  refine r_iconst hx hb dX12_accuse_1 (by decide) (fun z1 ez1 => ?_)
  refine fp_12_0 (k := 387) hx hb hts in_X12_accuse_12 hown hK hP (by decide) (by decide) (hts _ lk_X12_accuse_1) hI hR hS (by omega) dX12_accuse_2 (fun σ2 H2 locs2 u2 v2 hR hP hS => ?_)
  have hF := hF.puts u2 0 rfl (by decide) (by decide) (by decide) (by decide)
  refine lv_aload_n hx hb dX12_accuse_5 rfl (lv_at hl 0 rfl) ?_
  refine lv_iload_n hx hb dX12_accuse_6 rfl (lv_at hl 1 rfl) ?_
  refine r_cVi (k := 387) (As := [.int a1]) (rest := []) ⟨hx, hb, hml, hown, hts⟩ hK hP hN hS (c_X12_isMan l D cA ad hI σ2 τ0 hR a1) (cwV 1 hts gX12_accuse_X12_isMan rfl rfl rfl (by decide +kernel) ⟨by decide, by decide⟩) (rv_M hK hP (by decide) (by decide)) rfl hl.1 rfl (Nat.le_of_ble_eq_true rfl) dX12_accuse_7 (Nat.zero_le _) (Nat.zero_le _) (fun r3 u3 H3 locs3 hp3 hP hS => ?_)
  obtain ⟨σ3, τ3⟩ := u3
  obtain ⟨hR, f3, fL3, hq3, hp3_0⟩ : P_X12_isMan σ2 τ0 a1 r3 σ3 τ3 := hp3
  have hP : va_P D vwCl (gw cA ad σ3 τ3) H3 := hP
  obtain rfl := FrL.nil fL3
  obtain rfl := Fr.nil f3
  refine r_if_eq (tgt := 26) hx hb dX12_accuse_10 (by decide) (fun c4 => ?_) (fun c4 => ?_)
  · clear hp3_0
    refine r_iconst hx hb dX12_accuse_26 (by decide) (fun z5 ez5 => ?_)
    exact r_iret hx hb hr hK hP hS hk dX12_accuse_27 (show P_X12_accuse σ0 τ0 a1 a2 z5 σ2 τ0 from ⟨hR, hF, hFL, by omega⟩)
  · replace hp3_0 := hp3_0.resolve_left (by omega)
    refine lv_aload_n hx hb dX12_accuse_13 rfl (lv_at hl 0 rfl) ?_
    refine lv_iload_n hx hb dX12_accuse_14 rfl (lv_at hl 2 rfl) ?_
    refine r_cVi (k := 387) (As := [.int a2]) (rest := []) ⟨hx, hb, hml, hown, hts⟩ hK hP hN hS (c_X12_isMan l D cA ad hI σ2 τ0 hR a2) (cwV 1 hts gX12_accuse_X12_isMan rfl rfl rfl (by decide +kernel) ⟨by decide, by decide⟩) (rv_M hK hP (by decide) (by decide)) rfl hl.1 rfl (Nat.le_of_ble_eq_true rfl) dX12_accuse_15 (Nat.zero_le _) (Nat.zero_le _) (fun r6 u6 H6 locs6 hp6 hP hS => ?_)
    obtain ⟨σ6, τ6⟩ := u6
    obtain ⟨hR, f6, fL6, hq6, hp6_0⟩ : P_X12_isMan σ2 τ0 a2 r6 σ6 τ6 := hp6
    have hP : va_P D vwCl (gw cA ad σ6 τ6) H6 := hP
    obtain rfl := FrL.nil fL6
    obtain rfl := Fr.nil f6
    refine r_if_eq (tgt := 26) hx hb dX12_accuse_18 (by decide) (fun c7 => ?_) (fun c7 => ?_)
    · clear hp6_0
      refine r_iconst hx hb dX12_accuse_26 (by decide) (fun z8 ez8 => ?_)
      exact r_iret hx hb hr hK hP hS hk dX12_accuse_27 (show P_X12_accuse σ0 τ0 a1 a2 z8 σ2 τ0 from ⟨hR, hF, hFL, by omega⟩)
    · replace hp6_0 := hp6_0.resolve_left (by omega)
      refine lv_iload_n hx hb dX12_accuse_21 rfl (lv_at hl 1 rfl) ?_
      refine lv_iload_n hx hb dX12_accuse_22 rfl (lv_at hl 2 rfl) ?_
      refine r_icmp_ne (tgt := 28) hx hb dX12_accuse_23 (by decide) (fun c9 => ?_) (fun c9 => ?_)
      · refine lv_aload_n hx hb dX12_accuse_28 rfl (lv_at hl 0 rfl) ?_
        refine lv_iload_n hx hb dX12_accuse_29 rfl (lv_at hl 1 rfl) ?_
        refine lv_iload_n hx hb dX12_accuse_30 rfl (lv_at hl 2 rfl) ?_
        refine r_cVi (k := 387) (As := [.int a1, .int a2]) (rest := []) ⟨hx, hb, hml, hown, hts⟩ hK hP hN hS (c_X12_whyAccuse l D cA ad hI σ2 τ0 hR a1 a2 (by omega) (by omega)) (cwV 2 hts gX12_accuse_X12_whyAccuse rfl rfl rfl (by decide +kernel) ⟨by decide, by decide⟩) (rv_M hK hP (by decide) (by decide)) rfl hl.1 rfl (Nat.le_of_ble_eq_true rfl) dX12_accuse_31 (Nat.zero_le _) (Nat.zero_le _) (fun r10 u10 H10 locs10 hp10 hP hS => ?_)
        obtain ⟨σ10, τ10⟩ := u10
        obtain ⟨hR, f10, fL10, hq10⟩ : P_X12_whyAccuse σ2 τ0 a1 a2 r10 σ10 τ10 := hp10
        have hP : va_P D vwCl (gw cA ad σ10 τ10) H10 := hP
        obtain rfl := FrL.nil fL10
        have hF := hF.step f10 (by decide)
        refine lv_istore_n (lv' := [(3, .int r10), (0, .ref (ad 387)), (1, .int a1), (2, .int a2)]) hx hb dX12_accuse_34 rfl hl (by decide) rfl (fun ls hl => ?_)
        refine lv_iload_n hx hb dX12_accuse_35 rfl (lv_at hl 0 rfl) ?_
        refine r_if_le (tgt := 41) hx hb dX12_accuse_36 (by decide) (fun c11 => ?_) (fun c11 => ?_)
        · refine lv_aload_n hx hb dX12_accuse_41 rfl (lv_at hl 1 rfl) ?_
          refine r_cVv (k := 387) (As := []) (rest := []) ⟨hx, hb, hml, hown, hts⟩ hK hP hN hS (c_X12_keep l D cA ad hI σ10 τ0 hR) (cwV 0 hts gX12_accuse_X12_keep rfl rfl rfl (by decide +kernel) ⟨by decide, by decide⟩) (rv_M hK hP (by decide) (by decide)) rfl hl.1 rfl (Nat.le_of_ble_eq_true rfl) dX12_accuse_42 (Nat.zero_le _) (Nat.zero_le _) (fun u12 H12 locs12 hp12 hP hS => ?_)
          obtain ⟨σ12, τ12⟩ := u12
          obtain ⟨hR, f12, fL12, hp12_0⟩ : P_X12_keep σ10 τ0 σ12 τ12 := hp12
          have hP : va_P D vwCl (gw cA ad σ12 τ12) H12 := hP
          obtain rfl := FrL.nil fL12
          have hF := hF.step f12 (by decide)
          refine lv_aload_n hx hb dX12_accuse_45 rfl (lv_at hl 1 rfl) ?_
          refine lv_iload_n hx hb dX12_accuse_46 rfl (lv_at hl 2 rfl) ?_
          refine lv_iload_n hx hb dX12_accuse_47 rfl (lv_at hl 3 rfl) ?_
          refine r_cVv (k := 387) (As := [.int a1, .int a2]) (rest := []) ⟨hx, hb, hml, hown, hts⟩ hK hP hN hS (c_X12_accuses l D cA ad hI σ12 τ0 hR a1 a2 (by omega) (by omega)) (cwV 2 hts gX12_accuse_X12_accuses rfl rfl rfl (by decide +kernel) ⟨by decide, by decide⟩) (rv_M hK hP (by decide) (by decide)) rfl hl.1 rfl (Nat.le_of_ble_eq_true rfl) dX12_accuse_48 (Nat.zero_le _) (Nat.zero_le _) (fun u13 H13 locs13 hp13 hP hS => ?_)
          obtain ⟨σ13, τ13⟩ := u13
          obtain ⟨hR, f13, fL13⟩ : P_X12_accuses σ12 τ0 a1 a2 σ13 τ13 := hp13
          have hP : va_P D vwCl (gw cA ad σ13 τ13) H13 := hP
          obtain rfl := FrL.nil fL13
          have hF := hF.step f13 (by decide)
          have t14 : (σ13 387 29).toInt = (σ12 387 29).toInt := congrArg Int32.toInt (f13.at 387 29 (by decide))
          refine r_iconst hx hb dX12_accuse_51 (by decide) (fun z15 ez15 => ?_)
          exact r_iret hx hb hr hK hP hS hk dX12_accuse_52 (show P_X12_accuse σ0 τ0 a1 a2 z15 σ13 τ0 from ⟨hR, hF, hFL, by omega⟩)
        · refine lv_iload_n hx hb dX12_accuse_39 rfl (lv_at hl 0 rfl) ?_
          exact r_iret hx hb hr hK hP hS hk dX12_accuse_40 (show P_X12_accuse σ0 τ0 a1 a2 r10 σ10 τ0 from ⟨hR, hF, hFL, by omega⟩)
      · refine r_iconst hx hb dX12_accuse_26 (by decide) (fun z16 ez16 => ?_)
        exact r_iret hx hb hr hK hP hS hk dX12_accuse_27 (show P_X12_accuse σ0 τ0 a1 a2 z16 σ2 τ0 from ⟨hR, hF, hFL, by omega⟩)
theorem in_X12_ends_12 : ∀ w ∈ u_ws RX12 TX12 47, w ∈ wsX12_ends := by decide +kernel
theorem lk_X12_ends_33 : Cond.fieldLink RX12 33 "CuckooSharesModel" "s" "[I" ∈ wsX12_ends := by decide +kernel
theorem lk_X12_ends_59 : Cond.fieldLink RX12 59 "CuckooSharesModel" "shares" "[I" ∈ wsX12_ends := by decide +kernel
abbrev L_X12_ends : List Rc := [(389, 389, 211, 213), (389, 389, 230, 245)]
abbrev LL_X12_ends : List Rc := []
def P_X12_ends (σ0 : Nat → Nat → Int32) (τ0 : Nat → Nat → Int64)  (σ : Nat → Nat → Int32) (τ : Nat → Nat → Int64) : Prop := Rg σ ∧ Fr L_X12_ends σ0 σ ∧ FrL LL_X12_ends τ0 τ
def J_X12_ends_2 (p : Program) (l : Launch) (e : Env) (s : State) (m : MethodId) (args : Array Value) (below : List Frame) (meth : Method) (c : Code) (D : va_G) (cA : Nat → ClassId) (ad : Nat → Nat) (σ0 : Nat → Nat → Int32) (τ0 : Nat → Nat → Int64)  (n : Nat) : Prop := ∀ (σ : Nat → Nat → Int32) (τ : Nat → Nat → Int64) (H : Heap) (locs : List Loc) (x1 : Int32) (ls : Array Slot), Rg σ → Fr L_X12_ends σ0 σ → FrL LL_X12_ends τ0 τ → va_P D vwCl (gw cA ad σ τ) H → va_S (AA ad) s.heap H locs → (0 ≤ x1.toInt ∧ x1.toInt ≤ 8) → lv_has ls 2 [(0, .ref (ad 387)), (1, .int x1)] → 2 * (8 - x1.toInt) + 1 < (n : Int) → W p l e ({ frames := 0, cells := 0, slots := 0, locals := 0 } : Room) s m args below meth c H locs 0 0 (MQ below (va_Qv (fun u : SS => P_X12_ends σ0 τ0 u.1 u.2) (WB D cA ad) (AA ad)) args s 0 0 (AA ad)) (F0 m 2 ls [])
set_option maxHeartbeats 4000000 in
theorem B_X12_ends_2 (p : Program) (l : Launch) (e : Env) (s : State) (m : MethodId) (args : Array Value) (below : List Frame) (meth : Method) (c : Code) (D : va_G) (cA : Nat → ClassId) (ad : Nat → Nat) (σ0 : Nat → Nat → Int32) (τ0 : Nat → Nat → Int64)  (n : Nat) (C : Cy p s m args meth c cX12_ends 2 wsX12_ends RX12 D cA ad none)  (K2 : J_X12_ends_2 p l e s m args below meth c D cA ad σ0 τ0 n) : J_X12_ends_2 p l e s m args below meth c D cA ad σ0 τ0 (n + 1) := by
  obtain ⟨hx, hb, hml, hown, hts, hK, hk, hr, hI, hN⟩ := C
  intro σ τ H locs x1 ls hR hF hFL hP hS hc0 hl hm
  obtain rfl := FrL.nil hFL
  refine lv_iload_n hx hb dX12_ends_2 rfl (lv_at hl 1 rfl) ?_
  refine r_bipush hx hb dX12_ends_3 (by decide) (fun z1 ez1 => ?_)
  refine r_icmp_ge (tgt := 44) hx hb dX12_ends_5 (by decide) (fun c2 => ?_) (fun c2 => ?_)
  · refine lv_aload_n hx hb dX12_ends_44 rfl (lv_at hl 0 rfl) ?_
    refine fg_12_6 (k := 387) hx hb hts in_X12_ends_12 hown hK hP (by decide) (by decide) (hts _ lk_X12_ends_33) dX12_ends_45 ?_
    refine r_sipush hx hb dX12_ends_48 (by decide) (fun z3 ez3 => ?_)
    refine lv_dup2_11 hx hb dX12_ends_51 rfl rfl ?_
    refine ad_ms (k := 389) (j := 211) hx hb hK hP (by decide) (by decide) (by omega) (by omega) dX12_ends_52 ?_
    refine r_iconst hx hb dX12_ends_53 (by decide) (fun z4 ez4 => ?_)
    refine r_iaddU hx hb dX12_ends_54 (fun z5 => ?_)
    refine as_ms (k := 389) (j := 211) hx hb hK hP hI hR hS (by decide) (by decide) (by omega) (by omega) (rx_ms_91 (by decide) (by decide) (by decide) (by decide)) dX12_ends_55 (fun σ6 H6 locs6 u6 v6 hR hP hS => ?_)
    have hF := hF.puts u6 0 rfl (by decide) (by decide) (by decide) (by decide)
    refine lv_aload_n hx hb dX12_ends_56 rfl (lv_at hl 0 rfl) ?_
    refine fg_12_6 (k := 387) hx hb hts in_X12_ends_12 hown hK hP (by decide) (by decide) (hts _ lk_X12_ends_33) dX12_ends_57 ?_
    refine r_sipush hx hb dX12_ends_60 (by decide) (fun z7 ez7 => ?_)
    refine r_iconst hx hb dX12_ends_63 (by decide) (fun z8 ez8 => ?_)
    refine as_ms (k := 389) (j := 212) hx hb hK hP hI hR hS (by decide) (by decide) (by omega) (by omega) (rw_ms_5 (by decide) (by decide) (by decide) (by decide) (by omega)) dX12_ends_64 (fun σ9 H9 locs9 u9 v9 hR hP hS => ?_)
    have hF := hF.puts u9 0 rfl (by decide) (by decide) (by decide) (by decide)
    refine lv_aload_n hx hb dX12_ends_65 rfl (lv_at hl 0 rfl) ?_
    refine fg_12_6 (k := 387) hx hb hts in_X12_ends_12 hown hK hP (by decide) (by decide) (hts _ lk_X12_ends_33) dX12_ends_66 ?_
    refine r_sipush hx hb dX12_ends_69 (by decide) (fun z10 ez10 => ?_)
    refine r_iconst hx hb dX12_ends_72 (by decide) (fun z11 ez11 => ?_)
    refine as_ms (k := 389) (j := 213) hx hb hK hP hI hR hS (by decide) (by decide) (by omega) (by omega) (rx_ms_213 (by decide) (by decide) (by decide) (by decide)) dX12_ends_73 (fun σ12 H12 locs12 u12 v12 hR hP hS => ?_)
    have hF := hF.puts u12 0 rfl (by decide) (by decide) (by decide) (by decide)
    exact r_vret hx hb hr hK hP hS hk dX12_ends_74 (show P_X12_ends σ0 τ0 σ12 τ0 from ⟨hR, hF, hFL⟩)
  · refine lv_aload_n hx hb dX12_ends_8 rfl (lv_at hl 0 rfl) ?_
    refine fg_12_6 (k := 387) hx hb hts in_X12_ends_12 hown hK hP (by decide) (by decide) (hts _ lk_X12_ends_33) dX12_ends_9 ?_
    refine r_sipush hx hb dX12_ends_12 (by decide) (fun z13 ez13 => ?_)
    refine lv_iload_n hx hb dX12_ends_15 rfl (lv_at hl 1 rfl) ?_
    refine r_iadd hx hb dX12_ends_16 (by omega) (fun z14 ez14 => ?_)
    refine lv_dup2_11 hx hb dX12_ends_17 rfl rfl ?_
    obtain ⟨j15, ej15⟩ : ∃ j : Nat, z14.toInt = (j : Int) := ⟨_, ti_nat (by omega)⟩
    refine ad_ms (k := 389) (j := j15) hx hb hK hP (by decide) (by decide) ej15 (by omega) dX12_ends_18 ?_
    refine lv_aload_n hx hb dX12_ends_19 rfl (lv_at hl 0 rfl) ?_
    refine fg_12_25 (k := 387) hx hb hts in_X12_ends_12 hown hK hP (by decide) (by decide) (hts _ lk_X12_ends_59) dX12_ends_20 ?_
    refine lv_iload_n hx hb dX12_ends_23 rfl (lv_at hl 1 rfl) ?_
    obtain ⟨j16, ej16⟩ : ∃ j : Nat, x1.toInt = (j : Int) := ⟨_, ti_nat (by omega)⟩
    refine ad_mp8 (k := 397) (j := j16) hx hb hK hP (by decide) (by decide) ej16 (by omega) dX12_ends_24 ?_
    refine r_iaddU hx hb dX12_ends_25 (fun z17 => ?_)
    refine as_ms (k := 389) (j := j15) hx hb hK hP hI hR hS (by decide) (by decide) ej15 (by omega) (rx_ms_238 (by decide) (by decide) (by omega) (by omega)) dX12_ends_26 (fun σ18 H18 locs18 u18 v18 hR hP hS => ?_)
    have hF := hF.puts u18 1 rfl (by decide) (by decide) (by omega) (by omega)
    refine lv_aload_n hx hb dX12_ends_27 rfl (lv_at hl 0 rfl) ?_
    refine fg_12_6 (k := 387) hx hb hts in_X12_ends_12 hown hK hP (by decide) (by decide) (hts _ lk_X12_ends_33) dX12_ends_28 ?_
    refine r_sipush hx hb dX12_ends_31 (by decide) (fun z19 ez19 => ?_)
    refine lv_iload_n hx hb dX12_ends_34 rfl (lv_at hl 1 rfl) ?_
    refine r_iadd hx hb dX12_ends_35 (by omega) (fun z20 ez20 => ?_)
    refine r_iconst hx hb dX12_ends_36 (by decide) (fun z21 ez21 => ?_)
    obtain ⟨j22, ej22⟩ : ∃ j : Nat, z20.toInt = (j : Int) := ⟨_, ti_nat (by omega)⟩
    refine as_ms (k := 389) (j := j22) hx hb hK hP hI hR hS (by decide) (by decide) ej22 (by omega) (rw_ms_7 (by decide) (by decide) (by omega) (by omega) (by omega)) dX12_ends_37 (fun σ23 H23 locs23 u23 v23 hR hP hS => ?_)
    have hF := hF.puts u23 1 rfl (by decide) (by decide) (by omega) (by omega)
    refine r_iinc (k := 1) (lv1 := fun z24 => [(1, .int z24), (0, .ref (ad 387))]) hx hb dX12_ends_38 hl rfl (by decide) (fun _ => rfl) (by decide) (by omega) (fun z24 ls ez24 hl => ?_)
    refine lv_goto (tgt := 2) hx hb dX12_ends_41 (by decide) ?_
    exact K2 σ23 τ0 H23 locs23 z24 ls hR hF hFL hP hS (by omega) (lv_sub hl [1, 0] rfl) (by omega)
theorem A_X12_ends (p : Program) (l : Launch) (e : Env) (s : State) (m : MethodId) (args : Array Value) (below : List Frame) (meth : Method) (c : Code) (D : va_G) (cA : Nat → ClassId) (ad : Nat → Nat) (σ0 : Nat → Nat → Int32) (τ0 : Nat → Nat → Int64)  (C : Cy p s m args meth c cX12_ends 2 wsX12_ends RX12 D cA ad none)  : ∀ n : Nat, J_X12_ends_2 p l e s m args below meth c D cA ad σ0 τ0 n := by
  intro n
  induction n with
  | zero =>
    exact (by intro σ τ H locs x1 ls hR hF hFL hP hS hc0 hl hm; exfalso; omega)
  | succ n ih =>
    exact B_X12_ends_2 p l e s m args below meth c D cA ad σ0 τ0 n C  ih
set_option maxHeartbeats 4000000 in
theorem c_X12_ends (l : Launch) (D : va_G) (cA : Nat → ClassId) (ad : Nat → Nat) (hI : Inj ad) (σ0 : Nat → Nat → Int32) (τ0 : Nat → Nat → Int64) (hR : Rg σ0)   : Met l yX12_ends wsX12_ends ({ frames := 0, cells := 0, slots := 0, locals := 0 } : Room) (WQc D cA ad [.ref (ad 387)] σ0 τ0) (va_Qv (fun u : SS => P_X12_ends σ0 τ0 u.1 u.2) (WB D cA ad) (AA ad)) 0 0 (AA ad) := by
  refine Met.ofW (cc := cX12_ends) (maxL := 2) (ret := none) (by decide) rfl ?_
  intro p e s m args below meth c s₁ B hml hv
  obtain ⟨rfl, hP, hK, hN⟩ := hv
  have C : Cy p s m _ meth c cX12_ends 2 wsX12_ends RX12 D cA ad none := ⟨B.exec, B.bytes, hml, findClass_of_methodNamed B.named, atoms_spec (ws := wsX12_ends) B.pre, hK, B.notSynchronized, B.returns, hI, hN⟩
  have hl := lv_entry ([.ref (ad 387)]) (n := 2) (Nat.le_of_ble_eq_true rfl)
  rw [lg_entry_eq]
  generalize (lg_sl ([.ref (ad 387)]) ++ List.replicate (2 - (lg_sl ([.ref (ad 387)])).length) Slot.unset).toArray = ls at hl ⊢
  have hl : lv_has ls 2 [(0, .ref (ad 387))] := hl
  have hS : va_S (AA ad) s.heap s.heap [] := va_S.rf
  have hF : Fr L_X12_ends σ0 σ0 := Fr.rf
  have hFL : FrL LL_X12_ends τ0 τ0 := FrL.rf
  have hA := A_X12_ends p l e s m _ below meth c D cA ad σ0 τ0 C  42
  have K2 := hA
  clear hA
  obtain ⟨hx, hb, _, hown, hts, _, hk, hr, _, _⟩ := C
  refine r_iconst hx hb dX12_ends_0 (by decide) (fun z1 ez1 => ?_)
  refine lv_istore_n (lv' := [(1, .int z1), (0, .ref (ad 387))]) hx hb dX12_ends_1 rfl hl (by decide) rfl (fun ls hl => ?_)
  exact K2 σ0 τ0 s.heap [] z1 ls hR hF hFL hP hS (by omega) (lv_sub hl [1, 0] rfl) (by omega)
