abbrev L_X12_off : List Rc := []
abbrev LL_X12_off : List Rc := []
def P_X12_off (σ0 : Nat → Nat → Int32) (τ0 : Nat → Nat → Int64) (a0 : Int32) (a1 : Int32) (r : Int32) (σ : Nat → Nat → Int32) (τ : Nat → Nat → Int64) : Prop := Rg σ ∧ Fr L_X12_off σ0 σ ∧ FrL LL_X12_off τ0 τ
set_option maxHeartbeats 4000000 in
theorem c_X12_off (l : Launch) (D : va_G) (cA : Nat → ClassId) (ad : Nat → Nat) (hI : Inj ad) (σ0 : Nat → Nat → Int32) (τ0 : Nat → Nat → Int64) (hR : Rg σ0) (a0 : Int32) (a1 : Int32)  : Met l yX12_off wsX12_off ({ frames := 0, cells := 0, slots := 0, locals := 0 } : Room) (WQc D cA ad [.int a0, .int a1] σ0 τ0) (va_Qi (fun (r : Int32) (u : SS) => P_X12_off σ0 τ0 a0 a1 r u.1 u.2) (WB D cA ad) (AA ad)) 0 0 (AA ad) := by
  refine Met.ofW (cc := cX12_off) (maxL := 2) (ret := (some .int)) (by decide) rfl ?_
  intro p e s m args below meth c s₁ B hml hv
  obtain ⟨rfl, hP, hK, hN⟩ := hv
  have C : Cy p s m _ meth c cX12_off 2 wsX12_off RX12 D cA ad (some .int) := ⟨B.exec, B.bytes, hml, findClass_of_methodNamed B.named, atoms_spec (ws := wsX12_off) B.pre, hK, B.notSynchronized, B.returns, hI, hN⟩
  have hl := lv_entry ([.int a0, .int a1]) (n := 2) (Nat.le_of_ble_eq_true rfl)
  rw [lg_entry_eq]
  generalize (lg_sl ([.int a0, .int a1]) ++ List.replicate (2 - (lg_sl ([.int a0, .int a1])).length) Slot.unset).toArray = ls at hl ⊢
  have hl : lv_has ls 2 [(0, .int a0), (1, .int a1)] := hl
  have hS : va_S (AA ad) s.heap s.heap [] := va_S.rf
  have hF : Fr L_X12_off σ0 σ0 := Fr.rf
  have hFL : FrL LL_X12_off τ0 τ0 := FrL.rf
  obtain ⟨hx, hb, _, hown, hts, _, hk, hr, _, _⟩ := C
  refine lv_iload_n hx hb dX12_off_0 rfl (lv_at hl 0 rfl) ?_
  refine lv_iload_n hx hb dX12_off_1 rfl (lv_at hl 1 rfl) ?_
  refine r_icmp_ge (tgt := 11) hx hb dX12_off_2 (by decide) (fun c1 => ?_) (fun c1 => ?_)
  · refine lv_iload_n hx hb dX12_off_11 rfl (lv_at hl 0 rfl) ?_
    refine lv_iload_n hx hb dX12_off_12 rfl (lv_at hl 1 rfl) ?_
    refine r_isubU hx hb dX12_off_13 (fun z2 => ?_)
    exact r_iret hx hb hr hK hP hS hk dX12_off_14 (show P_X12_off σ0 τ0 a0 a1 z2 σ0 τ0 from ⟨hR, hF, hFL⟩)
  · refine lv_iload_n hx hb dX12_off_5 rfl (lv_at hl 1 rfl) ?_
    refine lv_iload_n hx hb dX12_off_6 rfl (lv_at hl 0 rfl) ?_
    refine r_isubU hx hb dX12_off_7 (fun z3 => ?_)
    refine lv_goto (tgt := 14) hx hb dX12_off_8 (by decide) ?_
    exact r_iret hx hb hr hK hP hS hk dX12_off_14 (show P_X12_off σ0 τ0 a0 a1 z3 σ0 τ0 from ⟨hR, hF, hFL⟩)
theorem in_X12_farOf_12 : ∀ w ∈ u_ws RX12 TX12 47, w ∈ wsX12_farOf := by decide +kernel
theorem lk_X12_farOf_33 : Cond.fieldLink RX12 33 "CuckooSharesModel" "s" "[I" ∈ wsX12_farOf := by decide +kernel
theorem lk_X12_farOf_50 : Cond.fieldLink RX12 50 "CuckooSharesModel" "px" "[I" ∈ wsX12_farOf := by decide +kernel
theorem lk_X12_farOf_53 : Cond.fieldLink RX12 53 "CuckooSharesModel" "py" "[I" ∈ wsX12_farOf := by decide +kernel
abbrev L_X12_farOf : List Rc := []
abbrev LL_X12_farOf : List Rc := []
def P_X12_farOf (σ0 : Nat → Nat → Int32) (τ0 : Nat → Nat → Int64) (a1 : Int32) (a2 : Int32) (a3 : Int32) (r : Int32) (σ : Nat → Nat → Int32) (τ : Nat → Nat → Int64) : Prop := Rg σ ∧ Fr L_X12_farOf σ0 σ ∧ FrL LL_X12_farOf τ0 τ
set_option maxHeartbeats 4000000 in
theorem c_X12_farOf (l : Launch) (D : va_G) (cA : Nat → ClassId) (ad : Nat → Nat) (hI : Inj ad) (σ0 : Nat → Nat → Int32) (τ0 : Nat → Nat → Int64) (hR : Rg σ0) (a1 : Int32) (a2 : Int32) (a3 : Int32) (ha1 : 0 ≤ a1.toInt ∧ a1.toInt ≤ 7) (ha2 : -1 ≤ a2.toInt ∧ a2.toInt ≤ 3) (ha3 : -1 ≤ a3.toInt ∧ a3.toInt ≤ 9) : Met l yX12_farOf wsX12_farOf ({ frames := 1, cells := 0, slots := 0, locals := 21 } : Room) (WQc D cA ad [.ref (ad 387), .int a1, .int a2, .int a3] σ0 τ0) (va_Qi (fun (r : Int32) (u : SS) => P_X12_farOf σ0 τ0 a1 a2 a3 r u.1 u.2) (WB D cA ad) (AA ad)) 0 0 (AA ad) := by
  refine Met.ofW (cc := cX12_farOf) (maxL := 4) (ret := (some .int)) (by decide) rfl ?_
  intro p e s m args below meth c s₁ B hml hv
  obtain ⟨rfl, hP, hK, hN⟩ := hv
  have C : Cy p s m _ meth c cX12_farOf 4 wsX12_farOf RX12 D cA ad (some .int) := ⟨B.exec, B.bytes, hml, findClass_of_methodNamed B.named, atoms_spec (ws := wsX12_farOf) B.pre, hK, B.notSynchronized, B.returns, hI, hN⟩
  have hl := lv_entry ([.ref (ad 387), .int a1, .int a2, .int a3]) (n := 4) (Nat.le_of_ble_eq_true rfl)
  rw [lg_entry_eq]
  generalize (lg_sl ([.ref (ad 387), .int a1, .int a2, .int a3]) ++ List.replicate (4 - (lg_sl ([.ref (ad 387), .int a1, .int a2, .int a3])).length) Slot.unset).toArray = ls at hl ⊢
  have hl : lv_has ls 4 [(0, .ref (ad 387)), (1, .int a1), (2, .int a2), (3, .int a3)] := hl
  have hS : va_S (AA ad) s.heap s.heap [] := va_S.rf
  have hF : Fr L_X12_farOf σ0 σ0 := Fr.rf
  have hFL : FrL LL_X12_farOf τ0 τ0 := FrL.rf
  obtain ⟨hx, hb, _, hown, hts, _, hk, hr, _, _⟩ := C
  refine lv_aload_n hx hb dX12_farOf_0 rfl (lv_at hl 0 rfl) ?_
  refine fg_12_22 (k := 387) hx hb hts in_X12_farOf_12 hown hK hP (by decide) (by decide) (hts _ lk_X12_farOf_50) dX12_farOf_1 ?_
  refine lv_iload_n hx hb dX12_farOf_4 rfl (lv_at hl 1 rfl) ?_
  obtain ⟨j1, ej1⟩ : ∃ j : Nat, a1.toInt = (j : Int) := ⟨_, ti_nat (by omega)⟩
  refine ad_mp8 (k := 394) (j := j1) hx hb hK hP (by decide) (by decide) ej1 (by omega) dX12_farOf_5 ?_
  refine lv_aload_n hx hb dX12_farOf_6 rfl (lv_at hl 0 rfl) ?_
  refine fg_12_6 (k := 387) hx hb hts in_X12_farOf_12 hown hK hP (by decide) (by decide) (hts _ lk_X12_farOf_33) dX12_farOf_7 ?_
  refine r_sipush hx hb dX12_farOf_10 (by decide) (fun z2 ez2 => ?_)
  refine r_bipush hx hb dX12_farOf_13 (by decide) (fun z3 ez3 => ?_)
  refine lv_iload_n hx hb dX12_farOf_15 rfl (lv_at hl 2 rfl) ?_
  refine r_imulL (n := 10) hx hb dX12_farOf_16 (by omega) (by omega) (fun z4 ez4 => ?_)
  refine r_iadd hx hb dX12_farOf_17 (by omega) (fun z5 ez5 => ?_)
  refine lv_iload_n hx hb dX12_farOf_18 rfl (lv_at hl 3 rfl) ?_
  refine r_iadd hx hb dX12_farOf_19 (by omega) (fun z6 ez6 => ?_)
  obtain ⟨j7, ej7⟩ : ∃ j : Nat, z6.toInt = (j : Int) := ⟨_, ti_nat (by omega)⟩
  refine ad_ms (k := 389) (j := j7) hx hb hK hP (by decide) (by decide) ej7 (by omega) dX12_farOf_20 ?_
  refine r_cSi (As := [.int (σ0 394 j1), .int (σ0 389 j7)]) (rest := []) ⟨hx, hb, hml, hown, hts⟩ hK hP hN hS (c_X12_off l D cA ad hI σ0 τ0 hR (σ0 394 j1) (σ0 389 j7)) (va_cwS 2 hts gX12_farOf_X12_off rfl rfl rfl (by decide +kernel) ⟨by decide, by decide⟩) rfl hl.1 rfl (Nat.le_of_ble_eq_true rfl) dX12_farOf_21 (Nat.zero_le _) (Nat.zero_le _) (fun r8 u8 H8 locs8 hp8 hP hS => ?_)
  obtain ⟨σ8, τ8⟩ := u8
  obtain ⟨hR, f8, fL8⟩ : P_X12_off σ0 τ0 (σ0 394 j1) (σ0 389 j7) r8 σ8 τ8 := hp8
  have hP : va_P D vwCl (gw cA ad σ8 τ8) H8 := hP
  obtain rfl := FrL.nil fL8
  obtain rfl := Fr.nil f8
  refine lv_aload_n hx hb dX12_farOf_24 rfl (lv_at hl 0 rfl) ?_
  refine fg_12_23 (k := 387) hx hb hts in_X12_farOf_12 hown hK hP (by decide) (by decide) (hts _ lk_X12_farOf_53) dX12_farOf_25 ?_
  refine lv_iload_n hx hb dX12_farOf_28 rfl (lv_at hl 1 rfl) ?_
  refine ad_mp8 (k := 395) (j := j1) hx hb hK hP (by decide) (by decide) ej1 (by omega) dX12_farOf_29 ?_
  refine lv_aload_n hx hb dX12_farOf_30 rfl (lv_at hl 0 rfl) ?_
  refine fg_12_6 (k := 387) hx hb hts in_X12_farOf_12 hown hK hP (by decide) (by decide) (hts _ lk_X12_farOf_33) dX12_farOf_31 ?_
  refine r_sipush hx hb dX12_farOf_34 (by decide) (fun z9 ez9 => ?_)
  refine r_bipush hx hb dX12_farOf_37 (by decide) (fun z10 ez10 => ?_)
  refine lv_iload_n hx hb dX12_farOf_39 rfl (lv_at hl 2 rfl) ?_
  refine r_imulL (n := 10) hx hb dX12_farOf_40 (by omega) (by omega) (fun z11 ez11 => ?_)
  refine r_iadd hx hb dX12_farOf_41 (by omega) (fun z12 ez12 => ?_)
  refine lv_iload_n hx hb dX12_farOf_42 rfl (lv_at hl 3 rfl) ?_
  refine r_iadd hx hb dX12_farOf_43 (by omega) (fun z13 ez13 => ?_)
  obtain ⟨j14, ej14⟩ : ∃ j : Nat, z13.toInt = (j : Int) := ⟨_, ti_nat (by omega)⟩
  refine ad_ms (k := 389) (j := j14) hx hb hK hP (by decide) (by decide) ej14 (by omega) dX12_farOf_44 ?_
  refine r_cSi (As := [.int (σ0 395 j1), .int (σ0 389 j14)]) (rest := [.int r8]) ⟨hx, hb, hml, hown, hts⟩ hK hP hN hS (c_X12_off l D cA ad hI σ0 τ0 hR (σ0 395 j1) (σ0 389 j14)) (va_cwS 2 hts gX12_farOf_X12_off rfl rfl rfl (by decide +kernel) ⟨by decide, by decide⟩) rfl hl.1 rfl (Nat.le_of_ble_eq_true rfl) dX12_farOf_45 (Nat.zero_le _) (Nat.zero_le _) (fun r15 u15 H15 locs15 hp15 hP hS => ?_)
  obtain ⟨σ15, τ15⟩ := u15
  obtain ⟨hR, f15, fL15⟩ : P_X12_off σ0 τ0 (σ0 395 j1) (σ0 389 j14) r15 σ15 τ15 := hp15
  have hP : va_P D vwCl (gw cA ad σ15 τ15) H15 := hP
  obtain rfl := FrL.nil fL15
  obtain rfl := Fr.nil f15
  refine r_iaddU hx hb dX12_farOf_48 (fun z16 => ?_)
  exact r_iret hx hb hr hK hP hS hk dX12_farOf_49 (show P_X12_farOf σ0 τ0 a1 a2 a3 z16 σ0 τ0 from ⟨hR, hF, hFL⟩)
theorem in_X12_isWindward_12 : ∀ w ∈ u_ws RX12 TX12 47, w ∈ wsX12_isWindward := by decide +kernel
theorem lk_X12_isWindward_33 : Cond.fieldLink RX12 33 "CuckooSharesModel" "s" "[I" ∈ wsX12_isWindward := by decide +kernel
theorem lk_X12_isWindward_50 : Cond.fieldLink RX12 50 "CuckooSharesModel" "px" "[I" ∈ wsX12_isWindward := by decide +kernel
theorem lk_X12_isWindward_53 : Cond.fieldLink RX12 53 "CuckooSharesModel" "py" "[I" ∈ wsX12_isWindward := by decide +kernel
abbrev L_X12_isWindward : List Rc := []
abbrev LL_X12_isWindward : List Rc := []
def P_X12_isWindward (σ0 : Nat → Nat → Int32) (τ0 : Nat → Nat → Int64) (a1 : Int32) (a2 : Int32) (a3 : Int32) (r : Int32) (σ : Nat → Nat → Int32) (τ : Nat → Nat → Int64) : Prop := Rg σ ∧ Fr L_X12_isWindward σ0 σ ∧ FrL LL_X12_isWindward τ0 τ ∧ (0 ≤ r.toInt ∧ r.toInt ≤ 1)
set_option maxHeartbeats 4000000 in
theorem c_X12_isWindward (l : Launch) (D : va_G) (cA : Nat → ClassId) (ad : Nat → Nat) (hI : Inj ad) (σ0 : Nat → Nat → Int32) (τ0 : Nat → Nat → Int64) (hR : Rg σ0) (a1 : Int32) (a2 : Int32) (a3 : Int32) (ha1 : 0 ≤ a1.toInt ∧ a1.toInt ≤ 7) (ha2 : -1 ≤ a2.toInt ∧ a2.toInt ≤ 3) (ha3 : -1 ≤ a3.toInt ∧ a3.toInt ≤ 9) : Met l yX12_isWindward wsX12_isWindward ({ frames := 0, cells := 0, slots := 0, locals := 0 } : Room) (WQc D cA ad [.ref (ad 387), .int a1, .int a2, .int a3] σ0 τ0) (va_Qi (fun (r : Int32) (u : SS) => P_X12_isWindward σ0 τ0 a1 a2 a3 r u.1 u.2) (WB D cA ad) (AA ad)) 0 0 (AA ad) := by
  refine Met.ofW (cc := cX12_isWindward) (maxL := 6) (ret := (some .boolean)) (by decide) rfl ?_
  intro p e s m args below meth c s₁ B hml hv
  obtain ⟨rfl, hP, hK, hN⟩ := hv
  have C : Cy p s m _ meth c cX12_isWindward 6 wsX12_isWindward RX12 D cA ad (some .boolean) := ⟨B.exec, B.bytes, hml, findClass_of_methodNamed B.named, atoms_spec (ws := wsX12_isWindward) B.pre, hK, B.notSynchronized, B.returns, hI, hN⟩
  have hl := lv_entry ([.ref (ad 387), .int a1, .int a2, .int a3]) (n := 6) (Nat.le_of_ble_eq_true rfl)
  rw [lg_entry_eq]
  generalize (lg_sl ([.ref (ad 387), .int a1, .int a2, .int a3]) ++ List.replicate (6 - (lg_sl ([.ref (ad 387), .int a1, .int a2, .int a3])).length) Slot.unset).toArray = ls at hl ⊢
  have hl : lv_has ls 6 [(0, .ref (ad 387)), (1, .int a1), (2, .int a2), (3, .int a3)] := hl
  have hS : va_S (AA ad) s.heap s.heap [] := va_S.rf
  have hF : Fr L_X12_isWindward σ0 σ0 := Fr.rf
  have hFL : FrL LL_X12_isWindward τ0 τ0 := FrL.rf
  obtain ⟨hx, hb, _, hown, hts, _, hk, hr, _, _⟩ := C
  refine lv_aload_n hx hb dX12_isWindward_0 rfl (lv_at hl 0 rfl) ?_
  refine fg_12_6 (k := 387) hx hb hts in_X12_isWindward_12 hown hK hP (by decide) (by decide) (hts _ lk_X12_isWindward_33) dX12_isWindward_1 ?_
  refine r_sipush hx hb dX12_isWindward_4 (by decide) (fun z1 ez1 => ?_)
  refine r_bipush hx hb dX12_isWindward_7 (by decide) (fun z2 ez2 => ?_)
  refine lv_iload_n hx hb dX12_isWindward_9 rfl (lv_at hl 2 rfl) ?_
  refine r_imulL (n := 10) hx hb dX12_isWindward_10 (by omega) (by omega) (fun z3 ez3 => ?_)
  refine r_iadd hx hb dX12_isWindward_11 (by omega) (fun z4 ez4 => ?_)
  refine lv_iload_n hx hb dX12_isWindward_12 rfl (lv_at hl 3 rfl) ?_
  refine r_iadd hx hb dX12_isWindward_13 (by omega) (fun z5 ez5 => ?_)
  obtain ⟨j6, ej6⟩ : ∃ j : Nat, z5.toInt = (j : Int) := ⟨_, ti_nat (by omega)⟩
  refine ad_ms (k := 389) (j := j6) hx hb hK hP (by decide) (by decide) ej6 (by omega) dX12_isWindward_14 ?_
  refine lv_istore (lv' := [(4, .int (σ0 389 j6)), (0, .ref (ad 387)), (1, .int a1), (2, .int a2), (3, .int a3)]) hx hb dX12_isWindward_15 hl (by decide) rfl (fun ls hl => ?_)
  refine lv_aload_n hx hb dX12_isWindward_17 rfl (lv_at hl 1 rfl) ?_
  refine fg_12_6 (k := 387) hx hb hts in_X12_isWindward_12 hown hK hP (by decide) (by decide) (hts _ lk_X12_isWindward_33) dX12_isWindward_18 ?_
  refine r_sipush hx hb dX12_isWindward_21 (by decide) (fun z7 ez7 => ?_)
  refine r_bipush hx hb dX12_isWindward_24 (by decide) (fun z8 ez8 => ?_)
  refine lv_iload_n hx hb dX12_isWindward_26 rfl (lv_at hl 3 rfl) ?_
  refine r_imulL (n := 10) hx hb dX12_isWindward_27 (by omega) (by omega) (fun z9 ez9 => ?_)
  refine r_iadd hx hb dX12_isWindward_28 (by omega) (fun z10 ez10 => ?_)
  refine lv_iload_n hx hb dX12_isWindward_29 rfl (lv_at hl 4 rfl) ?_
  refine r_iadd hx hb dX12_isWindward_30 (by omega) (fun z11 ez11 => ?_)
  obtain ⟨j12, ej12⟩ : ∃ j : Nat, z11.toInt = (j : Int) := ⟨_, ti_nat (by omega)⟩
  refine ad_ms (k := 389) (j := j12) hx hb hK hP (by decide) (by decide) ej12 (by omega) dX12_isWindward_31 ?_
  refine lv_istore (lv' := [(5, .int (σ0 389 j12)), (4, .int (σ0 389 j6)), (0, .ref (ad 387)), (1, .int a1), (2, .int a2), (3, .int a3)]) hx hb dX12_isWindward_32 hl (by decide) rfl (fun ls hl => ?_)
  refine lv_aload_n hx hb dX12_isWindward_34 rfl (lv_at hl 2 rfl) ?_
  refine fg_12_6 (k := 387) hx hb hts in_X12_isWindward_12 hown hK hP (by decide) (by decide) (hts _ lk_X12_isWindward_33) dX12_isWindward_35 ?_
  refine r_iconst hx hb dX12_isWindward_38 (by decide) (fun z13 ez13 => ?_)
  refine ad_ms (k := 389) (j := 5) hx hb hK hP (by decide) (by decide) (by omega) (by omega) dX12_isWindward_39 ?_
  refine r_if_ne (tgt := 62) hx hb dX12_isWindward_40 (by decide) (fun c14 => ?_) (fun c14 => ?_)
  · refine lv_aload_n hx hb dX12_isWindward_62 rfl (lv_at hl 2 rfl) ?_
    refine fg_12_6 (k := 387) hx hb hts in_X12_isWindward_12 hown hK hP (by decide) (by decide) (hts _ lk_X12_isWindward_33) dX12_isWindward_63 ?_
    refine r_iconst hx hb dX12_isWindward_66 (by decide) (fun z15 ez15 => ?_)
    refine ad_ms (k := 389) (j := 5) hx hb hK hP (by decide) (by decide) (by omega) (by omega) dX12_isWindward_67 ?_
    refine r_iconst hx hb dX12_isWindward_68 (by decide) (fun z16 ez16 => ?_)
    refine r_icmp_ne (tgt := 91) hx hb dX12_isWindward_69 (by decide) (fun c17 => ?_) (fun c17 => ?_)
    · refine lv_aload_n hx hb dX12_isWindward_91 rfl (lv_at hl 2 rfl) ?_
      refine fg_12_6 (k := 387) hx hb hts in_X12_isWindward_12 hown hK hP (by decide) (by decide) (hts _ lk_X12_isWindward_33) dX12_isWindward_92 ?_
      refine r_iconst hx hb dX12_isWindward_95 (by decide) (fun z18 ez18 => ?_)
      refine ad_ms (k := 389) (j := 5) hx hb hK hP (by decide) (by decide) (by omega) (by omega) dX12_isWindward_96 ?_
      refine r_iconst hx hb dX12_isWindward_97 (by decide) (fun z19 ez19 => ?_)
      refine r_icmp_ne (tgt := 120) hx hb dX12_isWindward_98 (by decide) (fun c20 => ?_) (fun c20 => ?_)
      · refine lv_aload_n hx hb dX12_isWindward_120 rfl (lv_at hl 2 rfl) ?_
        refine fg_12_22 (k := 387) hx hb hts in_X12_isWindward_12 hown hK hP (by decide) (by decide) (hts _ lk_X12_isWindward_50) dX12_isWindward_121 ?_
        refine lv_iload_n hx hb dX12_isWindward_124 rfl (lv_at hl 3 rfl) ?_
        obtain ⟨j21, ej21⟩ : ∃ j : Nat, a1.toInt = (j : Int) := ⟨_, ti_nat (by omega)⟩
        refine ad_mp8 (k := 394) (j := j21) hx hb hK hP (by decide) (by decide) ej21 (by omega) dX12_isWindward_125 ?_
        refine lv_iload hx hb dX12_isWindward_126 (lv_at hl 1 rfl) ?_
        refine r_icmp_ge (tgt := 135) hx hb dX12_isWindward_128 (by decide) (fun c22 => ?_) (fun c22 => ?_)
        · refine r_iconst hx hb dX12_isWindward_135 (by decide) (fun z23 ez23 => ?_)
          exact r_zret hx hb hr hK hP hS hk (by omega) dX12_isWindward_136 (show P_X12_isWindward σ0 τ0 a1 a2 a3 z23 σ0 τ0 from ⟨hR, hF, hFL, by omega⟩)
        · refine r_iconst hx hb dX12_isWindward_131 (by decide) (fun z24 ez24 => ?_)
          refine lv_goto (tgt := 136) hx hb dX12_isWindward_132 (by decide) ?_
          exact r_zret hx hb hr hK hP hS hk (by omega) dX12_isWindward_136 (show P_X12_isWindward σ0 τ0 a1 a2 a3 z24 σ0 τ0 from ⟨hR, hF, hFL, by omega⟩)
      · refine lv_aload_n hx hb dX12_isWindward_101 rfl (lv_at hl 2 rfl) ?_
        refine fg_12_23 (k := 387) hx hb hts in_X12_isWindward_12 hown hK hP (by decide) (by decide) (hts _ lk_X12_isWindward_53) dX12_isWindward_102 ?_
        refine lv_iload_n hx hb dX12_isWindward_105 rfl (lv_at hl 3 rfl) ?_
        obtain ⟨j25, ej25⟩ : ∃ j : Nat, a1.toInt = (j : Int) := ⟨_, ti_nat (by omega)⟩
        refine ad_mp8 (k := 395) (j := j25) hx hb hK hP (by decide) (by decide) ej25 (by omega) dX12_isWindward_106 ?_
        refine lv_iload hx hb dX12_isWindward_107 (lv_at hl 0 rfl) ?_
        refine r_icmp_le (tgt := 116) hx hb dX12_isWindward_109 (by decide) (fun c26 => ?_) (fun c26 => ?_)
        · refine r_iconst hx hb dX12_isWindward_116 (by decide) (fun z27 ez27 => ?_)
          refine lv_goto (tgt := 136) hx hb dX12_isWindward_117 (by decide) ?_
          exact r_zret hx hb hr hK hP hS hk (by omega) dX12_isWindward_136 (show P_X12_isWindward σ0 τ0 a1 a2 a3 z27 σ0 τ0 from ⟨hR, hF, hFL, by omega⟩)
        · refine r_iconst hx hb dX12_isWindward_112 (by decide) (fun z28 ez28 => ?_)
          refine lv_goto (tgt := 136) hx hb dX12_isWindward_113 (by decide) ?_
          exact r_zret hx hb hr hK hP hS hk (by omega) dX12_isWindward_136 (show P_X12_isWindward σ0 τ0 a1 a2 a3 z28 σ0 τ0 from ⟨hR, hF, hFL, by omega⟩)
    · refine lv_aload_n hx hb dX12_isWindward_72 rfl (lv_at hl 2 rfl) ?_
      refine fg_12_22 (k := 387) hx hb hts in_X12_isWindward_12 hown hK hP (by decide) (by decide) (hts _ lk_X12_isWindward_50) dX12_isWindward_73 ?_
      refine lv_iload_n hx hb dX12_isWindward_76 rfl (lv_at hl 3 rfl) ?_
      obtain ⟨j29, ej29⟩ : ∃ j : Nat, a1.toInt = (j : Int) := ⟨_, ti_nat (by omega)⟩
      refine ad_mp8 (k := 394) (j := j29) hx hb hK hP (by decide) (by decide) ej29 (by omega) dX12_isWindward_77 ?_
      refine lv_iload hx hb dX12_isWindward_78 (lv_at hl 1 rfl) ?_
      refine r_icmp_le (tgt := 87) hx hb dX12_isWindward_80 (by decide) (fun c30 => ?_) (fun c30 => ?_)
      · refine r_iconst hx hb dX12_isWindward_87 (by decide) (fun z31 ez31 => ?_)
        refine lv_goto (tgt := 136) hx hb dX12_isWindward_88 (by decide) ?_
        exact r_zret hx hb hr hK hP hS hk (by omega) dX12_isWindward_136 (show P_X12_isWindward σ0 τ0 a1 a2 a3 z31 σ0 τ0 from ⟨hR, hF, hFL, by omega⟩)
      · refine r_iconst hx hb dX12_isWindward_83 (by decide) (fun z32 ez32 => ?_)
        refine lv_goto (tgt := 136) hx hb dX12_isWindward_84 (by decide) ?_
        exact r_zret hx hb hr hK hP hS hk (by omega) dX12_isWindward_136 (show P_X12_isWindward σ0 τ0 a1 a2 a3 z32 σ0 τ0 from ⟨hR, hF, hFL, by omega⟩)
  · refine lv_aload_n hx hb dX12_isWindward_43 rfl (lv_at hl 2 rfl) ?_
    refine fg_12_23 (k := 387) hx hb hts in_X12_isWindward_12 hown hK hP (by decide) (by decide) (hts _ lk_X12_isWindward_53) dX12_isWindward_44 ?_
    refine lv_iload_n hx hb dX12_isWindward_47 rfl (lv_at hl 3 rfl) ?_
    obtain ⟨j33, ej33⟩ : ∃ j : Nat, a1.toInt = (j : Int) := ⟨_, ti_nat (by omega)⟩
    refine ad_mp8 (k := 395) (j := j33) hx hb hK hP (by decide) (by decide) ej33 (by omega) dX12_isWindward_48 ?_
    refine lv_iload hx hb dX12_isWindward_49 (lv_at hl 0 rfl) ?_
    refine r_icmp_ge (tgt := 58) hx hb dX12_isWindward_51 (by decide) (fun c34 => ?_) (fun c34 => ?_)
    · refine r_iconst hx hb dX12_isWindward_58 (by decide) (fun z35 ez35 => ?_)
      refine lv_goto (tgt := 136) hx hb dX12_isWindward_59 (by decide) ?_
      exact r_zret hx hb hr hK hP hS hk (by omega) dX12_isWindward_136 (show P_X12_isWindward σ0 τ0 a1 a2 a3 z35 σ0 τ0 from ⟨hR, hF, hFL, by omega⟩)
    · refine r_iconst hx hb dX12_isWindward_54 (by decide) (fun z36 ez36 => ?_)
      refine lv_goto (tgt := 136) hx hb dX12_isWindward_55 (by decide) ?_
      exact r_zret hx hb hr hK hP hS hk (by omega) dX12_isWindward_136 (show P_X12_isWindward σ0 τ0 a1 a2 a3 z36 σ0 τ0 from ⟨hR, hF, hFL, by omega⟩)
theorem in_X12_canHear_12 : ∀ w ∈ u_ws RX12 TX12 47, w ∈ wsX12_canHear := by decide +kernel
theorem lk_X12_canHear_33 : Cond.fieldLink RX12 33 "CuckooSharesModel" "s" "[I" ∈ wsX12_canHear := by decide +kernel
theorem lk_X12_canHear_50 : Cond.fieldLink RX12 50 "CuckooSharesModel" "px" "[I" ∈ wsX12_canHear := by decide +kernel
theorem lk_X12_canHear_56 : Cond.fieldLink RX12 56 "CuckooSharesModel" "pf" "[I" ∈ wsX12_canHear := by decide +kernel
abbrev L_X12_canHear : List Rc := []
abbrev LL_X12_canHear : List Rc := []
def P_X12_canHear (σ0 : Nat → Nat → Int32) (τ0 : Nat → Nat → Int64) (a1 : Int32) (a2 : Int32) (a3 : Int32) (r : Int32) (σ : Nat → Nat → Int32) (τ : Nat → Nat → Int64) : Prop := Rg σ ∧ Fr L_X12_canHear σ0 σ ∧ FrL LL_X12_canHear τ0 τ ∧ (0 ≤ r.toInt ∧ r.toInt ≤ 1)
def J_X12_canHear_27 (p : Program) (l : Launch) (e : Env) (s : State) (m : MethodId) (args : Array Value) (below : List Frame) (meth : Method) (c : Code) (D : va_G) (cA : Nat → ClassId) (ad : Nat → Nat) (σ0 : Nat → Nat → Int32) (τ0 : Nat → Nat → Int64) (a1 : Int32) (a2 : Int32) (a3 : Int32) (n : Nat) : Prop := ∀ (σ : Nat → Nat → Int32) (τ : Nat → Nat → Int64) (H : Heap) (locs : List Loc) (w0 : Int32) (ls : Array Slot), Rg σ → Fr L_X12_canHear σ0 σ → FrL LL_X12_canHear τ0 τ → va_P D vwCl (gw cA ad σ τ) H → va_S (AA ad) s.heap H locs → (0 ≤ w0.toInt ∧ w0.toInt ≤ 7) → lv_has ls 6 [(0, .ref (ad 387)), (1, .int a1), (2, .int a2), (3, .int a3)] → 3 < (n : Int) → W p l e ({ frames := 2, cells := 0, slots := 0, locals := 44 } : Room) s m args below meth c H locs 0 0 (MQ below (va_Qi (fun (r : Int32) (u : SS) => P_X12_canHear σ0 τ0 a1 a2 a3 r u.1 u.2) (WB D cA ad) (AA ad)) args s 0 0 (AA ad)) (F0 m 27 ls [.int w0])
def J_X12_canHear_50 (p : Program) (l : Launch) (e : Env) (s : State) (m : MethodId) (args : Array Value) (below : List Frame) (meth : Method) (c : Code) (D : va_G) (cA : Nat → ClassId) (ad : Nat → Nat) (σ0 : Nat → Nat → Int32) (τ0 : Nat → Nat → Int64) (a1 : Int32) (a2 : Int32) (a3 : Int32) (n : Nat) : Prop := ∀ (σ : Nat → Nat → Int32) (τ : Nat → Nat → Int64) (H : Heap) (locs : List Loc) (x4 : Int32) (ls : Array Slot), Rg σ → Fr L_X12_canHear σ0 σ → FrL LL_X12_canHear τ0 τ → va_P D vwCl (gw cA ad σ τ) H → va_S (AA ad) s.heap H locs → (0 ≤ x4.toInt ∧ x4.toInt ≤ 7) → lv_has ls 6 [(0, .ref (ad 387)), (1, .int a1), (2, .int a2), (3, .int a3), (4, .int x4)] → 2 < (n : Int) → W p l e ({ frames := 2, cells := 0, slots := 0, locals := 44 } : Room) s m args below meth c H locs 0 0 (MQ below (va_Qi (fun (r : Int32) (u : SS) => P_X12_canHear σ0 τ0 a1 a2 a3 r u.1 u.2) (WB D cA ad) (AA ad)) args s 0 0 (AA ad)) (F0 m 50 ls [])
def J_X12_canHear_100 (p : Program) (l : Launch) (e : Env) (s : State) (m : MethodId) (args : Array Value) (below : List Frame) (meth : Method) (c : Code) (D : va_G) (cA : Nat → ClassId) (ad : Nat → Nat) (σ0 : Nat → Nat → Int32) (τ0 : Nat → Nat → Int64) (a1 : Int32) (a2 : Int32) (a3 : Int32) (n : Nat) : Prop := ∀ (σ : Nat → Nat → Int32) (τ : Nat → Nat → Int64) (H : Heap) (locs : List Loc) (x4 : Int32) (w0 : Int32) (w1 : Int32) (ls : Array Slot), Rg σ → Fr L_X12_canHear σ0 σ → FrL LL_X12_canHear τ0 τ → va_P D vwCl (gw cA ad σ τ) H → va_S (AA ad) s.heap H locs → (0 ≤ x4.toInt ∧ x4.toInt ≤ 7) → lv_has ls 6 [(0, .ref (ad 387)), (1, .int a1), (2, .int a2), (3, .int a3), (4, .int x4)] → 1 < (n : Int) → W p l e ({ frames := 2, cells := 0, slots := 0, locals := 44 } : Room) s m args below meth c H locs 0 0 (MQ below (va_Qi (fun (r : Int32) (u : SS) => P_X12_canHear σ0 τ0 a1 a2 a3 r u.1 u.2) (WB D cA ad) (AA ad)) args s 0 0 (AA ad)) (F0 m 100 ls [.int w1, .int w0])
set_option maxHeartbeats 4000000 in
theorem B_X12_canHear_27 (p : Program) (l : Launch) (e : Env) (s : State) (m : MethodId) (args : Array Value) (below : List Frame) (meth : Method) (c : Code) (D : va_G) (cA : Nat → ClassId) (ad : Nat → Nat) (σ0 : Nat → Nat → Int32) (τ0 : Nat → Nat → Int64) (a1 : Int32) (a2 : Int32) (a3 : Int32) (n : Nat) (C : Cy p s m args meth c cX12_canHear 6 wsX12_canHear RX12 D cA ad (some .boolean)) (ha1 : 0 ≤ a1.toInt ∧ a1.toInt ≤ 7) (ha2 : -1 ≤ a2.toInt ∧ a2.toInt ≤ 3) (ha3 : -1 ≤ a3.toInt ∧ a3.toInt ≤ 9) (K27 : J_X12_canHear_27 p l e s m args below meth c D cA ad σ0 τ0 a1 a2 a3 n) (K50 : J_X12_canHear_50 p l e s m args below meth c D cA ad σ0 τ0 a1 a2 a3 n) (K100 : J_X12_canHear_100 p l e s m args below meth c D cA ad σ0 τ0 a1 a2 a3 n) : J_X12_canHear_27 p l e s m args below meth c D cA ad σ0 τ0 a1 a2 a3 (n + 1) := by
  obtain ⟨hx, hb, hml, hown, hts, hK, hk, hr, hI, hN⟩ := C
  intro σ τ H locs w0 ls hR hF hFL hP hS hc0 hl hm
  obtain rfl := Fr.nil hF
  obtain rfl := FrL.nil hFL
  refine lv_istore (lv' := [(4, .int w0), (0, .ref (ad 387)), (1, .int a1), (2, .int a2), (3, .int a3)]) hx hb dX12_canHear_27 hl (by decide) rfl (fun ls hl => ?_)
  refine lv_iload hx hb dX12_canHear_29 (lv_at hl 0 rfl) ?_
  refine lv_iload_n hx hb dX12_canHear_31 rfl (lv_at hl 2 rfl) ?_
  refine r_icmp_eq (tgt := 50) hx hb dX12_canHear_32 (by decide) (fun c1 => ?_) (fun c1 => ?_)
  · exact K50 σ0 τ0 H locs w0 ls hR hF hFL hP hS (by omega) (lv_sub hl [1, 2, 3, 4, 0] rfl) (by omega)
  · refine lv_aload_n hx hb dX12_canHear_35 rfl (lv_at hl 1 rfl) ?_
    refine fg_12_6 (k := 387) hx hb hts in_X12_canHear_12 hown hK hP (by decide) (by decide) (hts _ lk_X12_canHear_33) dX12_canHear_36 ?_
    refine r_bipush hx hb dX12_canHear_39 (by decide) (fun z2 ez2 => ?_)
    refine lv_iload hx hb dX12_canHear_41 (lv_at hl 0 rfl) ?_
    refine r_iadd hx hb dX12_canHear_43 (by omega) (fun z3 ez3 => ?_)
    obtain ⟨j4, ej4⟩ : ∃ j : Nat, z3.toInt = (j : Int) := ⟨_, ti_nat (by omega)⟩
    refine ad_ms (k := 389) (j := j4) hx hb hK hP (by decide) (by decide) ej4 (by omega) dX12_canHear_44 ?_
    have hr5 := ra_ms_3 hR (k := 389) (j := j4) (by decide) (by decide) (by omega) (by omega)
    refine r_if_le (tgt := 50) hx hb dX12_canHear_45 (by decide) (fun c6 => ?_) (fun c6 => ?_)
    · exact K50 σ0 τ0 H locs w0 ls hR hF hFL hP hS (by omega) (lv_sub hl [1, 2, 3, 4, 0] rfl) (by omega)
    · refine r_iconst hx hb dX12_canHear_48 (by decide) (fun z7 ez7 => ?_)
      exact r_zret hx hb hr hK hP hS hk (by omega) dX12_canHear_49 (show P_X12_canHear σ0 τ0 a1 a2 a3 z7 σ0 τ0 from ⟨hR, hF, hFL, by omega⟩)
set_option maxHeartbeats 4000000 in
theorem B_X12_canHear_50 (p : Program) (l : Launch) (e : Env) (s : State) (m : MethodId) (args : Array Value) (below : List Frame) (meth : Method) (c : Code) (D : va_G) (cA : Nat → ClassId) (ad : Nat → Nat) (σ0 : Nat → Nat → Int32) (τ0 : Nat → Nat → Int64) (a1 : Int32) (a2 : Int32) (a3 : Int32) (n : Nat) (C : Cy p s m args meth c cX12_canHear 6 wsX12_canHear RX12 D cA ad (some .boolean)) (ha1 : 0 ≤ a1.toInt ∧ a1.toInt ≤ 7) (ha2 : -1 ≤ a2.toInt ∧ a2.toInt ≤ 3) (ha3 : -1 ≤ a3.toInt ∧ a3.toInt ≤ 9) (K27 : J_X12_canHear_27 p l e s m args below meth c D cA ad σ0 τ0 a1 a2 a3 n) (K50 : J_X12_canHear_50 p l e s m args below meth c D cA ad σ0 τ0 a1 a2 a3 n) (K100 : J_X12_canHear_100 p l e s m args below meth c D cA ad σ0 τ0 a1 a2 a3 n) : J_X12_canHear_50 p l e s m args below meth c D cA ad σ0 τ0 a1 a2 a3 (n + 1) := by
  obtain ⟨hx, hb, hml, hown, hts, hK, hk, hr, hI, hN⟩ := C
  intro σ τ H locs x4 ls hR hF hFL hP hS hc0 hl hm
  obtain rfl := Fr.nil hF
  obtain rfl := FrL.nil hFL
  refine lv_aload_n hx hb dX12_canHear_50 rfl (lv_at hl 0 rfl) ?_
  refine fg_12_6 (k := 387) hx hb hts in_X12_canHear_12 hown hK hP (by decide) (by decide) (hts _ lk_X12_canHear_33) dX12_canHear_51 ?_
  refine r_bipush hx hb dX12_canHear_54 (by decide) (fun z1 ez1 => ?_)
  refine lv_iload hx hb dX12_canHear_56 (lv_at hl 4 rfl) ?_
  refine r_iadd hx hb dX12_canHear_58 (by omega) (fun z2 ez2 => ?_)
  obtain ⟨j3, ej3⟩ : ∃ j : Nat, z2.toInt = (j : Int) := ⟨_, ti_nat (by omega)⟩
  refine ad_ms (k := 389) (j := j3) hx hb hK hP (by decide) (by decide) ej3 (by omega) dX12_canHear_59 ?_
  refine lv_aload_n hx hb dX12_canHear_60 rfl (lv_at hl 0 rfl) ?_
  refine fg_12_6 (k := 387) hx hb hts in_X12_canHear_12 hown hK hP (by decide) (by decide) (hts _ lk_X12_canHear_33) dX12_canHear_61 ?_
  refine r_bipush hx hb dX12_canHear_64 (by decide) (fun z4 ez4 => ?_)
  refine lv_iload_n hx hb dX12_canHear_66 rfl (lv_at hl 2 rfl) ?_
  refine r_iadd hx hb dX12_canHear_67 (by omega) (fun z5 ez5 => ?_)
  obtain ⟨j6, ej6⟩ : ∃ j : Nat, z5.toInt = (j : Int) := ⟨_, ti_nat (by omega)⟩
  refine ad_ms (k := 389) (j := j6) hx hb hK hP (by decide) (by decide) ej6 (by omega) dX12_canHear_68 ?_
  refine r_iaddU hx hb dX12_canHear_69 (fun z7 => ?_)
  refine lv_aload_n hx hb dX12_canHear_70 rfl (lv_at hl 0 rfl) ?_
  refine fg_12_24 (k := 387) hx hb hts in_X12_canHear_12 hown hK hP (by decide) (by decide) (hts _ lk_X12_canHear_56) dX12_canHear_71 ?_
  refine lv_iload hx hb dX12_canHear_74 (lv_at hl 4 rfl) ?_
  obtain ⟨j8, ej8⟩ : ∃ j : Nat, x4.toInt = (j : Int) := ⟨_, ti_nat (by omega)⟩
  refine ad_mp8 (k := 396) (j := j8) hx hb hK hP (by decide) (by decide) ej8 (by omega) dX12_canHear_76 ?_
  refine r_isubU hx hb dX12_canHear_77 (fun z9 => ?_)
  refine lv_aload_n hx hb dX12_canHear_78 rfl (lv_at hl 0 rfl) ?_
  refine lv_iload hx hb dX12_canHear_79 (lv_at hl 4 rfl) ?_
  refine lv_iload_n hx hb dX12_canHear_81 rfl (lv_at hl 2 rfl) ?_
  refine lv_iload_n hx hb dX12_canHear_82 rfl (lv_at hl 3 rfl) ?_
  refine r_cVi (k := 387) (As := [.int x4, .int a2, .int a3]) (rest := [.int z9]) ⟨hx, hb, hml, hown, hts⟩ hK hP hN hS (c_X12_isWindward l D cA ad hI σ0 τ0 hR x4 a2 a3 (by omega) (by omega) (by omega)) (cwV 3 hts gX12_canHear_X12_isWindward rfl rfl rfl (by decide +kernel) ⟨by decide, by decide⟩) (rv_M hK hP (by decide) (by decide)) rfl hl.1 rfl (Nat.le_of_ble_eq_true rfl) dX12_canHear_83 (Nat.zero_le _) (Nat.zero_le _) (fun r10 u10 H10 locs10 hp10 hP hS => ?_)
  obtain ⟨σ10, τ10⟩ := u10
  obtain ⟨hR, f10, fL10, hq10⟩ : P_X12_isWindward σ0 τ0 x4 a2 a3 r10 σ10 τ10 := hp10
  have hP : va_P D vwCl (gw cA ad σ10 τ10) H10 := hP
  obtain rfl := FrL.nil fL10
  obtain rfl := Fr.nil f10
  refine r_if_eq (tgt := 99) hx hb dX12_canHear_86 (by decide) (fun c11 => ?_) (fun c11 => ?_)
  · refine r_iconst hx hb dX12_canHear_99 (by decide) (fun z12 ez12 => ?_)
    exact K100 σ0 τ0 H10 locs10 x4 z9 z12 ls hR hF hFL hP hS (by omega) (lv_sub hl [0, 1, 2, 3, 4] rfl) (by omega)
  · refine lv_aload_n hx hb dX12_canHear_89 rfl (lv_at hl 0 rfl) ?_
    refine fg_12_6 (k := 387) hx hb hts in_X12_canHear_12 hown hK hP (by decide) (by decide) (hts _ lk_X12_canHear_33) dX12_canHear_90 ?_
    refine r_bipush hx hb dX12_canHear_93 (by decide) (fun z13 ez13 => ?_)
    refine ad_ms (k := 389) (j := 6) hx hb hK hP (by decide) (by decide) (by omega) (by omega) dX12_canHear_95 ?_
    refine lv_goto (tgt := 100) hx hb dX12_canHear_96 (by decide) ?_
    exact K100 σ0 τ0 H10 locs10 x4 z9 (σ0 389 6) ls hR hF hFL hP hS (by omega) (lv_sub hl [0, 1, 2, 3, 4] rfl) (by omega)
set_option maxHeartbeats 4000000 in
theorem B_X12_canHear_100 (p : Program) (l : Launch) (e : Env) (s : State) (m : MethodId) (args : Array Value) (below : List Frame) (meth : Method) (c : Code) (D : va_G) (cA : Nat → ClassId) (ad : Nat → Nat) (σ0 : Nat → Nat → Int32) (τ0 : Nat → Nat → Int64) (a1 : Int32) (a2 : Int32) (a3 : Int32) (n : Nat) (C : Cy p s m args meth c cX12_canHear 6 wsX12_canHear RX12 D cA ad (some .boolean)) (ha1 : 0 ≤ a1.toInt ∧ a1.toInt ≤ 7) (ha2 : -1 ≤ a2.toInt ∧ a2.toInt ≤ 3) (ha3 : -1 ≤ a3.toInt ∧ a3.toInt ≤ 9) (K27 : J_X12_canHear_27 p l e s m args below meth c D cA ad σ0 τ0 a1 a2 a3 n) (K50 : J_X12_canHear_50 p l e s m args below meth c D cA ad σ0 τ0 a1 a2 a3 n) (K100 : J_X12_canHear_100 p l e s m args below meth c D cA ad σ0 τ0 a1 a2 a3 n) : J_X12_canHear_100 p l e s m args below meth c D cA ad σ0 τ0 a1 a2 a3 (n + 1) := by
  obtain ⟨hx, hb, hml, hown, hts, hK, hk, hr, hI, hN⟩ := C
  intro σ τ H locs x4 w0 w1 ls hR hF hFL hP hS hc0 hl hm
  obtain rfl := Fr.nil hF
  obtain rfl := FrL.nil hFL
  refine r_iaddU hx hb dX12_canHear_100 (fun z1 => ?_)
  refine lv_istore (lv' := [(5, .int z1), (0, .ref (ad 387)), (1, .int a1), (2, .int a2), (3, .int a3), (4, .int x4)]) hx hb dX12_canHear_101 hl (by decide) rfl (fun ls hl => ?_)
  refine lv_aload_n hx hb dX12_canHear_103 rfl (lv_at hl 1 rfl) ?_
  refine lv_aload_n hx hb dX12_canHear_104 rfl (lv_at hl 1 rfl) ?_
  refine fg_12_22 (k := 387) hx hb hts in_X12_canHear_12 hown hK hP (by decide) (by decide) (hts _ lk_X12_canHear_50) dX12_canHear_105 ?_
  refine lv_iload hx hb dX12_canHear_108 (lv_at hl 5 rfl) ?_
  obtain ⟨j2, ej2⟩ : ∃ j : Nat, x4.toInt = (j : Int) := ⟨_, ti_nat (by omega)⟩
  refine ad_mp8 (k := 394) (j := j2) hx hb hK hP (by decide) (by decide) ej2 (by omega) dX12_canHear_110 ?_
  refine r_cVi (k := 387) (As := [.int (σ0 394 j2)]) (rest := []) ⟨hx, hb, hml, hown, hts⟩ hK hP hN hS (c_X12_valleyOf l D cA ad hI σ0 τ0 hR (σ0 394 j2)) (cwV 1 hts gX12_canHear_X12_valleyOf rfl rfl rfl (by decide +kernel) ⟨by decide, by decide⟩) (rv_M hK hP (by decide) (by decide)) rfl hl.1 rfl (Nat.le_of_ble_eq_true rfl) dX12_canHear_111 (Nat.zero_le _) (Nat.zero_le _) (fun r3 u3 H3 locs3 hp3 hP hS => ?_)
  obtain ⟨σ3, τ3⟩ := u3
  obtain ⟨hR, f3, fL3, hq3, hp3_0⟩ : P_X12_valleyOf σ0 τ0 (σ0 394 j2) r3 σ3 τ3 := hp3
  have hP : va_P D vwCl (gw cA ad σ3 τ3) H3 := hP
  obtain rfl := FrL.nil fL3
  obtain rfl := Fr.nil f3
  refine lv_aload_n hx hb dX12_canHear_114 rfl (lv_at hl 1 rfl) ?_
  refine lv_aload_n hx hb dX12_canHear_115 rfl (lv_at hl 1 rfl) ?_
  refine fg_12_6 (k := 387) hx hb hts in_X12_canHear_12 hown hK hP (by decide) (by decide) (hts _ lk_X12_canHear_33) dX12_canHear_116 ?_
  refine r_sipush hx hb dX12_canHear_119 (by decide) (fun z4 ez4 => ?_)
  refine r_bipush hx hb dX12_canHear_122 (by decide) (fun z5 ez5 => ?_)
  refine lv_iload_n hx hb dX12_canHear_124 rfl (lv_at hl 3 rfl) ?_
  refine r_imulL (n := 10) hx hb dX12_canHear_125 (by omega) (by omega) (fun z6 ez6 => ?_)
  refine r_iadd hx hb dX12_canHear_126 (by omega) (fun z7 ez7 => ?_)
  refine lv_iload_n hx hb dX12_canHear_127 rfl (lv_at hl 4 rfl) ?_
  refine r_iadd hx hb dX12_canHear_128 (by omega) (fun z8 ez8 => ?_)
  obtain ⟨j9, ej9⟩ : ∃ j : Nat, z8.toInt = (j : Int) := ⟨_, ti_nat (by omega)⟩
  refine ad_ms (k := 389) (j := j9) hx hb hK hP (by decide) (by decide) ej9 (by omega) dX12_canHear_129 ?_
  refine r_cVi (k := 387) (As := [.int (σ0 389 j9)]) (rest := [.int r3]) ⟨hx, hb, hml, hown, hts⟩ hK hP hN hS (c_X12_valleyOf l D cA ad hI σ0 τ0 hR (σ0 389 j9)) (cwV 1 hts gX12_canHear_X12_valleyOf rfl rfl rfl (by decide +kernel) ⟨by decide, by decide⟩) (rv_M hK hP (by decide) (by decide)) rfl hl.1 rfl (Nat.le_of_ble_eq_true rfl) dX12_canHear_130 (Nat.zero_le _) (Nat.zero_le _) (fun r10 u10 H10 locs10 hp10 hP hS => ?_)
  obtain ⟨σ10, τ10⟩ := u10
  obtain ⟨hR, f10, fL10, hq10, hp10_0⟩ : P_X12_valleyOf σ0 τ0 (σ0 389 j9) r10 σ10 τ10 := hp10
  have hP : va_P D vwCl (gw cA ad σ10 τ10) H10 := hP
  obtain rfl := FrL.nil fL10
  obtain rfl := Fr.nil f10
  refine r_icmp_eq (tgt := 139) hx hb dX12_canHear_133 (by decide) (fun c11 => ?_) (fun c11 => ?_)
  · refine lv_aload_n hx hb dX12_canHear_139 rfl (lv_at hl 1 rfl) ?_
    refine lv_iload hx hb dX12_canHear_140 (lv_at hl 5 rfl) ?_
    refine lv_iload_n hx hb dX12_canHear_142 rfl (lv_at hl 3 rfl) ?_
    refine lv_iload_n hx hb dX12_canHear_143 rfl (lv_at hl 4 rfl) ?_
    refine r_cVi (k := 387) (As := [.int x4, .int a2, .int a3]) (rest := []) ⟨hx, hb, hml, hown, hts⟩ hK hP hN hS (c_X12_farOf l D cA ad hI σ0 τ0 hR x4 a2 a3 (by omega) (by omega) (by omega)) (cwV 3 hts gX12_canHear_X12_farOf rfl rfl rfl (by decide +kernel) ⟨by decide, by decide⟩) (rv_M hK hP (by decide) (by decide)) rfl hl.1 rfl (Nat.le_of_ble_eq_true rfl) dX12_canHear_144 (Nat.zero_le _) (Nat.zero_le _) (fun r12 u12 H12 locs12 hp12 hP hS => ?_)
    obtain ⟨σ12, τ12⟩ := u12
    obtain ⟨hR, f12, fL12⟩ : P_X12_farOf σ0 τ0 x4 a2 a3 r12 σ12 τ12 := hp12
    have hP : va_P D vwCl (gw cA ad σ12 τ12) H12 := hP
    obtain rfl := FrL.nil fL12
    obtain rfl := Fr.nil f12
    refine lv_iload hx hb dX12_canHear_147 (lv_at hl 0 rfl) ?_
    refine r_icmp_gt (tgt := 156) hx hb dX12_canHear_149 (by decide) (fun c13 => ?_) (fun c13 => ?_)
    · refine r_iconst hx hb dX12_canHear_156 (by decide) (fun z14 ez14 => ?_)
      exact r_zret hx hb hr hK hP hS hk (by omega) dX12_canHear_157 (show P_X12_canHear σ0 τ0 a1 a2 a3 z14 σ0 τ0 from ⟨hR, hF, hFL, by omega⟩)
    · refine r_iconst hx hb dX12_canHear_152 (by decide) (fun z15 ez15 => ?_)
      refine lv_goto (tgt := 157) hx hb dX12_canHear_153 (by decide) ?_
      exact r_zret hx hb hr hK hP hS hk (by omega) dX12_canHear_157 (show P_X12_canHear σ0 τ0 a1 a2 a3 z15 σ0 τ0 from ⟨hR, hF, hFL, by omega⟩)
  · refine r_iincU (k := 0) (lv1 := fun z16 => [(5, .int z16), (0, .ref (ad 387)), (1, .int a1), (2, .int a2), (3, .int a3), (4, .int x4)]) hx hb dX12_canHear_136 hl rfl (by decide) (fun _ => rfl) (fun z16 ls hl => ?_)
    refine lv_aload_n hx hb dX12_canHear_139 rfl (lv_at hl 1 rfl) ?_
    refine lv_iload hx hb dX12_canHear_140 (lv_at hl 5 rfl) ?_
    refine lv_iload_n hx hb dX12_canHear_142 rfl (lv_at hl 3 rfl) ?_
    refine lv_iload_n hx hb dX12_canHear_143 rfl (lv_at hl 4 rfl) ?_
    refine r_cVi (k := 387) (As := [.int x4, .int a2, .int a3]) (rest := []) ⟨hx, hb, hml, hown, hts⟩ hK hP hN hS (c_X12_farOf l D cA ad hI σ0 τ0 hR x4 a2 a3 (by omega) (by omega) (by omega)) (cwV 3 hts gX12_canHear_X12_farOf rfl rfl rfl (by decide +kernel) ⟨by decide, by decide⟩) (rv_M hK hP (by decide) (by decide)) rfl hl.1 rfl (Nat.le_of_ble_eq_true rfl) dX12_canHear_144 (Nat.zero_le _) (Nat.zero_le _) (fun r17 u17 H17 locs17 hp17 hP hS => ?_)
    obtain ⟨σ17, τ17⟩ := u17
    obtain ⟨hR, f17, fL17⟩ : P_X12_farOf σ0 τ0 x4 a2 a3 r17 σ17 τ17 := hp17
    have hP : va_P D vwCl (gw cA ad σ17 τ17) H17 := hP
    obtain rfl := FrL.nil fL17
    obtain rfl := Fr.nil f17
    refine lv_iload hx hb dX12_canHear_147 (lv_at hl 0 rfl) ?_
    refine r_icmp_gt (tgt := 156) hx hb dX12_canHear_149 (by decide) (fun c18 => ?_) (fun c18 => ?_)
    · refine r_iconst hx hb dX12_canHear_156 (by decide) (fun z19 ez19 => ?_)
      exact r_zret hx hb hr hK hP hS hk (by omega) dX12_canHear_157 (show P_X12_canHear σ0 τ0 a1 a2 a3 z19 σ0 τ0 from ⟨hR, hF, hFL, by omega⟩)
    · refine r_iconst hx hb dX12_canHear_152 (by decide) (fun z20 ez20 => ?_)
      refine lv_goto (tgt := 157) hx hb dX12_canHear_153 (by decide) ?_
      exact r_zret hx hb hr hK hP hS hk (by omega) dX12_canHear_157 (show P_X12_canHear σ0 τ0 a1 a2 a3 z20 σ0 τ0 from ⟨hR, hF, hFL, by omega⟩)
theorem A_X12_canHear (p : Program) (l : Launch) (e : Env) (s : State) (m : MethodId) (args : Array Value) (below : List Frame) (meth : Method) (c : Code) (D : va_G) (cA : Nat → ClassId) (ad : Nat → Nat) (σ0 : Nat → Nat → Int32) (τ0 : Nat → Nat → Int64) (a1 : Int32) (a2 : Int32) (a3 : Int32) (C : Cy p s m args meth c cX12_canHear 6 wsX12_canHear RX12 D cA ad (some .boolean)) (ha1 : 0 ≤ a1.toInt ∧ a1.toInt ≤ 7) (ha2 : -1 ≤ a2.toInt ∧ a2.toInt ≤ 3) (ha3 : -1 ≤ a3.toInt ∧ a3.toInt ≤ 9) : ∀ n : Nat, J_X12_canHear_27 p l e s m args below meth c D cA ad σ0 τ0 a1 a2 a3 n ∧ J_X12_canHear_50 p l e s m args below meth c D cA ad σ0 τ0 a1 a2 a3 n ∧ J_X12_canHear_100 p l e s m args below meth c D cA ad σ0 τ0 a1 a2 a3 n := by
  intro n
  induction n with
  | zero =>
    exact ⟨(by intro σ τ H locs w0 ls hR hF hFL hP hS hc0 hl hm; exfalso; omega), (by intro σ τ H locs x4 ls hR hF hFL hP hS hc0 hl hm; exfalso; omega), (by intro σ τ H locs x4 w0 w1 ls hR hF hFL hP hS hc0 hl hm; exfalso; omega)⟩
  | succ n ih =>
    exact ⟨B_X12_canHear_27 p l e s m args below meth c D cA ad σ0 τ0 a1 a2 a3 n C ha1 ha2 ha3 ih.1 ih.2.1 ih.2.2, B_X12_canHear_50 p l e s m args below meth c D cA ad σ0 τ0 a1 a2 a3 n C ha1 ha2 ha3 ih.1 ih.2.1 ih.2.2, B_X12_canHear_100 p l e s m args below meth c D cA ad σ0 τ0 a1 a2 a3 n C ha1 ha2 ha3 ih.1 ih.2.1 ih.2.2⟩
set_option maxHeartbeats 4000000 in
theorem c_X12_canHear (l : Launch) (D : va_G) (cA : Nat → ClassId) (ad : Nat → Nat) (hI : Inj ad) (σ0 : Nat → Nat → Int32) (τ0 : Nat → Nat → Int64) (hR : Rg σ0) (a1 : Int32) (a2 : Int32) (a3 : Int32) (ha1 : 0 ≤ a1.toInt ∧ a1.toInt ≤ 7) (ha2 : -1 ≤ a2.toInt ∧ a2.toInt ≤ 3) (ha3 : -1 ≤ a3.toInt ∧ a3.toInt ≤ 9) : Met l yX12_canHear wsX12_canHear ({ frames := 2, cells := 0, slots := 0, locals := 44 } : Room) (WQc D cA ad [.ref (ad 387), .int a1, .int a2, .int a3] σ0 τ0) (va_Qi (fun (r : Int32) (u : SS) => P_X12_canHear σ0 τ0 a1 a2 a3 r u.1 u.2) (WB D cA ad) (AA ad)) 0 0 (AA ad) := by
  refine Met.ofW (cc := cX12_canHear) (maxL := 6) (ret := (some .boolean)) (by decide) rfl ?_
  intro p e s m args below meth c s₁ B hml hv
  obtain ⟨rfl, hP, hK, hN⟩ := hv
  have C : Cy p s m _ meth c cX12_canHear 6 wsX12_canHear RX12 D cA ad (some .boolean) := ⟨B.exec, B.bytes, hml, findClass_of_methodNamed B.named, atoms_spec (ws := wsX12_canHear) B.pre, hK, B.notSynchronized, B.returns, hI, hN⟩
  have hl := lv_entry ([.ref (ad 387), .int a1, .int a2, .int a3]) (n := 6) (Nat.le_of_ble_eq_true rfl)
  rw [lg_entry_eq]
  generalize (lg_sl ([.ref (ad 387), .int a1, .int a2, .int a3]) ++ List.replicate (6 - (lg_sl ([.ref (ad 387), .int a1, .int a2, .int a3])).length) Slot.unset).toArray = ls at hl ⊢
  have hl : lv_has ls 6 [(0, .ref (ad 387)), (1, .int a1), (2, .int a2), (3, .int a3)] := hl
  have hS : va_S (AA ad) s.heap s.heap [] := va_S.rf
  have hF : Fr L_X12_canHear σ0 σ0 := Fr.rf
  have hFL : FrL LL_X12_canHear τ0 τ0 := FrL.rf
  have hA := A_X12_canHear p l e s m _ below meth c D cA ad σ0 τ0 a1 a2 a3 C ha1 ha2 ha3 8
  have K27 := hA.1
  have K50 := hA.2.1
  have K100 := hA.2.2
  clear hA
  obtain ⟨hx, hb, _, hown, hts, _, hk, hr, _, _⟩ := C
  refine lv_aload_n hx hb dX12_canHear_0 rfl (lv_at hl 0 rfl) ?_
  refine fg_12_6 (k := 387) hx hb hts in_X12_canHear_12 hown hK hP (by decide) (by decide) (hts _ lk_X12_canHear_33) dX12_canHear_1 ?_
  refine r_bipush hx hb dX12_canHear_4 (by decide) (fun z1 ez1 => ?_)
  refine lv_iload_n hx hb dX12_canHear_6 rfl (lv_at hl 1 rfl) ?_
  refine r_iadd hx hb dX12_canHear_7 (by omega) (fun z2 ez2 => ?_)
  obtain ⟨j3, ej3⟩ : ∃ j : Nat, z2.toInt = (j : Int) := ⟨_, ti_nat (by omega)⟩
  refine ad_ms (k := 389) (j := j3) hx hb hK hP (by decide) (by decide) ej3 (by omega) dX12_canHear_8 ?_
  have hr4 := ra_ms_3 hR (k := 389) (j := j3) (by decide) (by decide) (by omega) (by omega)
  refine r_if_le (tgt := 26) hx hb dX12_canHear_9 (by decide) (fun c5 => ?_) (fun c5 => ?_)
  · refine lv_iload_n hx hb dX12_canHear_26 rfl (lv_at hl 1 rfl) ?_
    exact K27 σ0 τ0 s.heap [] a1 ls hR hF hFL hP hS (by omega) (lv_sub hl [0, 1, 2, 3] rfl) (by omega)
  · refine lv_aload_n hx hb dX12_canHear_12 rfl (lv_at hl 0 rfl) ?_
    refine fg_12_6 (k := 387) hx hb hts in_X12_canHear_12 hown hK hP (by decide) (by decide) (hts _ lk_X12_canHear_33) dX12_canHear_13 ?_
    refine r_bipush hx hb dX12_canHear_16 (by decide) (fun z6 ez6 => ?_)
    refine lv_iload_n hx hb dX12_canHear_18 rfl (lv_at hl 1 rfl) ?_
    refine r_iadd hx hb dX12_canHear_19 (by omega) (fun z7 ez7 => ?_)
    refine ad_ms (k := 389) (j := j3) hx hb hK hP (by decide) (by decide) (by omega) (by omega) dX12_canHear_20 ?_
    have hr8 := ra_ms_3 hR (k := 389) (j := j3) (by decide) (by decide) (by omega) (by omega)
    refine r_iconst hx hb dX12_canHear_21 (by decide) (fun z9 ez9 => ?_)
    refine r_isub hx hb dX12_canHear_22 (by omega) (fun z10 ez10 => ?_)
    refine lv_goto (tgt := 27) hx hb dX12_canHear_23 (by decide) ?_
    exact K27 σ0 τ0 s.heap [] z10 ls hR hF hFL hP hS (by omega) (lv_sub hl [0, 1, 2, 3] rfl) (by omega)
