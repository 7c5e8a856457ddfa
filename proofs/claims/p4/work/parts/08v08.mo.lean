theorem in_X12_rolled_12 : ∀ w ∈ u_ws RX12 TX12 47, w ∈ wsX12_rolled := by decide +kernel
theorem lk_X12_rolled_1 : Cond.fieldLink RX12 1 "CuckooSharesModel" "thrown" "I" ∈ wsX12_rolled := by decide +kernel
theorem lk_X12_rolled_428 : Cond.fieldLink RX12 428 "CuckooSharesModel" "hasRolled" "Z" ∈ wsX12_rolled := by decide +kernel
theorem lk_X12_rolled_68 : Cond.fieldLink RX12 68 "CuckooSharesModel" "rolledAt" "[I" ∈ wsX12_rolled := by decide +kernel
abbrev L_X12_rolled : List Rc := [(387, 387, 0, 0)]
abbrev LL_X12_rolled : List Rc := []
def P_X12_rolled (σ0 : Nat → Nat → Int32) (τ0 : Nat → Nat → Int64) (a1 : Int32) (r : Int32) (σ : Nat → Nat → Int32) (τ : Nat → Nat → Int64) : Prop := Rg σ ∧ Fr L_X12_rolled σ0 σ ∧ FrL LL_X12_rolled τ0 τ
set_option maxHeartbeats 4000000 in
theorem c_X12_rolled (l : Launch) (D : va_G) (cA : Nat → ClassId) (ad : Nat → Nat) (hI : Inj ad) (σ0 : Nat → Nat → Int32) (τ0 : Nat → Nat → Int64) (hR : Rg σ0) (a1 : Int32)  : Met l yX12_rolled wsX12_rolled ({ frames := 1, cells := 0, slots := 0, locals := 22 } : Room) (WQc D cA ad [.ref (ad 387), .int a1] σ0 τ0) (va_Qi (fun (r : Int32) (u : SS) => P_X12_rolled σ0 τ0 a1 r u.1 u.2) (WB D cA ad) (AA ad)) 0 0 (AA ad) := by
  refine Met.ofW (cc := cX12_rolled) (maxL := 2) (ret := (some .int)) (by decide) rfl ?_
  intro p e s m args below meth c s₁ B hml hv
  obtain ⟨rfl, hP, hK, hN⟩ := hv
  have C : Cy p s m _ meth c cX12_rolled 2 wsX12_rolled RX12 D cA ad (some .int) := ⟨B.exec, B.bytes, hml, findClass_of_methodNamed B.named, atoms_spec (ws := wsX12_rolled) B.pre, hK, B.notSynchronized, B.returns, hI, hN⟩
  have hl := lv_entry ([.ref (ad 387), .int a1]) (n := 2) (Nat.le_of_ble_eq_true rfl)
  rw [lg_entry_eq]
  generalize (lg_sl ([.ref (ad 387), .int a1]) ++ List.replicate (2 - (lg_sl ([.ref (ad 387), .int a1])).length) Slot.unset).toArray = ls at hl ⊢
  have hl : lv_has ls 2 [(0, .ref (ad 387)), (1, .int a1)] := hl
  have hS : va_S (AA ad) s.heap s.heap [] := va_S.rf
  have hF : Fr L_X12_rolled σ0 σ0 := Fr.rf
  have hFL : FrL LL_X12_rolled τ0 τ0 := FrL.rf
  obtain ⟨hx, hb, _, hown, hts, _, hk, hr, _, _⟩ := C
  refine lv_aload_n hx hb dX12_rolled_0 rfl (lv_at hl 0 rfl) ?_
  refine r_iconst hx hb dX12_rolled_1 (by decide) (fun z1 ez1 => ?_)
  refine fp_12_0 (k := 387) hx hb hts in_X12_rolled_12 hown hK hP (by decide) (by decide) (hts _ lk_X12_rolled_1) hI hR hS (by omega) dX12_rolled_2 (fun σ2 H2 locs2 u2 v2 hR hP hS => ?_)
  have hF := hF.puts u2 0 rfl (by decide) (by decide) (by decide) (by decide)
  refine lv_aload_n hx hb dX12_rolled_5 rfl (lv_at hl 0 rfl) ?_
  refine fg_12_36 (k := 387) hx hb hts in_X12_rolled_12 hown hK hP (by decide) (by decide) (hts _ lk_X12_rolled_428) dX12_rolled_6 ?_
  have hr3 := rg_12_36 hR (k := 387) (by decide) (by decide)
  refine r_if_eq (tgt := 30) hx hb dX12_rolled_9 (by decide) (fun c4 => ?_) (fun c4 => ?_)
  · refine r_iconst hx hb dX12_rolled_30 (by decide) (fun z5 ez5 => ?_)
    exact r_iret hx hb hr hK hP hS hk dX12_rolled_31 (show P_X12_rolled σ0 τ0 a1 z5 σ2 τ0 from ⟨hR, hF, hFL⟩)
  · refine lv_iload_n hx hb dX12_rolled_12 rfl (lv_at hl 1 rfl) ?_
    refine r_iconst hx hb dX12_rolled_13 (by decide) (fun z6 ez6 => ?_)
    refine r_iconst hx hb dX12_rolled_14 (by decide) (fun z7 ez7 => ?_)
    refine r_cSi (As := [.int a1, .int z6, .int z7]) (rest := []) ⟨hx, hb, hml, hown, hts⟩ hK hP hN hS (c_X12_isIn l D cA ad hI σ2 τ0 hR a1 z6 z7) (va_cwS 3 hts gX12_rolled_X12_isIn rfl rfl rfl (by decide +kernel) ⟨by decide, by decide⟩) rfl hl.1 rfl (Nat.le_of_ble_eq_true rfl) dX12_rolled_15 (Nat.zero_le _) (Nat.zero_le _) (fun r8 u8 H8 locs8 hp8 hP hS => ?_)
    obtain ⟨σ8, τ8⟩ := u8
    obtain ⟨hR, f8, fL8, hq8, hp8_0, hp8_1⟩ : P_X12_isIn σ2 τ0 a1 z6 z7 r8 σ8 τ8 := hp8
    have hP : va_P D vwCl (gw cA ad σ8 τ8) H8 := hP
    obtain rfl := FrL.nil fL8
    obtain rfl := Fr.nil f8
    refine r_if_eq (tgt := 30) hx hb dX12_rolled_18 (by decide) (fun c9 => ?_) (fun c9 => ?_)
    · clear hp8_0
      refine r_iconst hx hb dX12_rolled_30 (by decide) (fun z10 ez10 => ?_)
      exact r_iret hx hb hr hK hP hS hk dX12_rolled_31 (show P_X12_rolled σ0 τ0 a1 z10 σ2 τ0 from ⟨hR, hF, hFL⟩)
    · replace hp8_0 := hp8_0.resolve_left (by omega)
      refine lv_aload_n hx hb dX12_rolled_21 rfl (lv_at hl 0 rfl) ?_
      refine fg_12_35 (k := 387) hx hb hts in_X12_rolled_12 hown hK hP (by decide) (by decide) (hts _ lk_X12_rolled_68) dX12_rolled_22 ?_
      refine lv_iload_n hx hb dX12_rolled_25 rfl (lv_at hl 1 rfl) ?_
      obtain ⟨j11, ej11⟩ : ∃ j : Nat, a1.toInt = (j : Int) := ⟨_, ti_nat (by omega)⟩
      refine ad_mrolled (k := 400) (j := j11) hx hb hK hP (by decide) (by decide) ej11 (by omega) dX12_rolled_26 ?_
      refine lv_goto (tgt := 31) hx hb dX12_rolled_27 (by decide) ?_
      exact r_iret hx hb hr hK hP hS hk dX12_rolled_31 (show P_X12_rolled σ0 τ0 a1 (σ2 400 j11) σ2 τ0 from ⟨hR, hF, hFL⟩)
theorem in_X12_code_12 : ∀ w ∈ u_ws RX12 TX12 47, w ∈ wsX12_code := by decide +kernel
theorem lk_X12_code_40 : Cond.fieldLink RX12 40 "CuckooSharesModel" "read" "[I" ∈ wsX12_code := by decide +kernel
theorem lk_X12_code_431 : Cond.fieldLink RX12 431 "CuckooSharesModel" "codes" "I" ∈ wsX12_code := by decide +kernel
abbrev L_X12_code : List Rc := [(391, 391, 0, 119), (387, 387, 38, 38)]
abbrev LL_X12_code : List Rc := []
def P_X12_code (σ0 : Nat → Nat → Int32) (τ0 : Nat → Nat → Int64) (a1 : Int32) (a2 : Int32) (a3 : Int32) (σ : Nat → Nat → Int32) (τ : Nat → Nat → Int64) : Prop := Rg σ ∧ Fr L_X12_code σ0 σ ∧ FrL LL_X12_code τ0 τ ∧ (CD σ0 σ a1)
set_option maxHeartbeats 4000000 in
theorem c_X12_code (l : Launch) (D : va_G) (cA : Nat → ClassId) (ad : Nat → Nat) (hI : Inj ad) (σ0 : Nat → Nat → Int32) (τ0 : Nat → Nat → Int64) (hR : Rg σ0) (a1 : Int32) (a2 : Int32) (a3 : Int32) (ha1 : 0 ≤ a1.toInt ∧ a1.toInt ≤ 22) (ha2 : 0 ≤ a2.toInt ∧ a2.toInt ≤ 62) (hpre0 : (σ0 387 38).toInt ≤ 39) : Met l yX12_code wsX12_code ({ frames := 0, cells := 0, slots := 0, locals := 0 } : Room) (WQc D cA ad [.ref (ad 387), .int a1, .int a2, .int a3] σ0 τ0) (va_Qv (fun u : SS => P_X12_code σ0 τ0 a1 a2 a3 u.1 u.2) (WB D cA ad) (AA ad)) 0 0 (AA ad) := by
  refine Met.ofW (cc := cX12_code) (maxL := 4) (ret := none) (by decide) rfl ?_
  intro p e s m args below meth c s₁ B hml hv
  obtain ⟨rfl, hP, hK, hN⟩ := hv
  have C : Cy p s m _ meth c cX12_code 4 wsX12_code RX12 D cA ad none := ⟨B.exec, B.bytes, hml, findClass_of_methodNamed B.named, atoms_spec (ws := wsX12_code) B.pre, hK, B.notSynchronized, B.returns, hI, hN⟩
  have hl := lv_entry ([.ref (ad 387), .int a1, .int a2, .int a3]) (n := 4) (Nat.le_of_ble_eq_true rfl)
  rw [lg_entry_eq]
  generalize (lg_sl ([.ref (ad 387), .int a1, .int a2, .int a3]) ++ List.replicate (4 - (lg_sl ([.ref (ad 387), .int a1, .int a2, .int a3])).length) Slot.unset).toArray = ls at hl ⊢
  have hl : lv_has ls 4 [(0, .ref (ad 387)), (1, .int a1), (2, .int a2), (3, .int a3)] := hl
  have hS : va_S (AA ad) s.heap s.heap [] := va_S.rf
  have hF : Fr L_X12_code σ0 σ0 := Fr.rf
  have hFL : FrL LL_X12_code τ0 τ0 := FrL.rf
  obtain ⟨hx, hb, _, hown, hts, _, hk, hr, _, _⟩ := C
  have hrt38 := rg_12_38 hR (k := 387) (by decide) (by decide)
  refine lv_aload_n hx hb dX12_code_0 rfl (lv_at hl 0 rfl) ?_
  refine fg_12_8 (k := 387) hx hb hts in_X12_code_12 hown hK hP (by decide) (by decide) (hts _ lk_X12_code_40) dX12_code_1 ?_
  refine r_iconst hx hb dX12_code_4 (by decide) (fun z1 ez1 => ?_)
  refine lv_aload_n hx hb dX12_code_5 rfl (lv_at hl 0 rfl) ?_
  refine fg_12_38 (k := 387) hx hb hts in_X12_code_12 hown hK hP (by decide) (by decide) (hts _ lk_X12_code_431) dX12_code_6 ?_
  refine r_imulL (n := 3) hx hb dX12_code_9 (by omega) (by omega) (fun z2 ez2 => ?_)
  refine lv_iload_n hx hb dX12_code_10 rfl (lv_at hl 1 rfl) ?_
  obtain ⟨j3, ej3⟩ : ∃ j : Nat, z2.toInt = (j : Int) := ⟨_, ti_nat (by omega)⟩
  refine as_mread (k := 391) (j := j3) hx hb hK hP hI hR hS (by decide) (by decide) ej3 (by omega) dX12_code_11 (fun σ4 H4 locs4 u4 v4 hR hP hS => ?_)
  have ua := u4
  have va := v4
  have hF := hF.puts u4 0 rfl (by decide) (by decide) (by omega) (by omega)
  have t5 : (σ4 387 38).toInt = (σ0 387 38).toInt := congrArg Int32.toInt (u4 387 38 (by omega))
  refine lv_aload_n hx hb dX12_code_12 rfl (lv_at hl 0 rfl) ?_
  refine fg_12_8 (k := 387) hx hb hts in_X12_code_12 hown hK hP (by decide) (by decide) (hts _ lk_X12_code_40) dX12_code_13 ?_
  refine r_iconst hx hb dX12_code_16 (by decide) (fun z6 ez6 => ?_)
  refine lv_aload_n hx hb dX12_code_17 rfl (lv_at hl 0 rfl) ?_
  refine fg_12_38 (k := 387) hx hb hts in_X12_code_12 hown hK hP (by decide) (by decide) (hts _ lk_X12_code_431) dX12_code_18 ?_
  refine r_imulL (n := 3) hx hb dX12_code_21 (by omega) (by omega) (fun z7 ez7 => ?_)
  refine r_iconst hx hb dX12_code_22 (by decide) (fun z8 ez8 => ?_)
  refine r_iadd hx hb dX12_code_23 (by omega) (fun z9 ez9 => ?_)
  refine lv_iload_n hx hb dX12_code_24 rfl (lv_at hl 2 rfl) ?_
  obtain ⟨j10, ej10⟩ : ∃ j : Nat, z9.toInt = (j : Int) := ⟨_, ti_nat (by omega)⟩
  refine as_mread (k := 391) (j := j10) hx hb hK hP hI hR hS (by decide) (by decide) ej10 (by omega) dX12_code_25 (fun σ11 H11 locs11 u11 v11 hR hP hS => ?_)
  have ub := u11
  have vb := v11
  have hF := hF.puts u11 0 rfl (by decide) (by decide) (by omega) (by omega)
  have t12 : (σ11 387 38).toInt = (σ4 387 38).toInt := congrArg Int32.toInt (u11 387 38 (by omega))
  refine lv_aload_n hx hb dX12_code_26 rfl (lv_at hl 0 rfl) ?_
  refine fg_12_8 (k := 387) hx hb hts in_X12_code_12 hown hK hP (by decide) (by decide) (hts _ lk_X12_code_40) dX12_code_27 ?_
  refine r_iconst hx hb dX12_code_30 (by decide) (fun z13 ez13 => ?_)
  refine lv_aload_n hx hb dX12_code_31 rfl (lv_at hl 0 rfl) ?_
  refine fg_12_38 (k := 387) hx hb hts in_X12_code_12 hown hK hP (by decide) (by decide) (hts _ lk_X12_code_431) dX12_code_32 ?_
  refine r_imulL (n := 3) hx hb dX12_code_35 (by omega) (by omega) (fun z14 ez14 => ?_)
  refine r_iconst hx hb dX12_code_36 (by decide) (fun z15 ez15 => ?_)
  refine r_iadd hx hb dX12_code_37 (by omega) (fun z16 ez16 => ?_)
  refine lv_iload_n hx hb dX12_code_38 rfl (lv_at hl 3 rfl) ?_
  obtain ⟨j17, ej17⟩ : ∃ j : Nat, z16.toInt = (j : Int) := ⟨_, ti_nat (by omega)⟩
  refine as_mread (k := 391) (j := j17) hx hb hK hP hI hR hS (by decide) (by decide) ej17 (by omega) dX12_code_39 (fun σ18 H18 locs18 u18 v18 hR hP hS => ?_)
  have uc := u18
  have vc := v18
  have hF := hF.puts u18 0 rfl (by decide) (by decide) (by omega) (by omega)
  have t19 : (σ18 387 38).toInt = (σ11 387 38).toInt := congrArg Int32.toInt (u18 387 38 (by omega))
  refine lv_aload_n hx hb dX12_code_40 rfl (lv_at hl 0 rfl) ?_
  refine lv_dup hx hb dX12_code_41 rfl ?_
  refine fg_12_38 (k := 387) hx hb hts in_X12_code_12 hown hK hP (by decide) (by decide) (hts _ lk_X12_code_431) dX12_code_42 ?_
  refine r_iconst hx hb dX12_code_45 (by decide) (fun z20 ez20 => ?_)
  refine r_iadd hx hb dX12_code_46 (by omega) (fun z21 ez21 => ?_)
  refine fp_12_38 (k := 387) hx hb hts in_X12_code_12 hown hK hP (by decide) (by decide) (hts _ lk_X12_code_431) hI hR hS (by omega) dX12_code_47 (fun σ22 H22 locs22 u22 v22 hR hP hS => ?_)
  have ud := u22
  have vd := v22
  have hF := hF.puts u22 1 rfl (by decide) (by decide) (by decide) (by decide)
  exact r_vret hx hb hr hK hP hS hk dX12_code_50 (show P_X12_code σ0 τ0 a1 a2 a3 σ22 τ0 from ⟨hR, hF, hFL, CD.of ua va ub uc ud vd (by omega) (by omega) (by omega) (by omega) (by omega)⟩)
theorem in_X12_joins_12 : ∀ w ∈ u_ws RX12 TX12 47, w ∈ wsX12_joins := by decide +kernel
theorem lk_X12_joins_434 : Cond.fieldLink RX12 434 "CuckooSharesModel" "top" "I" ∈ wsX12_joins := by decide +kernel
theorem lk_X12_joins_71 : Cond.fieldLink RX12 71 "CuckooSharesModel" "stack" "[I" ∈ wsX12_joins := by decide +kernel
abbrev L_X12_joins : List Rc := [(387, 387, 40, 40), (391, 391, 0, 119), (387, 387, 38, 38)]
abbrev LL_X12_joins : List Rc := []
def P_X12_joins (σ0 : Nat → Nat → Int32) (τ0 : Nat → Nat → Int64) (a1 : Int32) (σ : Nat → Nat → Int32) (τ : Nat → Nat → Int64) : Prop := Rg σ ∧ Fr L_X12_joins σ0 σ ∧ FrL LL_X12_joins τ0 τ ∧ ((σ 387 38).toInt + (σ 387 40).toInt = (σ0 387 38).toInt + (σ0 387 40).toInt) ∧ ((σ 387 40).toInt ≤ (σ0 387 40).toInt) ∧ (∀ t : Nat, (σ 387 40).toInt = (t : Int) + 1 → a1.toInt = 22 → (σ 401 t).toInt ≠ 21 ∧ (σ 401 t).toInt ≠ 22) ∧ PV σ
def J_X12_joins_0 (p : Program) (l : Launch) (e : Env) (s : State) (m : MethodId) (args : Array Value) (below : List Frame) (meth : Method) (c : Code) (D : va_G) (cA : Nat → ClassId) (ad : Nat → Nat) (σ0 : Nat → Nat → Int32) (τ0 : Nat → Nat → Int64) (a1 : Int32) (n : Nat) : Prop := ∀ (σ : Nat → Nat → Int32) (τ : Nat → Nat → Int64) (H : Heap) (locs : List Loc)  (ls : Array Slot), Rg σ → Fr L_X12_joins σ0 σ → FrL LL_X12_joins τ0 τ → va_P D vwCl (gw cA ad σ τ) H → va_S (AA ad) s.heap H locs → (0 ≤ (σ 387 42).toInt ∧ (σ 387 42).toInt ≤ 1) → (0 ≤ (σ 387 40).toInt ∧ (σ 387 40).toInt ≤ 40) → (0 ≤ (σ 387 38).toInt ∧ (σ 387 38).toInt ≤ 40) → ((σ 387 38).toInt + (σ 387 40).toInt = (σ0 387 38).toInt + (σ0 387 40).toInt) → ((σ 387 40).toInt ≤ (σ0 387 40).toInt) → ((σ 387 42).toInt = 1) → (PV σ) → lv_has ls 2 [(0, .ref (ad 387)), (1, .int a1)] → 2 * (σ 387 40).toInt + 1 < (n : Int) → W p l e ({ frames := 1, cells := 0, slots := 0, locals := 23 } : Room) s m args below meth c H locs 0 0 (MQ below (va_Qv (fun u : SS => P_X12_joins σ0 τ0 a1 u.1 u.2) (WB D cA ad) (AA ad)) args s 0 0 (AA ad)) (F0 m 0 ls [])
set_option maxHeartbeats 4000000 in
theorem B_X12_joins_0 (p : Program) (l : Launch) (e : Env) (s : State) (m : MethodId) (args : Array Value) (below : List Frame) (meth : Method) (c : Code) (D : va_G) (cA : Nat → ClassId) (ad : Nat → Nat) (σ0 : Nat → Nat → Int32) (τ0 : Nat → Nat → Int64) (a1 : Int32) (n : Nat) (C : Cy p s m args meth c cX12_joins 2 wsX12_joins RX12 D cA ad none) (ha1 : 21 ≤ a1.toInt ∧ a1.toInt ≤ 22) (hpre0 : (σ0 387 42).toInt = 1) (hpre1 : (σ0 387 38).toInt + (σ0 387 40).toInt ≤ 40) (gPV0 : PV σ0) (K0 : J_X12_joins_0 p l e s m args below meth c D cA ad σ0 τ0 a1 n) : J_X12_joins_0 p l e s m args below meth c D cA ad σ0 τ0 a1 (n + 1) := by
  obtain ⟨hx, hb, hml, hown, hts, hK, hk, hr, hI, hN⟩ := C
  intro σ τ H locs ls hR hF hFL hP hS hc0 hc1 hc2 hi0 hi1 hi2 gPV hl hm
  obtain rfl := FrL.nil hFL
  refine lv_aload_n hx hb dX12_joins_0 rfl (lv_at hl 0 rfl) ?_
  refine fg_12_40 (k := 387) hx hb hts in_X12_joins_12 hown hK hP (by decide) (by decide) (hts _ lk_X12_joins_434) dX12_joins_1 ?_
  refine r_if_le (tgt := 73) hx hb dX12_joins_4 (by decide) (fun c1 => ?_) (fun c1 => ?_)
  · exact r_vret hx hb hr hK hP hS hk dX12_joins_73 (show P_X12_joins σ0 τ0 a1 σ τ0 from ⟨hR, hF, hFL, by omega, by omega, by intro t h1 h2; first | (exfalso; omega) | (have ej : t = 0 := (by omega); subst ej; omega), gPV⟩)
  · refine lv_aload_n hx hb dX12_joins_7 rfl (lv_at hl 0 rfl) ?_
    refine fg_12_37 (k := 387) hx hb hts in_X12_joins_12 hown hK hP (by decide) (by decide) (hts _ lk_X12_joins_71) dX12_joins_8 ?_
    refine lv_aload_n hx hb dX12_joins_11 rfl (lv_at hl 0 rfl) ?_
    refine fg_12_40 (k := 387) hx hb hts in_X12_joins_12 hown hK hP (by decide) (by decide) (hts _ lk_X12_joins_434) dX12_joins_12 ?_
    refine r_iconst hx hb dX12_joins_15 (by decide) (fun z2 ez2 => ?_)
    refine r_isub hx hb dX12_joins_16 (by omega) (fun z3 ez3 => ?_)
    obtain ⟨j4, ej4⟩ : ∃ j : Nat, z3.toInt = (j : Int) := ⟨_, ti_nat (by omega)⟩
    refine ad_mstack (k := 401) (j := j4) hx hb hK hP (by decide) (by decide) ej4 (by omega) dX12_joins_17 ?_
    refine r_bipush hx hb dX12_joins_18 (by decide) (fun z5 ez5 => ?_)
    refine r_icmp_eq (tgt := 45) hx hb dX12_joins_20 (by decide) (fun c6 => ?_) (fun c6 => ?_)
    · refine lv_aload_n hx hb dX12_joins_45 rfl (lv_at hl 0 rfl) ?_
      refine lv_dup hx hb dX12_joins_46 rfl ?_
      refine fg_12_40 (k := 387) hx hb hts in_X12_joins_12 hown hK hP (by decide) (by decide) (hts _ lk_X12_joins_434) dX12_joins_47 ?_
      refine r_iconst hx hb dX12_joins_50 (by decide) (fun z7 ez7 => ?_)
      refine r_isub hx hb dX12_joins_51 (by omega) (fun z8 ez8 => ?_)
      refine fp_12_40 (k := 387) hx hb hts in_X12_joins_12 hown hK hP (by decide) (by decide) (hts _ lk_X12_joins_434) hI hR hS (by omega) dX12_joins_52 (fun σ9 H9 locs9 u9 v9 hR hP hS => ?_)
      have ut := u9
      have vt := v9
      have hF := hF.puts u9 0 rfl (by decide) (by decide) (by decide) (by decide)
      have t10 : (σ9 387 42).toInt = (σ 387 42).toInt := congrArg Int32.toInt (u9 387 42 (by omega))
      have t11 : (σ9 387 38).toInt = (σ 387 38).toInt := congrArg Int32.toInt (u9 387 38 (by omega))
      have t12 : (σ9 401 j4).toInt = (σ 401 j4).toInt := congrArg Int32.toInt (u9 401 j4 (by omega))
      refine lv_aload_n hx hb dX12_joins_55 rfl (lv_at hl 0 rfl) ?_
      refine lv_aload_n hx hb dX12_joins_56 rfl (lv_at hl 0 rfl) ?_
      refine fg_12_37 (k := 387) hx hb hts in_X12_joins_12 hown hK hP (by decide) (by decide) (hts _ lk_X12_joins_71) dX12_joins_57 ?_
      refine lv_aload_n hx hb dX12_joins_60 rfl (lv_at hl 0 rfl) ?_
      refine fg_12_40 (k := 387) hx hb hts in_X12_joins_12 hown hK hP (by decide) (by decide) (hts _ lk_X12_joins_434) dX12_joins_61 ?_
      refine ad_mstack (k := 401) (j := j4) hx hb hK hP (by decide) (by decide) (by omega) (by omega) dX12_joins_64 ?_
      refine r_iconst hx hb dX12_joins_65 (by decide) (fun z13 ez13 => ?_)
      refine r_iconst hx hb dX12_joins_66 (by decide) (fun z14 ez14 => ?_)
      refine r_cVv (k := 387) (As := [.int (σ9 401 j4), .int z13, .int z14]) (rest := []) ⟨hx, hb, hml, hown, hts⟩ hK hP hN hS (c_X12_code l D cA ad hI σ9 τ0 hR (σ9 401 j4) z13 z14 (by omega) (by omega) (by omega)) (cwV 3 hts gX12_joins_X12_code rfl rfl rfl (by decide +kernel) ⟨by decide, by decide⟩) (rv_M hK hP (by decide) (by decide)) rfl hl.1 rfl (Nat.le_of_ble_eq_true rfl) dX12_joins_67 (Nat.zero_le _) (Nat.zero_le _) (fun u15 H15 locs15 hp15 hP hS => ?_)
      obtain ⟨σ15, τ15⟩ := u15
      obtain ⟨hR, f15, fL15, hp15_0⟩ : P_X12_code σ9 τ0 (σ9 401 j4) z13 z14 σ15 τ15 := hp15
      have cd := hp15_0
      have fc := f15
      have hP : va_P D vwCl (gw cA ad σ15 τ15) H15 := hP
      obtain rfl := FrL.nil fL15
      have hF := hF.step f15 (by decide)
      have t16 : (σ15 387 42).toInt = (σ9 387 42).toInt := congrArg Int32.toInt (f15.at 387 42 (by decide))
      have t17 : (σ15 401 j4).toInt = (σ9 401 j4).toInt := congrArg Int32.toInt (f15.atV 401 j4 (by intro q hq; simp only [L_X12_code, List.mem_cons, List.not_mem_nil, or_false] at hq; rcases hq with rfl | rfl <;> dsimp only <;> omega))
      have t18 : (σ15 387 40).toInt = (σ9 387 40).toInt := congrArg Int32.toInt (f15.at 387 40 (by decide))
      have hr19 := rg_12_38 hR (k := 387) (by decide) (by decide)
      have gPV := PV.join (j := j4) gPV (by omega) ut (by omega) (by omega) (by omega) (by omega) cd fc (by decide) (by omega)
      obtain ⟨cc0, hcc1, hcc2, _, _⟩ := id cd
      refine lv_goto (tgt := 0) hx hb dX12_joins_70 (by decide) ?_
      exact K0 σ15 τ0 H15 locs15  ls hR hF hFL hP hS (by omega) (by omega) (by omega) (by omega) (by omega) (by omega) gPV (lv_sub hl [0, 1] rfl) (by omega)
    · refine lv_aload_n hx hb dX12_joins_23 rfl (lv_at hl 0 rfl) ?_
      refine fg_12_37 (k := 387) hx hb hts in_X12_joins_12 hown hK hP (by decide) (by decide) (hts _ lk_X12_joins_71) dX12_joins_24 ?_
      refine lv_aload_n hx hb dX12_joins_27 rfl (lv_at hl 0 rfl) ?_
      refine fg_12_40 (k := 387) hx hb hts in_X12_joins_12 hown hK hP (by decide) (by decide) (hts _ lk_X12_joins_434) dX12_joins_28 ?_
      refine r_iconst hx hb dX12_joins_31 (by decide) (fun z20 ez20 => ?_)
      refine r_isub hx hb dX12_joins_32 (by omega) (fun z21 ez21 => ?_)
      refine ad_mstack (k := 401) (j := j4) hx hb hK hP (by decide) (by decide) (by omega) (by omega) dX12_joins_33 ?_
      refine r_bipush hx hb dX12_joins_34 (by decide) (fun z22 ez22 => ?_)
      refine r_icmp_ne (tgt := 73) hx hb dX12_joins_36 (by decide) (fun c23 => ?_) (fun c23 => ?_)
      · exact r_vret hx hb hr hK hP hS hk dX12_joins_73 (show P_X12_joins σ0 τ0 a1 σ τ0 from ⟨hR, hF, hFL, by omega, by omega, by intro t h1 h2; first | (exfalso; omega) | (have ej : t = j4 := (by omega); subst ej; omega), gPV⟩)
      · refine lv_iload_n hx hb dX12_joins_39 rfl (lv_at hl 1 rfl) ?_
        refine r_bipush hx hb dX12_joins_40 (by decide) (fun z24 ez24 => ?_)
        refine r_icmp_ne (tgt := 73) hx hb dX12_joins_42 (by decide) (fun c25 => ?_) (fun c25 => ?_)
        · exact r_vret hx hb hr hK hP hS hk dX12_joins_73 (show P_X12_joins σ0 τ0 a1 σ τ0 from ⟨hR, hF, hFL, by omega, by omega, by intro t h1 h2; first | (exfalso; omega) | (have ej : t = j4 := (by omega); subst ej; omega), gPV⟩)
        · refine lv_aload_n hx hb dX12_joins_45 rfl (lv_at hl 0 rfl) ?_
          refine lv_dup hx hb dX12_joins_46 rfl ?_
          refine fg_12_40 (k := 387) hx hb hts in_X12_joins_12 hown hK hP (by decide) (by decide) (hts _ lk_X12_joins_434) dX12_joins_47 ?_
          refine r_iconst hx hb dX12_joins_50 (by decide) (fun z26 ez26 => ?_)
          refine r_isub hx hb dX12_joins_51 (by omega) (fun z27 ez27 => ?_)
          refine fp_12_40 (k := 387) hx hb hts in_X12_joins_12 hown hK hP (by decide) (by decide) (hts _ lk_X12_joins_434) hI hR hS (by omega) dX12_joins_52 (fun σ28 H28 locs28 u28 v28 hR hP hS => ?_)
          have ut := u28
          have vt := v28
          have hF := hF.puts u28 0 rfl (by decide) (by decide) (by decide) (by decide)
          have t29 : (σ28 387 42).toInt = (σ 387 42).toInt := congrArg Int32.toInt (u28 387 42 (by omega))
          have t30 : (σ28 387 38).toInt = (σ 387 38).toInt := congrArg Int32.toInt (u28 387 38 (by omega))
          have t31 : (σ28 401 j4).toInt = (σ 401 j4).toInt := congrArg Int32.toInt (u28 401 j4 (by omega))
          refine lv_aload_n hx hb dX12_joins_55 rfl (lv_at hl 0 rfl) ?_
          refine lv_aload_n hx hb dX12_joins_56 rfl (lv_at hl 0 rfl) ?_
          refine fg_12_37 (k := 387) hx hb hts in_X12_joins_12 hown hK hP (by decide) (by decide) (hts _ lk_X12_joins_71) dX12_joins_57 ?_
          refine lv_aload_n hx hb dX12_joins_60 rfl (lv_at hl 0 rfl) ?_
          refine fg_12_40 (k := 387) hx hb hts in_X12_joins_12 hown hK hP (by decide) (by decide) (hts _ lk_X12_joins_434) dX12_joins_61 ?_
          refine ad_mstack (k := 401) (j := j4) hx hb hK hP (by decide) (by decide) (by omega) (by omega) dX12_joins_64 ?_
          refine r_iconst hx hb dX12_joins_65 (by decide) (fun z32 ez32 => ?_)
          refine r_iconst hx hb dX12_joins_66 (by decide) (fun z33 ez33 => ?_)
          refine r_cVv (k := 387) (As := [.int (σ28 401 j4), .int z32, .int z33]) (rest := []) ⟨hx, hb, hml, hown, hts⟩ hK hP hN hS (c_X12_code l D cA ad hI σ28 τ0 hR (σ28 401 j4) z32 z33 (by omega) (by omega) (by omega)) (cwV 3 hts gX12_joins_X12_code rfl rfl rfl (by decide +kernel) ⟨by decide, by decide⟩) (rv_M hK hP (by decide) (by decide)) rfl hl.1 rfl (Nat.le_of_ble_eq_true rfl) dX12_joins_67 (Nat.zero_le _) (Nat.zero_le _) (fun u34 H34 locs34 hp34 hP hS => ?_)
          obtain ⟨σ34, τ34⟩ := u34
          obtain ⟨hR, f34, fL34, hp34_0⟩ : P_X12_code σ28 τ0 (σ28 401 j4) z32 z33 σ34 τ34 := hp34
          have cd := hp34_0
          have fc := f34
          have hP : va_P D vwCl (gw cA ad σ34 τ34) H34 := hP
          obtain rfl := FrL.nil fL34
          have hF := hF.step f34 (by decide)
          have t35 : (σ34 387 42).toInt = (σ28 387 42).toInt := congrArg Int32.toInt (f34.at 387 42 (by decide))
          have t36 : (σ34 401 j4).toInt = (σ28 401 j4).toInt := congrArg Int32.toInt (f34.atV 401 j4 (by intro q hq; simp only [L_X12_code, List.mem_cons, List.not_mem_nil, or_false] at hq; rcases hq with rfl | rfl <;> dsimp only <;> omega))
          have t37 : (σ34 387 40).toInt = (σ28 387 40).toInt := congrArg Int32.toInt (f34.at 387 40 (by decide))
          have hr38 := rg_12_38 hR (k := 387) (by decide) (by decide)
          have gPV := PV.join (j := j4) gPV (by omega) ut (by omega) (by omega) (by omega) (by omega) cd fc (by decide) (by omega)
          obtain ⟨cc0, hcc1, hcc2, _, _⟩ := id cd
          refine lv_goto (tgt := 0) hx hb dX12_joins_70 (by decide) ?_
          exact K0 σ34 τ0 H34 locs34  ls hR hF hFL hP hS (by omega) (by omega) (by omega) (by omega) (by omega) (by omega) gPV (lv_sub hl [0, 1] rfl) (by omega)
theorem A_X12_joins (p : Program) (l : Launch) (e : Env) (s : State) (m : MethodId) (args : Array Value) (below : List Frame) (meth : Method) (c : Code) (D : va_G) (cA : Nat → ClassId) (ad : Nat → Nat) (σ0 : Nat → Nat → Int32) (τ0 : Nat → Nat → Int64) (a1 : Int32) (C : Cy p s m args meth c cX12_joins 2 wsX12_joins RX12 D cA ad none) (ha1 : 21 ≤ a1.toInt ∧ a1.toInt ≤ 22) (hpre0 : (σ0 387 42).toInt = 1) (hpre1 : (σ0 387 38).toInt + (σ0 387 40).toInt ≤ 40) (gPV0 : PV σ0) : ∀ n : Nat, J_X12_joins_0 p l e s m args below meth c D cA ad σ0 τ0 a1 n := by
  intro n
  induction n with
  | zero =>
    exact (by intro σ τ H locs ls hR hF hFL hP hS hc0 hc1 hc2 hi0 hi1 hi2 gPV hl hm; exfalso; omega)
  | succ n ih =>
    exact B_X12_joins_0 p l e s m args below meth c D cA ad σ0 τ0 a1 n C ha1 hpre0 hpre1 gPV0 ih
set_option maxHeartbeats 4000000 in
theorem c_X12_joins (l : Launch) (D : va_G) (cA : Nat → ClassId) (ad : Nat → Nat) (hI : Inj ad) (σ0 : Nat → Nat → Int32) (τ0 : Nat → Nat → Int64) (hR : Rg σ0) (a1 : Int32) (ha1 : 21 ≤ a1.toInt ∧ a1.toInt ≤ 22) (hpre0 : (σ0 387 42).toInt = 1) (hpre1 : (σ0 387 38).toInt + (σ0 387 40).toInt ≤ 40) (gPV0 : PV σ0) : Met l yX12_joins wsX12_joins ({ frames := 1, cells := 0, slots := 0, locals := 23 } : Room) (WQc D cA ad [.ref (ad 387), .int a1] σ0 τ0) (va_Qv (fun u : SS => P_X12_joins σ0 τ0 a1 u.1 u.2) (WB D cA ad) (AA ad)) 0 0 (AA ad) := by
  refine Met.ofW (cc := cX12_joins) (maxL := 2) (ret := none) (by decide) rfl ?_
  intro p e s m args below meth c s₁ B hml hv
  obtain ⟨rfl, hP, hK, hN⟩ := hv
  have C : Cy p s m _ meth c cX12_joins 2 wsX12_joins RX12 D cA ad none := ⟨B.exec, B.bytes, hml, findClass_of_methodNamed B.named, atoms_spec (ws := wsX12_joins) B.pre, hK, B.notSynchronized, B.returns, hI, hN⟩
  have hl := lv_entry ([.ref (ad 387), .int a1]) (n := 2) (Nat.le_of_ble_eq_true rfl)
  rw [lg_entry_eq]
  generalize (lg_sl ([.ref (ad 387), .int a1]) ++ List.replicate (2 - (lg_sl ([.ref (ad 387), .int a1])).length) Slot.unset).toArray = ls at hl ⊢
  have hl : lv_has ls 2 [(0, .ref (ad 387)), (1, .int a1)] := hl
  have hS : va_S (AA ad) s.heap s.heap [] := va_S.rf
  have hF : Fr L_X12_joins σ0 σ0 := Fr.rf
  have hFL : FrL LL_X12_joins τ0 τ0 := FrL.rf
  have gPV := gPV0
  have hA := A_X12_joins p l e s m _ below meth c D cA ad σ0 τ0 a1 C ha1 hpre0 hpre1 gPV0 170
  have K0 := hA
  clear hA
  obtain ⟨hx, hb, _, hown, hts, _, hk, hr, _, _⟩ := C
  have hrt38 := rg_12_38 hR (k := 387) (by decide) (by decide)
  have hrt40 := rg_12_40 hR (k := 387) (by decide) (by decide)
  have hrt42 := rg_12_42 hR (k := 387) (by decide) (by decide)
  exact K0 σ0 τ0 s.heap []  ls hR hF hFL hP hS (by omega) (by omega) (by omega) (by omega) (by omega) (by omega) gPV (lv_sub hl [0, 1] rfl) (by omega)
theorem in_X12_nots_12 : ∀ w ∈ u_ws RX12 TX12 47, w ∈ wsX12_nots := by decide +kernel
theorem lk_X12_nots_434 : Cond.fieldLink RX12 434 "CuckooSharesModel" "top" "I" ∈ wsX12_nots := by decide +kernel
theorem lk_X12_nots_440 : Cond.fieldLink RX12 440 "CuckooSharesModel" "deep" "I" ∈ wsX12_nots := by decide +kernel
theorem lk_X12_nots_71 : Cond.fieldLink RX12 71 "CuckooSharesModel" "stack" "[I" ∈ wsX12_nots := by decide +kernel
abbrev L_X12_nots : List Rc := [(387, 387, 40, 41), (391, 391, 0, 119), (387, 387, 38, 38)]
abbrev LL_X12_nots : List Rc := []
def P_X12_nots (σ0 : Nat → Nat → Int32) (τ0 : Nat → Nat → Int64)  (σ : Nat → Nat → Int32) (τ : Nat → Nat → Int64) : Prop := Rg σ ∧ Fr L_X12_nots σ0 σ ∧ FrL LL_X12_nots τ0 τ ∧ ((σ 387 38).toInt + (σ 387 40).toInt = (σ0 387 38).toInt + (σ0 387 40).toInt) ∧ ((σ 387 40).toInt ≤ (σ0 387 40).toInt) ∧ PV σ
def J_X12_nots_0 (p : Program) (l : Launch) (e : Env) (s : State) (m : MethodId) (args : Array Value) (below : List Frame) (meth : Method) (c : Code) (D : va_G) (cA : Nat → ClassId) (ad : Nat → Nat) (σ0 : Nat → Nat → Int32) (τ0 : Nat → Nat → Int64)  (n : Nat) : Prop := ∀ (σ : Nat → Nat → Int32) (τ : Nat → Nat → Int64) (H : Heap) (locs : List Loc)  (ls : Array Slot), Rg σ → Fr L_X12_nots σ0 σ → FrL LL_X12_nots τ0 τ → va_P D vwCl (gw cA ad σ τ) H → va_S (AA ad) s.heap H locs → (0 ≤ (σ 387 42).toInt ∧ (σ 387 42).toInt ≤ 1) → (0 ≤ (σ 387 40).toInt ∧ (σ 387 40).toInt ≤ 40) → (0 ≤ (σ 387 38).toInt ∧ (σ 387 38).toInt ≤ 40) → ((σ 387 38).toInt + (σ 387 40).toInt = (σ0 387 38).toInt + (σ0 387 40).toInt) → ((σ 387 40).toInt ≤ (σ0 387 40).toInt) → ((σ 387 42).toInt = 1) → (PV σ) → lv_has ls 1 [(0, .ref (ad 387))] → 2 * (σ 387 40).toInt + 1 < (n : Int) → W p l e ({ frames := 1, cells := 0, slots := 0, locals := 23 } : Room) s m args below meth c H locs 0 0 (MQ below (va_Qv (fun u : SS => P_X12_nots σ0 τ0 u.1 u.2) (WB D cA ad) (AA ad)) args s 0 0 (AA ad)) (F0 m 0 ls [])
set_option maxHeartbeats 4000000 in
theorem B_X12_nots_0 (p : Program) (l : Launch) (e : Env) (s : State) (m : MethodId) (args : Array Value) (below : List Frame) (meth : Method) (c : Code) (D : va_G) (cA : Nat → ClassId) (ad : Nat → Nat) (σ0 : Nat → Nat → Int32) (τ0 : Nat → Nat → Int64)  (n : Nat) (C : Cy p s m args meth c cX12_nots 1 wsX12_nots RX12 D cA ad none) (hpre0 : (σ0 387 42).toInt = 1) (hpre1 : (σ0 387 38).toInt + (σ0 387 40).toInt ≤ 40) (gPV0 : PV σ0) (K0 : J_X12_nots_0 p l e s m args below meth c D cA ad σ0 τ0 n) : J_X12_nots_0 p l e s m args below meth c D cA ad σ0 τ0 (n + 1) := by
  obtain ⟨hx, hb, hml, hown, hts, hK, hk, hr, hI, hN⟩ := C
  intro σ τ H locs ls hR hF hFL hP hS hc0 hc1 hc2 hi0 hi1 hi2 gPV hl hm
  obtain rfl := FrL.nil hFL
  refine lv_aload_n hx hb dX12_nots_0 rfl (lv_at hl 0 rfl) ?_
  refine fg_12_40 (k := 387) hx hb hts in_X12_nots_12 hown hK hP (by decide) (by decide) (hts _ lk_X12_nots_434) dX12_nots_1 ?_
  refine r_if_le (tgt := 54) hx hb dX12_nots_4 (by decide) (fun c1 => ?_) (fun c1 => ?_)
  · exact r_vret hx hb hr hK hP hS hk dX12_nots_54 (show P_X12_nots σ0 τ0 σ τ0 from ⟨hR, hF, hFL, by omega, by omega, gPV⟩)
  · refine lv_aload_n hx hb dX12_nots_7 rfl (lv_at hl 0 rfl) ?_
    refine fg_12_37 (k := 387) hx hb hts in_X12_nots_12 hown hK hP (by decide) (by decide) (hts _ lk_X12_nots_71) dX12_nots_8 ?_
    refine lv_aload_n hx hb dX12_nots_11 rfl (lv_at hl 0 rfl) ?_
    refine fg_12_40 (k := 387) hx hb hts in_X12_nots_12 hown hK hP (by decide) (by decide) (hts _ lk_X12_nots_434) dX12_nots_12 ?_
    refine r_iconst hx hb dX12_nots_15 (by decide) (fun z2 ez2 => ?_)
    refine r_isub hx hb dX12_nots_16 (by omega) (fun z3 ez3 => ?_)
    obtain ⟨j4, ej4⟩ : ∃ j : Nat, z3.toInt = (j : Int) := ⟨_, ti_nat (by omega)⟩
    refine ad_mstack (k := 401) (j := j4) hx hb hK hP (by decide) (by decide) ej4 (by omega) dX12_nots_17 ?_
    refine r_bipush hx hb dX12_nots_18 (by decide) (fun z5 ez5 => ?_)
    refine r_icmp_ne (tgt := 54) hx hb dX12_nots_20 (by decide) (fun c6 => ?_) (fun c6 => ?_)
    · exact r_vret hx hb hr hK hP hS hk dX12_nots_54 (show P_X12_nots σ0 τ0 σ τ0 from ⟨hR, hF, hFL, by omega, by omega, gPV⟩)
    · refine lv_aload_n hx hb dX12_nots_23 rfl (lv_at hl 0 rfl) ?_
      refine lv_dup hx hb dX12_nots_24 rfl ?_
      refine fg_12_40 (k := 387) hx hb hts in_X12_nots_12 hown hK hP (by decide) (by decide) (hts _ lk_X12_nots_434) dX12_nots_25 ?_
      refine r_iconst hx hb dX12_nots_28 (by decide) (fun z7 ez7 => ?_)
      refine r_isub hx hb dX12_nots_29 (by omega) (fun z8 ez8 => ?_)
      refine fp_12_40 (k := 387) hx hb hts in_X12_nots_12 hown hK hP (by decide) (by decide) (hts _ lk_X12_nots_434) hI hR hS (by omega) dX12_nots_30 (fun σ9 H9 locs9 u9 v9 hR hP hS => ?_)
      have ut := u9
      have vt := v9
      have hF := hF.puts u9 0 rfl (by decide) (by decide) (by decide) (by decide)
      have t10 : (σ9 387 42).toInt = (σ 387 42).toInt := congrArg Int32.toInt (u9 387 42 (by omega))
      have t11 : (σ9 387 38).toInt = (σ 387 38).toInt := congrArg Int32.toInt (u9 387 38 (by omega))
      have t12 : (σ9 401 j4).toInt = (σ 401 j4).toInt := congrArg Int32.toInt (u9 401 j4 (by omega))
      refine lv_aload_n hx hb dX12_nots_33 rfl (lv_at hl 0 rfl) ?_
      refine lv_dup hx hb dX12_nots_34 rfl ?_
      refine fg_12_41 (k := 387) hx hb hts in_X12_nots_12 hown hK hP (by decide) (by decide) (hts _ lk_X12_nots_440) dX12_nots_35 ?_
      refine r_iconst hx hb dX12_nots_38 (by decide) (fun z13 ez13 => ?_)
      refine r_isubU hx hb dX12_nots_39 (fun z14 => ?_)
      refine fp_12_41 (k := 387) hx hb hts in_X12_nots_12 hown hK hP (by decide) (by decide) (hts _ lk_X12_nots_440) hI hR hS dX12_nots_40 (fun σ15 H15 locs15 u15 v15 hR hP hS => ?_)
      have ue := u15
      have ve := v15
      have hF := hF.puts u15 0 rfl (by decide) (by decide) (by decide) (by decide)
      have t16 : (σ15 387 42).toInt = (σ9 387 42).toInt := congrArg Int32.toInt (u15 387 42 (by omega))
      have t17 : (σ15 387 38).toInt = (σ9 387 38).toInt := congrArg Int32.toInt (u15 387 38 (by omega))
      have t18 : (σ15 401 j4).toInt = (σ9 401 j4).toInt := congrArg Int32.toInt (u15 401 j4 (by omega))
      have t19 : (σ15 387 40).toInt = (σ9 387 40).toInt := congrArg Int32.toInt (u15 387 40 (by omega))
      refine lv_aload_n hx hb dX12_nots_43 rfl (lv_at hl 0 rfl) ?_
      refine r_bipush hx hb dX12_nots_44 (by decide) (fun z20 ez20 => ?_)
      refine r_iconst hx hb dX12_nots_46 (by decide) (fun z21 ez21 => ?_)
      refine r_iconst hx hb dX12_nots_47 (by decide) (fun z22 ez22 => ?_)
      refine r_cVv (k := 387) (As := [.int z20, .int z21, .int z22]) (rest := []) ⟨hx, hb, hml, hown, hts⟩ hK hP hN hS (c_X12_code l D cA ad hI σ15 τ0 hR z20 z21 z22 (by omega) (by omega) (by omega)) (cwV 3 hts gX12_nots_X12_code rfl rfl rfl (by decide +kernel) ⟨by decide, by decide⟩) (rv_M hK hP (by decide) (by decide)) rfl hl.1 rfl (Nat.le_of_ble_eq_true rfl) dX12_nots_48 (Nat.zero_le _) (Nat.zero_le _) (fun u23 H23 locs23 hp23 hP hS => ?_)
      obtain ⟨σ23, τ23⟩ := u23
      obtain ⟨hR, f23, fL23, hp23_0⟩ : P_X12_code σ15 τ0 z20 z21 z22 σ23 τ23 := hp23
      have cd := hp23_0
      have fc := f23
      have hP : va_P D vwCl (gw cA ad σ23 τ23) H23 := hP
      obtain rfl := FrL.nil fL23
      have hF := hF.step f23 (by decide)
      have t24 : (σ23 387 42).toInt = (σ15 387 42).toInt := congrArg Int32.toInt (f23.at 387 42 (by decide))
      have t25 : (σ23 401 j4).toInt = (σ15 401 j4).toInt := congrArg Int32.toInt (f23.atV 401 j4 (by intro q hq; simp only [L_X12_code, List.mem_cons, List.not_mem_nil, or_false] at hq; rcases hq with rfl | rfl <;> dsimp only <;> omega))
      have t26 : (σ23 387 40).toInt = (σ15 387 40).toInt := congrArg Int32.toInt (f23.at 387 40 (by decide))
      have hr27 := rg_12_38 hR (k := 387) (by decide) (by decide)
      have gPV := PV.nott (j := j4) gPV (by omega) ut (by omega) ue (by omega) (by omega) (by omega) cd fc (by decide) (by omega)
      obtain ⟨cc0, hcc1, hcc2, _, _⟩ := id cd
      refine lv_goto (tgt := 0) hx hb dX12_nots_51 (by decide) ?_
      exact K0 σ23 τ0 H23 locs23  ls hR hF hFL hP hS (by omega) (by omega) (by omega) (by omega) (by omega) (by omega) gPV (lv_sub hl [0] rfl) (by omega)
theorem A_X12_nots (p : Program) (l : Launch) (e : Env) (s : State) (m : MethodId) (args : Array Value) (below : List Frame) (meth : Method) (c : Code) (D : va_G) (cA : Nat → ClassId) (ad : Nat → Nat) (σ0 : Nat → Nat → Int32) (τ0 : Nat → Nat → Int64)  (C : Cy p s m args meth c cX12_nots 1 wsX12_nots RX12 D cA ad none) (hpre0 : (σ0 387 42).toInt = 1) (hpre1 : (σ0 387 38).toInt + (σ0 387 40).toInt ≤ 40) (gPV0 : PV σ0) : ∀ n : Nat, J_X12_nots_0 p l e s m args below meth c D cA ad σ0 τ0 n := by
  intro n
  induction n with
  | zero =>
    exact (by intro σ τ H locs ls hR hF hFL hP hS hc0 hc1 hc2 hi0 hi1 hi2 gPV hl hm; exfalso; omega)
  | succ n ih =>
    exact B_X12_nots_0 p l e s m args below meth c D cA ad σ0 τ0 n C hpre0 hpre1 gPV0 ih
set_option maxHeartbeats 4000000 in
theorem c_X12_nots (l : Launch) (D : va_G) (cA : Nat → ClassId) (ad : Nat → Nat) (hI : Inj ad) (σ0 : Nat → Nat → Int32) (τ0 : Nat → Nat → Int64) (hR : Rg σ0)  (hpre0 : (σ0 387 42).toInt = 1) (hpre1 : (σ0 387 38).toInt + (σ0 387 40).toInt ≤ 40) (gPV0 : PV σ0) : Met l yX12_nots wsX12_nots ({ frames := 1, cells := 0, slots := 0, locals := 23 } : Room) (WQc D cA ad [.ref (ad 387)] σ0 τ0) (va_Qv (fun u : SS => P_X12_nots σ0 τ0 u.1 u.2) (WB D cA ad) (AA ad)) 0 0 (AA ad) := by
  refine Met.ofW (cc := cX12_nots) (maxL := 1) (ret := none) (by decide) rfl ?_
  intro p e s m args below meth c s₁ B hml hv
  obtain ⟨rfl, hP, hK, hN⟩ := hv
  have C : Cy p s m _ meth c cX12_nots 1 wsX12_nots RX12 D cA ad none := ⟨B.exec, B.bytes, hml, findClass_of_methodNamed B.named, atoms_spec (ws := wsX12_nots) B.pre, hK, B.notSynchronized, B.returns, hI, hN⟩
  have hl := lv_entry ([.ref (ad 387)]) (n := 1) (Nat.le_of_ble_eq_true rfl)
  rw [lg_entry_eq]
  generalize (lg_sl ([.ref (ad 387)]) ++ List.replicate (1 - (lg_sl ([.ref (ad 387)])).length) Slot.unset).toArray = ls at hl ⊢
  have hl : lv_has ls 1 [(0, .ref (ad 387))] := hl
  have hS : va_S (AA ad) s.heap s.heap [] := va_S.rf
  have hF : Fr L_X12_nots σ0 σ0 := Fr.rf
  have hFL : FrL LL_X12_nots τ0 τ0 := FrL.rf
  have gPV := gPV0
  have hA := A_X12_nots p l e s m _ below meth c D cA ad σ0 τ0 C hpre0 hpre1 gPV0 170
  have K0 := hA
  clear hA
  obtain ⟨hx, hb, _, hown, hts, _, hk, hr, _, _⟩ := C
  have hrt38 := rg_12_38 hR (k := 387) (by decide) (by decide)
  have hrt40 := rg_12_40 hR (k := 387) (by decide) (by decide)
  have hrt42 := rg_12_42 hR (k := 387) (by decide) (by decide)
  exact K0 σ0 τ0 s.heap []  ls hR hF hFL hP hS (by omega) (by omega) (by omega) (by omega) (by omega) (by omega) gPV (lv_sub hl [0] rfl) (by omega)
theorem in_X12_behind_12 : ∀ w ∈ u_ws RX12 TX12 47, w ∈ wsX12_behind := by decide +kernel
theorem lk_X12_behind_127 : Cond.constantLong RX12 127 (28530) ∈ wsX12_behind := by decide +kernel
theorem lk_X12_behind_129 : Cond.constantLong RX12 129 (6385252) ∈ wsX12_behind := by decide +kernel
theorem lk_X12_behind_434 : Cond.fieldLink RX12 434 "CuckooSharesModel" "top" "I" ∈ wsX12_behind := by decide +kernel
theorem lk_X12_behind_440 : Cond.fieldLink RX12 440 "CuckooSharesModel" "deep" "I" ∈ wsX12_behind := by decide +kernel
theorem lk_X12_behind_449 : Cond.fieldLink RX12 449 "CuckooSharesModel" "isWhole" "Z" ∈ wsX12_behind := by decide +kernel
theorem lk_X12_behind_71 : Cond.fieldLink RX12 71 "CuckooSharesModel" "stack" "[I" ∈ wsX12_behind := by decide +kernel
abbrev L_X12_behind : List Rc := [(391, 391, 0, 119), (387, 387, 38, 38), (401, 401, 0, 40), (387, 387, 40, 42), (387, 387, 4, 4), (387, 387, 11, 16)]
abbrev LL_X12_behind : List Rc := [(387, 387, 17, 17)]
def P_X12_behind (σ0 : Nat → Nat → Int32) (τ0 : Nat → Nat → Int64)  (r : Int32) (σ : Nat → Nat → Int32) (τ : Nat → Nat → Int64) : Prop := Rg σ ∧ Fr L_X12_behind σ0 σ ∧ FrL LL_X12_behind τ0 τ ∧ (0 ≤ r.toInt ∧ r.toInt ≤ 1) ∧ (r.toInt = 0 ∨ PV σ) ∧ (r.toInt = 0 ∨ (σ 387 38).toInt + (σ 387 40).toInt + (σ 387 42).toInt ≤ 2 * (σ 387 39).toInt) ∧ (r.toInt = 0 ∨ 2 * (σ 387 40).toInt + 3 * (σ 387 42).toInt < 2 * (σ0 387 40).toInt + 3)
set_option maxHeartbeats 4000000 in
theorem c_X12_behind (l : Launch) (D : va_G) (cA : Nat → ClassId) (ad : Nat → Nat) (hI : Inj ad) (σ0 : Nat → Nat → Int32) (τ0 : Nat → Nat → Int64) (hR : Rg σ0)  (hpre0 : (σ0 387 42).toInt = 1) (hpre1 : (σ0 387 38).toInt + (σ0 387 40).toInt + 1 ≤ 2 * (σ0 387 39).toInt) (gPV0 : PV σ0) : Met l yX12_behind wsX12_behind ({ frames := 2, cells := 0, slots := 0, locals := 44 } : Room) (WQc D cA ad [.ref (ad 387)] σ0 τ0) (va_Qi (fun (r : Int32) (u : SS) => P_X12_behind σ0 τ0 r u.1 u.2) (WB D cA ad) (AA ad)) 0 0 (AA ad) := by
  refine Met.ofW (cc := cX12_behind) (maxL := 1) (ret := (some .boolean)) (by decide) rfl ?_
  intro p e s m args below meth c s₁ B hml hv
  obtain ⟨rfl, hP, hK, hN⟩ := hv
  have C : Cy p s m _ meth c cX12_behind 1 wsX12_behind RX12 D cA ad (some .boolean) := ⟨B.exec, B.bytes, hml, findClass_of_methodNamed B.named, atoms_spec (ws := wsX12_behind) B.pre, hK, B.notSynchronized, B.returns, hI, hN⟩
  have hl := lv_entry ([.ref (ad 387)]) (n := 1) (Nat.le_of_ble_eq_true rfl)
  rw [lg_entry_eq]
  generalize (lg_sl ([.ref (ad 387)]) ++ List.replicate (1 - (lg_sl ([.ref (ad 387)])).length) Slot.unset).toArray = ls at hl ⊢
  have hl : lv_has ls 1 [(0, .ref (ad 387))] := hl
  have hS : va_S (AA ad) s.heap s.heap [] := va_S.rf
  have hF : Fr L_X12_behind σ0 σ0 := Fr.rf
  have hFL : FrL LL_X12_behind τ0 τ0 := FrL.rf
  have gPV := gPV0
  obtain ⟨hx, hb, _, hown, hts, _, hk, hr, _, _⟩ := C
  have hrt38 := rg_12_38 hR (k := 387) (by decide) (by decide)
  have hrt39 := rg_12_39 hR (k := 387) (by decide) (by decide)
  have hrt40 := rg_12_40 hR (k := 387) (by decide) (by decide)
  have hrt42 := rg_12_42 hR (k := 387) (by decide) (by decide)
  refine lv_aload_n hx hb dX12_behind_0 rfl (lv_at hl 0 rfl) ?_
  refine r_cVv (k := 387) (As := []) (rest := []) ⟨hx, hb, hml, hown, hts⟩ hK hP hN hS (c_X12_nots l D cA ad hI σ0 τ0 hR (by omega) (by omega) gPV) (cwV 0 hts gX12_behind_X12_nots rfl rfl rfl (by decide +kernel) ⟨by decide, by decide⟩) (rv_M hK hP (by decide) (by decide)) rfl hl.1 rfl (Nat.le_of_ble_eq_true rfl) dX12_behind_1 (Nat.zero_le _) (Nat.zero_le _) (fun u1 H1 locs1 hp1 hP hS => ?_)
  obtain ⟨σ1, τ1⟩ := u1
  obtain ⟨hR, f1, fL1, hp1_0, hp1_1, gnPV⟩ : P_X12_nots σ0 τ0 σ1 τ1 := hp1
  have hP : va_P D vwCl (gw cA ad σ1 τ1) H1 := hP
  obtain rfl := FrL.nil fL1
  have hF := hF.step f1 (by decide)
  have t2 : (σ1 387 39).toInt = (σ0 387 39).toInt := congrArg Int32.toInt (f1.at 387 39 (by decide))
  have t3 : (σ1 387 42).toInt = (σ0 387 42).toInt := congrArg Int32.toInt (f1.at 387 42 (by decide))
  have hr4 := rg_12_38 hR (k := 387) (by decide) (by decide)
  have hr5 := rg_12_40 hR (k := 387) (by decide) (by decide)
  have gPV := gnPV
  refine lv_aload_n hx hb dX12_behind_4 rfl (lv_at hl 0 rfl) ?_
  refine lv_ldc2 (v := 6385252) hx hb hown (hts _ lk_X12_behind_129) dX12_behind_5 ?_
  refine r_cVi (k := 387) (As := [.long (6385252)]) (rest := []) ⟨hx, hb, hml, hown, hts⟩ hK hP hN hS (c_X12_isWord l D cA ad hI σ1 τ0 hR (6385252)) (cwV 1 hts gX12_behind_X12_isWord rfl rfl rfl (by decide +kernel) ⟨by decide, by decide⟩) (rv_M hK hP (by decide) (by decide)) rfl hl.1 rfl (Nat.le_of_ble_eq_true rfl) dX12_behind_8 (Nat.zero_le _) (Nat.zero_le _) (fun r6 u6 H6 locs6 hp6 hP hS => ?_)
  obtain ⟨σ6, τ6⟩ := u6
  obtain ⟨hR, f6, fL6, hq6, hp6_0⟩ : P_X12_isWord σ1 τ0 (6385252) r6 σ6 τ6 := hp6
  have hP : va_P D vwCl (gw cA ad σ6 τ6) H6 := hP
  obtain rfl := FrL.nil fL6
  obtain rfl := Fr.nil f6
  refine r_if_ne (tgt := 24) hx hb dX12_behind_11 (by decide) (fun c7 => ?_) (fun c7 => ?_)
  · replace hp6_0 := hp6_0.resolve_left (by omega)
    refine lv_aload_n hx hb dX12_behind_24 rfl (lv_at hl 0 rfl) ?_
    refine lv_aload_n hx hb dX12_behind_25 rfl (lv_at hl 0 rfl) ?_
    refine lv_ldc2 (v := 6385252) hx hb hown (hts _ lk_X12_behind_129) dX12_behind_26 ?_
    refine r_cVi (k := 387) (As := [.long (6385252)]) (rest := [.ref (ad 387)]) ⟨hx, hb, hml, hown, hts⟩ hK hP hN hS (c_X12_isWord l D cA ad hI σ1 τ0 hR (6385252)) (cwV 1 hts gX12_behind_X12_isWord rfl rfl rfl (by decide +kernel) ⟨by decide, by decide⟩) (rv_M hK hP (by decide) (by decide)) rfl hl.1 rfl (Nat.le_of_ble_eq_true rfl) dX12_behind_29 (Nat.zero_le _) (Nat.zero_le _) (fun r8 u8 H8 locs8 hp8 hP hS => ?_)
    obtain ⟨σ8, τ8⟩ := u8
    obtain ⟨hR, f8, fL8, hq8, hp8_0⟩ : P_X12_isWord σ1 τ0 (6385252) r8 σ8 τ8 := hp8
    have hP : va_P D vwCl (gw cA ad σ8 τ8) H8 := hP
    obtain rfl := FrL.nil fL8
    obtain rfl := Fr.nil f8
    refine r_if_eq (tgt := 40) hx hb dX12_behind_32 (by decide) (fun c9 => ?_) (fun c9 => ?_)
    · clear hp8_0
      refine r_bipush hx hb dX12_behind_40 (by decide) (fun z10 ez10 => ?_)
      refine r_cVv (k := 387) (As := [.int z10]) (rest := []) ⟨hx, hb, hml, hown, hts⟩ hK hP hN hS (c_X12_joins l D cA ad hI σ1 τ0 hR z10 (by omega) (by omega) (by omega) gPV) (cwV 1 hts gX12_behind_X12_joins rfl rfl rfl (by decide +kernel) ⟨by decide, by decide⟩) (rv_M hK hP (by decide) (by decide)) rfl hl.1 rfl (Nat.le_of_ble_eq_true rfl) dX12_behind_42 (Nat.zero_le _) (Nat.zero_le _) (fun u11 H11 locs11 hp11 hP hS => ?_)
      obtain ⟨σ11, τ11⟩ := u11
      obtain ⟨hR, f11, fL11, hp11_0, hp11_1, hp11_2, gnPV⟩ : P_X12_joins σ1 τ0 z10 σ11 τ11 := hp11
      have hP : va_P D vwCl (gw cA ad σ11 τ11) H11 := hP
      obtain rfl := FrL.nil fL11
      have hF := hF.step f11 (by decide)
      have t12 : (σ11 387 39).toInt = (σ1 387 39).toInt := congrArg Int32.toInt (f11.at 387 39 (by decide))
      have t13 : (σ11 387 42).toInt = (σ1 387 42).toInt := congrArg Int32.toInt (f11.at 387 42 (by decide))
      have hr14 := rg_12_38 hR (k := 387) (by decide) (by decide)
      have hr15 := rg_12_40 hR (k := 387) (by decide) (by decide)
      have gPV := gnPV
      refine lv_aload_n hx hb dX12_behind_45 rfl (lv_at hl 0 rfl) ?_
      refine fg_12_37 (k := 387) hx hb hts in_X12_behind_12 hown hK hP (by decide) (by decide) (hts _ lk_X12_behind_71) dX12_behind_46 ?_
      refine lv_aload_n hx hb dX12_behind_49 rfl (lv_at hl 0 rfl) ?_
      refine fg_12_40 (k := 387) hx hb hts in_X12_behind_12 hown hK hP (by decide) (by decide) (hts _ lk_X12_behind_434) dX12_behind_50 ?_
      refine lv_aload_n hx hb dX12_behind_53 rfl (lv_at hl 0 rfl) ?_
      refine lv_ldc2 (v := 6385252) hx hb hown (hts _ lk_X12_behind_129) dX12_behind_54 ?_
      refine r_cVi (k := 387) (As := [.long (6385252)]) (rest := [.int (σ11 387 40), .ref (ad 401)]) ⟨hx, hb, hml, hown, hts⟩ hK hP hN hS (c_X12_isWord l D cA ad hI σ11 τ0 hR (6385252)) (cwV 1 hts gX12_behind_X12_isWord rfl rfl rfl (by decide +kernel) ⟨by decide, by decide⟩) (rv_M hK hP (by decide) (by decide)) rfl hl.1 rfl (Nat.le_of_ble_eq_true rfl) dX12_behind_57 (Nat.zero_le _) (Nat.zero_le _) (fun r16 u16 H16 locs16 hp16 hP hS => ?_)
      obtain ⟨σ16, τ16⟩ := u16
      obtain ⟨hR, f16, fL16, hq16, hp16_0⟩ : P_X12_isWord σ11 τ0 (6385252) r16 σ16 τ16 := hp16
      have hP : va_P D vwCl (gw cA ad σ16 τ16) H16 := hP
      obtain rfl := FrL.nil fL16
      obtain rfl := Fr.nil f16
      refine r_if_eq (tgt := 68) hx hb dX12_behind_60 (by decide) (fun c17 => ?_) (fun c17 => ?_)
      · clear hp16_0
        refine r_bipush hx hb dX12_behind_68 (by decide) (fun z18 ez18 => ?_)
        obtain ⟨j19, ej19⟩ : ∃ j : Nat, (σ11 387 40).toInt = (j : Int) := ⟨_, ti_nat (by omega)⟩
        refine as_mstack (k := 401) (j := j19) hx hb hK hP hI hR hS (by decide) (by decide) ej19 (by omega) dX12_behind_70 (fun σ20 H20 locs20 u20 v20 hR hP hS => ?_)
        have ua := u20
        have va := v20
        have hF := hF.puts u20 2 rfl (by decide) (by decide) (by omega) (by omega)
        have t21 : (σ20 387 39).toInt = (σ11 387 39).toInt := congrArg Int32.toInt (u20 387 39 (by omega))
        have t22 : (σ20 387 42).toInt = (σ11 387 42).toInt := congrArg Int32.toInt (u20 387 42 (by omega))
        have t23 : (σ20 387 38).toInt = (σ11 387 38).toInt := congrArg Int32.toInt (u20 387 38 (by omega))
        have t24 : (σ20 387 40).toInt = (σ11 387 40).toInt := congrArg Int32.toInt (u20 387 40 (by omega))
        refine lv_aload_n hx hb dX12_behind_71 rfl (lv_at hl 0 rfl) ?_
        refine lv_dup hx hb dX12_behind_72 rfl ?_
        refine fg_12_40 (k := 387) hx hb hts in_X12_behind_12 hown hK hP (by decide) (by decide) (hts _ lk_X12_behind_434) dX12_behind_73 ?_
        refine r_iconst hx hb dX12_behind_76 (by decide) (fun z25 ez25 => ?_)
        refine r_iadd hx hb dX12_behind_77 (by omega) (fun z26 ez26 => ?_)
        refine fp_12_40 (k := 387) hx hb hts in_X12_behind_12 hown hK hP (by decide) (by decide) (hts _ lk_X12_behind_434) hI hR hS (by omega) dX12_behind_78 (fun σ27 H27 locs27 u27 v27 hR hP hS => ?_)
        have ub := u27
        have vb := v27
        have hF := hF.puts u27 3 rfl (by decide) (by decide) (by decide) (by decide)
        have t28 : (σ27 387 39).toInt = (σ20 387 39).toInt := congrArg Int32.toInt (u27 387 39 (by omega))
        have t29 : (σ27 387 42).toInt = (σ20 387 42).toInt := congrArg Int32.toInt (u27 387 42 (by omega))
        have t30 : (σ27 387 38).toInt = (σ20 387 38).toInt := congrArg Int32.toInt (u27 387 38 (by omega))
        refine lv_aload_n hx hb dX12_behind_81 rfl (lv_at hl 0 rfl) ?_
        refine r_iconst hx hb dX12_behind_82 (by decide) (fun z31 ez31 => ?_)
        refine fp_12_42 (k := 387) hx hb hts in_X12_behind_12 hown hK hP (by decide) (by decide) (hts _ lk_X12_behind_449) hI hR hS (by omega) dX12_behind_83 (fun σ32 H32 locs32 u32 v32 hR hP hS => ?_)
        have uc := u32
        have vc := v32
        have hF := hF.puts u32 3 rfl (by decide) (by decide) (by decide) (by decide)
        have t33 : (σ32 387 39).toInt = (σ27 387 39).toInt := congrArg Int32.toInt (u32 387 39 (by omega))
        have t34 : (σ32 387 38).toInt = (σ27 387 38).toInt := congrArg Int32.toInt (u32 387 38 (by omega))
        have t35 : (σ32 387 40).toInt = (σ27 387 40).toInt := congrArg Int32.toInt (u32 387 40 (by omega))
        have gPV := PV.bin gPV (by omega) ua va (by omega) (by omega) ub (by omega) uc (by omega)
        refine lv_aload_n hx hb dX12_behind_86 rfl (lv_at hl 0 rfl) ?_
        refine r_cVv (k := 387) (As := []) (rest := []) ⟨hx, hb, hml, hown, hts⟩ hK hP hN hS (c_X12_next l D cA ad hI σ32 τ0 hR) (cwV 0 hts gX12_behind_X12_next rfl rfl rfl (by decide +kernel) ⟨by decide, by decide⟩) (rv_M hK hP (by decide) (by decide)) rfl hl.1 rfl (Nat.le_of_ble_eq_true rfl) dX12_behind_87 (Nat.zero_le _) (Nat.zero_le _) (fun u36 H36 locs36 hp36 hP hS => ?_)
        obtain ⟨σ36, τ36⟩ := u36
        obtain ⟨hR, f36, fL36, hp36_0, hp36_1, hp36_2⟩ : P_X12_next σ32 τ0 σ36 τ36 := hp36
        have hP : va_P D vwCl (gw cA ad σ36 τ36) H36 := hP
        have hFL := hFL.step fL36 (by decide)
        have hF := hF.step f36 (by decide)
        have gPV := PV.fr gPV hR f36 (by decide)
        have t37 : (σ36 387 39).toInt = (σ32 387 39).toInt := congrArg Int32.toInt (f36.at 387 39 (by decide))
        have t38 : (σ36 387 38).toInt = (σ32 387 38).toInt := congrArg Int32.toInt (f36.at 387 38 (by decide))
        have t39 : (σ36 387 40).toInt = (σ32 387 40).toInt := congrArg Int32.toInt (f36.at 387 40 (by decide))
        have t40 : (σ36 387 42).toInt = (σ32 387 42).toInt := congrArg Int32.toInt (f36.at 387 42 (by decide))
        refine r_iconst hx hb dX12_behind_90 (by decide) (fun z41 ez41 => ?_)
        exact r_zret hx hb hr hK hP hS hk (by omega) dX12_behind_91 (show P_X12_behind σ0 τ0 z41 σ36 τ36 from ⟨hR, hF, hFL, by omega, by first | exact Or.inl (by omega) | exact Or.inr gPV, by omega, by omega⟩)
      · replace hp16_0 := hp16_0.resolve_left (by omega)
        refine r_bipush hx hb dX12_behind_63 (by decide) (fun z42 ez42 => ?_)
        refine lv_goto (tgt := 70) hx hb dX12_behind_65 (by decide) ?_
        obtain ⟨j43, ej43⟩ : ∃ j : Nat, (σ11 387 40).toInt = (j : Int) := ⟨_, ti_nat (by omega)⟩
        refine as_mstack (k := 401) (j := j43) hx hb hK hP hI hR hS (by decide) (by decide) ej43 (by omega) dX12_behind_70 (fun σ44 H44 locs44 u44 v44 hR hP hS => ?_)
        have ua := u44
        have va := v44
        have hF := hF.puts u44 2 rfl (by decide) (by decide) (by omega) (by omega)
        have t45 : (σ44 387 39).toInt = (σ11 387 39).toInt := congrArg Int32.toInt (u44 387 39 (by omega))
        have t46 : (σ44 387 42).toInt = (σ11 387 42).toInt := congrArg Int32.toInt (u44 387 42 (by omega))
        have t47 : (σ44 387 38).toInt = (σ11 387 38).toInt := congrArg Int32.toInt (u44 387 38 (by omega))
        have t48 : (σ44 387 40).toInt = (σ11 387 40).toInt := congrArg Int32.toInt (u44 387 40 (by omega))
        refine lv_aload_n hx hb dX12_behind_71 rfl (lv_at hl 0 rfl) ?_
        refine lv_dup hx hb dX12_behind_72 rfl ?_
        refine fg_12_40 (k := 387) hx hb hts in_X12_behind_12 hown hK hP (by decide) (by decide) (hts _ lk_X12_behind_434) dX12_behind_73 ?_
        refine r_iconst hx hb dX12_behind_76 (by decide) (fun z49 ez49 => ?_)
        refine r_iadd hx hb dX12_behind_77 (by omega) (fun z50 ez50 => ?_)
        refine fp_12_40 (k := 387) hx hb hts in_X12_behind_12 hown hK hP (by decide) (by decide) (hts _ lk_X12_behind_434) hI hR hS (by omega) dX12_behind_78 (fun σ51 H51 locs51 u51 v51 hR hP hS => ?_)
        have ub := u51
        have vb := v51
        have hF := hF.puts u51 3 rfl (by decide) (by decide) (by decide) (by decide)
        have t52 : (σ51 387 39).toInt = (σ44 387 39).toInt := congrArg Int32.toInt (u51 387 39 (by omega))
        have t53 : (σ51 387 42).toInt = (σ44 387 42).toInt := congrArg Int32.toInt (u51 387 42 (by omega))
        have t54 : (σ51 387 38).toInt = (σ44 387 38).toInt := congrArg Int32.toInt (u51 387 38 (by omega))
        refine lv_aload_n hx hb dX12_behind_81 rfl (lv_at hl 0 rfl) ?_
        refine r_iconst hx hb dX12_behind_82 (by decide) (fun z55 ez55 => ?_)
        refine fp_12_42 (k := 387) hx hb hts in_X12_behind_12 hown hK hP (by decide) (by decide) (hts _ lk_X12_behind_449) hI hR hS (by omega) dX12_behind_83 (fun σ56 H56 locs56 u56 v56 hR hP hS => ?_)
        have uc := u56
        have vc := v56
        have hF := hF.puts u56 3 rfl (by decide) (by decide) (by decide) (by decide)
        have t57 : (σ56 387 39).toInt = (σ51 387 39).toInt := congrArg Int32.toInt (u56 387 39 (by omega))
        have t58 : (σ56 387 38).toInt = (σ51 387 38).toInt := congrArg Int32.toInt (u56 387 38 (by omega))
        have t59 : (σ56 387 40).toInt = (σ51 387 40).toInt := congrArg Int32.toInt (u56 387 40 (by omega))
        have gPV := PV.bin gPV (by omega) ua va (by omega) (by omega) ub (by omega) uc (by omega)
        refine lv_aload_n hx hb dX12_behind_86 rfl (lv_at hl 0 rfl) ?_
        refine r_cVv (k := 387) (As := []) (rest := []) ⟨hx, hb, hml, hown, hts⟩ hK hP hN hS (c_X12_next l D cA ad hI σ56 τ0 hR) (cwV 0 hts gX12_behind_X12_next rfl rfl rfl (by decide +kernel) ⟨by decide, by decide⟩) (rv_M hK hP (by decide) (by decide)) rfl hl.1 rfl (Nat.le_of_ble_eq_true rfl) dX12_behind_87 (Nat.zero_le _) (Nat.zero_le _) (fun u60 H60 locs60 hp60 hP hS => ?_)
        obtain ⟨σ60, τ60⟩ := u60
        obtain ⟨hR, f60, fL60, hp60_0, hp60_1, hp60_2⟩ : P_X12_next σ56 τ0 σ60 τ60 := hp60
        have hP : va_P D vwCl (gw cA ad σ60 τ60) H60 := hP
        have hFL := hFL.step fL60 (by decide)
        have hF := hF.step f60 (by decide)
        have gPV := PV.fr gPV hR f60 (by decide)
        have t61 : (σ60 387 39).toInt = (σ56 387 39).toInt := congrArg Int32.toInt (f60.at 387 39 (by decide))
        have t62 : (σ60 387 38).toInt = (σ56 387 38).toInt := congrArg Int32.toInt (f60.at 387 38 (by decide))
        have t63 : (σ60 387 40).toInt = (σ56 387 40).toInt := congrArg Int32.toInt (f60.at 387 40 (by decide))
        have t64 : (σ60 387 42).toInt = (σ56 387 42).toInt := congrArg Int32.toInt (f60.at 387 42 (by decide))
        refine r_iconst hx hb dX12_behind_90 (by decide) (fun z65 ez65 => ?_)
        exact r_zret hx hb hr hK hP hS hk (by omega) dX12_behind_91 (show P_X12_behind σ0 τ0 z65 σ60 τ60 from ⟨hR, hF, hFL, by omega, by first | exact Or.inl (by omega) | exact Or.inr gPV, by omega, by omega⟩)
    · replace hp8_0 := hp8_0.resolve_left (by omega)
      refine r_bipush hx hb dX12_behind_35 (by decide) (fun z66 ez66 => ?_)
      refine lv_goto (tgt := 42) hx hb dX12_behind_37 (by decide) ?_
      refine r_cVv (k := 387) (As := [.int z66]) (rest := []) ⟨hx, hb, hml, hown, hts⟩ hK hP hN hS (c_X12_joins l D cA ad hI σ1 τ0 hR z66 (by omega) (by omega) (by omega) gPV) (cwV 1 hts gX12_behind_X12_joins rfl rfl rfl (by decide +kernel) ⟨by decide, by decide⟩) (rv_M hK hP (by decide) (by decide)) rfl hl.1 rfl (Nat.le_of_ble_eq_true rfl) dX12_behind_42 (Nat.zero_le _) (Nat.zero_le _) (fun u67 H67 locs67 hp67 hP hS => ?_)
      obtain ⟨σ67, τ67⟩ := u67
      obtain ⟨hR, f67, fL67, hp67_0, hp67_1, hp67_2, gnPV⟩ : P_X12_joins σ1 τ0 z66 σ67 τ67 := hp67
      have hP : va_P D vwCl (gw cA ad σ67 τ67) H67 := hP
      obtain rfl := FrL.nil fL67
      have hF := hF.step f67 (by decide)
      have t68 : (σ67 387 39).toInt = (σ1 387 39).toInt := congrArg Int32.toInt (f67.at 387 39 (by decide))
      have t69 : (σ67 387 42).toInt = (σ1 387 42).toInt := congrArg Int32.toInt (f67.at 387 42 (by decide))
      have hr70 := rg_12_38 hR (k := 387) (by decide) (by decide)
      have hr71 := rg_12_40 hR (k := 387) (by decide) (by decide)
      have gPV := gnPV
      refine lv_aload_n hx hb dX12_behind_45 rfl (lv_at hl 0 rfl) ?_
      refine fg_12_37 (k := 387) hx hb hts in_X12_behind_12 hown hK hP (by decide) (by decide) (hts _ lk_X12_behind_71) dX12_behind_46 ?_
      refine lv_aload_n hx hb dX12_behind_49 rfl (lv_at hl 0 rfl) ?_
      refine fg_12_40 (k := 387) hx hb hts in_X12_behind_12 hown hK hP (by decide) (by decide) (hts _ lk_X12_behind_434) dX12_behind_50 ?_
      refine lv_aload_n hx hb dX12_behind_53 rfl (lv_at hl 0 rfl) ?_
      refine lv_ldc2 (v := 6385252) hx hb hown (hts _ lk_X12_behind_129) dX12_behind_54 ?_
      refine r_cVi (k := 387) (As := [.long (6385252)]) (rest := [.int (σ67 387 40), .ref (ad 401)]) ⟨hx, hb, hml, hown, hts⟩ hK hP hN hS (c_X12_isWord l D cA ad hI σ67 τ0 hR (6385252)) (cwV 1 hts gX12_behind_X12_isWord rfl rfl rfl (by decide +kernel) ⟨by decide, by decide⟩) (rv_M hK hP (by decide) (by decide)) rfl hl.1 rfl (Nat.le_of_ble_eq_true rfl) dX12_behind_57 (Nat.zero_le _) (Nat.zero_le _) (fun r72 u72 H72 locs72 hp72 hP hS => ?_)
      obtain ⟨σ72, τ72⟩ := u72
      obtain ⟨hR, f72, fL72, hq72, hp72_0⟩ : P_X12_isWord σ67 τ0 (6385252) r72 σ72 τ72 := hp72
      have hP : va_P D vwCl (gw cA ad σ72 τ72) H72 := hP
      obtain rfl := FrL.nil fL72
      obtain rfl := Fr.nil f72
      refine r_if_eq (tgt := 68) hx hb dX12_behind_60 (by decide) (fun c73 => ?_) (fun c73 => ?_)
      · clear hp72_0
        refine r_bipush hx hb dX12_behind_68 (by decide) (fun z74 ez74 => ?_)
        obtain ⟨j75, ej75⟩ : ∃ j : Nat, (σ67 387 40).toInt = (j : Int) := ⟨_, ti_nat (by omega)⟩
        refine as_mstack (k := 401) (j := j75) hx hb hK hP hI hR hS (by decide) (by decide) ej75 (by omega) dX12_behind_70 (fun σ76 H76 locs76 u76 v76 hR hP hS => ?_)
        have ua := u76
        have va := v76
        have hF := hF.puts u76 2 rfl (by decide) (by decide) (by omega) (by omega)
        have t77 : (σ76 387 39).toInt = (σ67 387 39).toInt := congrArg Int32.toInt (u76 387 39 (by omega))
        have t78 : (σ76 387 42).toInt = (σ67 387 42).toInt := congrArg Int32.toInt (u76 387 42 (by omega))
        have t79 : (σ76 387 38).toInt = (σ67 387 38).toInt := congrArg Int32.toInt (u76 387 38 (by omega))
        have t80 : (σ76 387 40).toInt = (σ67 387 40).toInt := congrArg Int32.toInt (u76 387 40 (by omega))
        refine lv_aload_n hx hb dX12_behind_71 rfl (lv_at hl 0 rfl) ?_
        refine lv_dup hx hb dX12_behind_72 rfl ?_
        refine fg_12_40 (k := 387) hx hb hts in_X12_behind_12 hown hK hP (by decide) (by decide) (hts _ lk_X12_behind_434) dX12_behind_73 ?_
        refine r_iconst hx hb dX12_behind_76 (by decide) (fun z81 ez81 => ?_)
        refine r_iadd hx hb dX12_behind_77 (by omega) (fun z82 ez82 => ?_)
        refine fp_12_40 (k := 387) hx hb hts in_X12_behind_12 hown hK hP (by decide) (by decide) (hts _ lk_X12_behind_434) hI hR hS (by omega) dX12_behind_78 (fun σ83 H83 locs83 u83 v83 hR hP hS => ?_)
        have ub := u83
        have vb := v83
        have hF := hF.puts u83 3 rfl (by decide) (by decide) (by decide) (by decide)
        have t84 : (σ83 387 39).toInt = (σ76 387 39).toInt := congrArg Int32.toInt (u83 387 39 (by omega))
        have t85 : (σ83 387 42).toInt = (σ76 387 42).toInt := congrArg Int32.toInt (u83 387 42 (by omega))
        have t86 : (σ83 387 38).toInt = (σ76 387 38).toInt := congrArg Int32.toInt (u83 387 38 (by omega))
        refine lv_aload_n hx hb dX12_behind_81 rfl (lv_at hl 0 rfl) ?_
        refine r_iconst hx hb dX12_behind_82 (by decide) (fun z87 ez87 => ?_)
        refine fp_12_42 (k := 387) hx hb hts in_X12_behind_12 hown hK hP (by decide) (by decide) (hts _ lk_X12_behind_449) hI hR hS (by omega) dX12_behind_83 (fun σ88 H88 locs88 u88 v88 hR hP hS => ?_)
        have uc := u88
        have vc := v88
        have hF := hF.puts u88 3 rfl (by decide) (by decide) (by decide) (by decide)
        have t89 : (σ88 387 39).toInt = (σ83 387 39).toInt := congrArg Int32.toInt (u88 387 39 (by omega))
        have t90 : (σ88 387 38).toInt = (σ83 387 38).toInt := congrArg Int32.toInt (u88 387 38 (by omega))
        have t91 : (σ88 387 40).toInt = (σ83 387 40).toInt := congrArg Int32.toInt (u88 387 40 (by omega))
        have gPV := PV.bin gPV (by omega) ua va (by omega) (by omega) ub (by omega) uc (by omega)
        refine lv_aload_n hx hb dX12_behind_86 rfl (lv_at hl 0 rfl) ?_
        refine r_cVv (k := 387) (As := []) (rest := []) ⟨hx, hb, hml, hown, hts⟩ hK hP hN hS (c_X12_next l D cA ad hI σ88 τ0 hR) (cwV 0 hts gX12_behind_X12_next rfl rfl rfl (by decide +kernel) ⟨by decide, by decide⟩) (rv_M hK hP (by decide) (by decide)) rfl hl.1 rfl (Nat.le_of_ble_eq_true rfl) dX12_behind_87 (Nat.zero_le _) (Nat.zero_le _) (fun u92 H92 locs92 hp92 hP hS => ?_)
        obtain ⟨σ92, τ92⟩ := u92
        obtain ⟨hR, f92, fL92, hp92_0, hp92_1, hp92_2⟩ : P_X12_next σ88 τ0 σ92 τ92 := hp92
        have hP : va_P D vwCl (gw cA ad σ92 τ92) H92 := hP
        have hFL := hFL.step fL92 (by decide)
        have hF := hF.step f92 (by decide)
        have gPV := PV.fr gPV hR f92 (by decide)
        have t93 : (σ92 387 39).toInt = (σ88 387 39).toInt := congrArg Int32.toInt (f92.at 387 39 (by decide))
        have t94 : (σ92 387 38).toInt = (σ88 387 38).toInt := congrArg Int32.toInt (f92.at 387 38 (by decide))
        have t95 : (σ92 387 40).toInt = (σ88 387 40).toInt := congrArg Int32.toInt (f92.at 387 40 (by decide))
        have t96 : (σ92 387 42).toInt = (σ88 387 42).toInt := congrArg Int32.toInt (f92.at 387 42 (by decide))
        refine r_iconst hx hb dX12_behind_90 (by decide) (fun z97 ez97 => ?_)
        exact r_zret hx hb hr hK hP hS hk (by omega) dX12_behind_91 (show P_X12_behind σ0 τ0 z97 σ92 τ92 from ⟨hR, hF, hFL, by omega, by first | exact Or.inl (by omega) | exact Or.inr gPV, by omega, by omega⟩)
      · replace hp72_0 := hp72_0.resolve_left (by omega)
        refine r_bipush hx hb dX12_behind_63 (by decide) (fun z98 ez98 => ?_)
        refine lv_goto (tgt := 70) hx hb dX12_behind_65 (by decide) ?_
        obtain ⟨j99, ej99⟩ : ∃ j : Nat, (σ67 387 40).toInt = (j : Int) := ⟨_, ti_nat (by omega)⟩
        refine as_mstack (k := 401) (j := j99) hx hb hK hP hI hR hS (by decide) (by decide) ej99 (by omega) dX12_behind_70 (fun σ100 H100 locs100 u100 v100 hR hP hS => ?_)
        have ua := u100
        have va := v100
        have hF := hF.puts u100 2 rfl (by decide) (by decide) (by omega) (by omega)
        have t101 : (σ100 387 39).toInt = (σ67 387 39).toInt := congrArg Int32.toInt (u100 387 39 (by omega))
        have t102 : (σ100 387 42).toInt = (σ67 387 42).toInt := congrArg Int32.toInt (u100 387 42 (by omega))
        have t103 : (σ100 387 38).toInt = (σ67 387 38).toInt := congrArg Int32.toInt (u100 387 38 (by omega))
        have t104 : (σ100 387 40).toInt = (σ67 387 40).toInt := congrArg Int32.toInt (u100 387 40 (by omega))
        refine lv_aload_n hx hb dX12_behind_71 rfl (lv_at hl 0 rfl) ?_
        refine lv_dup hx hb dX12_behind_72 rfl ?_
        refine fg_12_40 (k := 387) hx hb hts in_X12_behind_12 hown hK hP (by decide) (by decide) (hts _ lk_X12_behind_434) dX12_behind_73 ?_
        refine r_iconst hx hb dX12_behind_76 (by decide) (fun z105 ez105 => ?_)
        refine r_iadd hx hb dX12_behind_77 (by omega) (fun z106 ez106 => ?_)
        refine fp_12_40 (k := 387) hx hb hts in_X12_behind_12 hown hK hP (by decide) (by decide) (hts _ lk_X12_behind_434) hI hR hS (by omega) dX12_behind_78 (fun σ107 H107 locs107 u107 v107 hR hP hS => ?_)
        have ub := u107
        have vb := v107
        have hF := hF.puts u107 3 rfl (by decide) (by decide) (by decide) (by decide)
        have t108 : (σ107 387 39).toInt = (σ100 387 39).toInt := congrArg Int32.toInt (u107 387 39 (by omega))
        have t109 : (σ107 387 42).toInt = (σ100 387 42).toInt := congrArg Int32.toInt (u107 387 42 (by omega))
        have t110 : (σ107 387 38).toInt = (σ100 387 38).toInt := congrArg Int32.toInt (u107 387 38 (by omega))
        refine lv_aload_n hx hb dX12_behind_81 rfl (lv_at hl 0 rfl) ?_
        refine r_iconst hx hb dX12_behind_82 (by decide) (fun z111 ez111 => ?_)
        refine fp_12_42 (k := 387) hx hb hts in_X12_behind_12 hown hK hP (by decide) (by decide) (hts _ lk_X12_behind_449) hI hR hS (by omega) dX12_behind_83 (fun σ112 H112 locs112 u112 v112 hR hP hS => ?_)
        have uc := u112
        have vc := v112
        have hF := hF.puts u112 3 rfl (by decide) (by decide) (by decide) (by decide)
        have t113 : (σ112 387 39).toInt = (σ107 387 39).toInt := congrArg Int32.toInt (u112 387 39 (by omega))
        have t114 : (σ112 387 38).toInt = (σ107 387 38).toInt := congrArg Int32.toInt (u112 387 38 (by omega))
        have t115 : (σ112 387 40).toInt = (σ107 387 40).toInt := congrArg Int32.toInt (u112 387 40 (by omega))
        have gPV := PV.bin gPV (by omega) ua va (by omega) (by omega) ub (by omega) uc (by omega)
        refine lv_aload_n hx hb dX12_behind_86 rfl (lv_at hl 0 rfl) ?_
        refine r_cVv (k := 387) (As := []) (rest := []) ⟨hx, hb, hml, hown, hts⟩ hK hP hN hS (c_X12_next l D cA ad hI σ112 τ0 hR) (cwV 0 hts gX12_behind_X12_next rfl rfl rfl (by decide +kernel) ⟨by decide, by decide⟩) (rv_M hK hP (by decide) (by decide)) rfl hl.1 rfl (Nat.le_of_ble_eq_true rfl) dX12_behind_87 (Nat.zero_le _) (Nat.zero_le _) (fun u116 H116 locs116 hp116 hP hS => ?_)
        obtain ⟨σ116, τ116⟩ := u116
        obtain ⟨hR, f116, fL116, hp116_0, hp116_1, hp116_2⟩ : P_X12_next σ112 τ0 σ116 τ116 := hp116
        have hP : va_P D vwCl (gw cA ad σ116 τ116) H116 := hP
        have hFL := hFL.step fL116 (by decide)
        have hF := hF.step f116 (by decide)
        have gPV := PV.fr gPV hR f116 (by decide)
        have t117 : (σ116 387 39).toInt = (σ112 387 39).toInt := congrArg Int32.toInt (f116.at 387 39 (by decide))
        have t118 : (σ116 387 38).toInt = (σ112 387 38).toInt := congrArg Int32.toInt (f116.at 387 38 (by decide))
        have t119 : (σ116 387 40).toInt = (σ112 387 40).toInt := congrArg Int32.toInt (f116.at 387 40 (by decide))
        have t120 : (σ116 387 42).toInt = (σ112 387 42).toInt := congrArg Int32.toInt (f116.at 387 42 (by decide))
        refine r_iconst hx hb dX12_behind_90 (by decide) (fun z121 ez121 => ?_)
        exact r_zret hx hb hr hK hP hS hk (by omega) dX12_behind_91 (show P_X12_behind σ0 τ0 z121 σ116 τ116 from ⟨hR, hF, hFL, by omega, by first | exact Or.inl (by omega) | exact Or.inr gPV, by omega, by omega⟩)
  · clear hp6_0
    refine lv_aload_n hx hb dX12_behind_14 rfl (lv_at hl 0 rfl) ?_
    refine lv_ldc2 (v := 28530) hx hb hown (hts _ lk_X12_behind_127) dX12_behind_15 ?_
    refine r_cVi (k := 387) (As := [.long (28530)]) (rest := []) ⟨hx, hb, hml, hown, hts⟩ hK hP hN hS (c_X12_isWord l D cA ad hI σ1 τ0 hR (28530)) (cwV 1 hts gX12_behind_X12_isWord rfl rfl rfl (by decide +kernel) ⟨by decide, by decide⟩) (rv_M hK hP (by decide) (by decide)) rfl hl.1 rfl (Nat.le_of_ble_eq_true rfl) dX12_behind_18 (Nat.zero_le _) (Nat.zero_le _) (fun r122 u122 H122 locs122 hp122 hP hS => ?_)
    obtain ⟨σ122, τ122⟩ := u122
    obtain ⟨hR, f122, fL122, hq122, hp122_0⟩ : P_X12_isWord σ1 τ0 (28530) r122 σ122 τ122 := hp122
    have hP : va_P D vwCl (gw cA ad σ122 τ122) H122 := hP
    obtain rfl := FrL.nil fL122
    obtain rfl := Fr.nil f122
    refine r_if_eq (tgt := 92) hx hb dX12_behind_21 (by decide) (fun c123 => ?_) (fun c123 => ?_)
    · clear hp122_0
      refine lv_aload_n hx hb dX12_behind_92 rfl (lv_at hl 0 rfl) ?_
      refine r_bipush hx hb dX12_behind_93 (by decide) (fun z124 ez124 => ?_)
      refine r_cVv (k := 387) (As := [.int z124]) (rest := []) ⟨hx, hb, hml, hown, hts⟩ hK hP hN hS (c_X12_joins l D cA ad hI σ1 τ0 hR z124 (by omega) (by omega) (by omega) gPV) (cwV 1 hts gX12_behind_X12_joins rfl rfl rfl (by decide +kernel) ⟨by decide, by decide⟩) (rv_M hK hP (by decide) (by decide)) rfl hl.1 rfl (Nat.le_of_ble_eq_true rfl) dX12_behind_95 (Nat.zero_le _) (Nat.zero_le _) (fun u125 H125 locs125 hp125 hP hS => ?_)
      obtain ⟨σ125, τ125⟩ := u125
      obtain ⟨hR, f125, fL125, hp125_0, hp125_1, hp125_2, gnPV⟩ : P_X12_joins σ1 τ0 z124 σ125 τ125 := hp125
      have nb := hp125_2
      have hP : va_P D vwCl (gw cA ad σ125 τ125) H125 := hP
      obtain rfl := FrL.nil fL125
      have hF := hF.step f125 (by decide)
      have t126 : (σ125 387 39).toInt = (σ1 387 39).toInt := congrArg Int32.toInt (f125.at 387 39 (by decide))
      have t127 : (σ125 387 42).toInt = (σ1 387 42).toInt := congrArg Int32.toInt (f125.at 387 42 (by decide))
      have hr128 := rg_12_38 hR (k := 387) (by decide) (by decide)
      have hr129 := rg_12_40 hR (k := 387) (by decide) (by decide)
      have gPV := gnPV
      refine lv_aload_n hx hb dX12_behind_98 rfl (lv_at hl 0 rfl) ?_
      refine r_bipush hx hb dX12_behind_99 (by decide) (fun z130 ez130 => ?_)
      refine r_cVi (k := 387) (As := [.int z130]) (rest := []) ⟨hx, hb, hml, hown, hts⟩ hK hP hN hS (c_X12_isSign l D cA ad hI σ125 τ0 hR z130 (by omega)) (cwV 1 hts gX12_behind_X12_isSign rfl rfl rfl (by decide +kernel) ⟨by decide, by decide⟩) (rv_M hK hP (by decide) (by decide)) rfl hl.1 rfl (Nat.le_of_ble_eq_true rfl) dX12_behind_101 (Nat.zero_le _) (Nat.zero_le _) (fun r131 u131 H131 locs131 hp131 hP hS => ?_)
      obtain ⟨σ131, τ131⟩ := u131
      obtain ⟨hR, f131, fL131, hq131, hp131_0⟩ : P_X12_isSign σ125 τ0 z130 r131 σ131 τ131 := hp131
      have hP : va_P D vwCl (gw cA ad σ131 τ131) H131 := hP
      obtain rfl := FrL.nil fL131
      obtain rfl := Fr.nil f131
      refine r_if_eq (tgt := 114) hx hb dX12_behind_104 (by decide) (fun c132 => ?_) (fun c132 => ?_)
      · clear hp131_0
        refine lv_aload_n hx hb dX12_behind_114 rfl (lv_at hl 0 rfl) ?_
        refine r_iconst hx hb dX12_behind_115 (by decide) (fun z133 ez133 => ?_)
        refine r_cVi (k := 387) (As := [.int z133]) (rest := []) ⟨hx, hb, hml, hown, hts⟩ hK hP hN hS (c_X12_bad l D cA ad hI σ125 τ0 hR z133 (by omega)) (cwV 1 hts gX12_behind_X12_bad rfl rfl rfl (by decide +kernel) ⟨by decide, by decide⟩) (rv_M hK hP (by decide) (by decide)) rfl hl.1 rfl (Nat.le_of_ble_eq_true rfl) dX12_behind_116 (Nat.zero_le _) (Nat.zero_le _) (fun r134 u134 H134 locs134 hp134 hP hS => ?_)
        obtain ⟨σ134, τ134⟩ := u134
        obtain ⟨hR, f134, fL134, hq134⟩ : P_X12_bad σ125 τ0 z133 r134 σ134 τ134 := hp134
        have hP : va_P D vwCl (gw cA ad σ134 τ134) H134 := hP
        obtain rfl := FrL.nil fL134
        have hF := hF.step f134 (by decide)
        have gPV := PV.fr gPV hR f134 (by decide)
        have t135 : (σ134 387 39).toInt = (σ125 387 39).toInt := congrArg Int32.toInt (f134.at 387 39 (by decide))
        have t136 : (σ134 387 42).toInt = (σ125 387 42).toInt := congrArg Int32.toInt (f134.at 387 42 (by decide))
        have t137 : (σ134 387 38).toInt = (σ125 387 38).toInt := congrArg Int32.toInt (f134.at 387 38 (by decide))
        have t138 : (σ134 387 40).toInt = (σ125 387 40).toInt := congrArg Int32.toInt (f134.at 387 40 (by decide))
        exact r_zret hx hb hr hK hP hS hk (by omega) dX12_behind_119 (show P_X12_behind σ0 τ0 r134 σ134 τ0 from ⟨hR, hF, hFL, by omega, by first | exact Or.inl (by omega) | exact Or.inr gPV, by omega, by omega⟩)
      · replace hp131_0 := hp131_0.resolve_left (by omega)
        refine lv_aload_n hx hb dX12_behind_107 rfl (lv_at hl 0 rfl) ?_
        refine fg_12_40 (k := 387) hx hb hts in_X12_behind_12 hown hK hP (by decide) (by decide) (hts _ lk_X12_behind_434) dX12_behind_108 ?_
        refine r_if_ne (tgt := 120) hx hb dX12_behind_111 (by decide) (fun c139 => ?_) (fun c139 => ?_)
        · refine lv_aload_n hx hb dX12_behind_120 rfl (lv_at hl 0 rfl) ?_
          refine lv_dup hx hb dX12_behind_121 rfl ?_
          have hcl := nb ((σ125 387 40).toInt - 1).toNat (by omega) (by omega)
          have ejl : ((((σ125 387 40).toInt - 1).toNat : Nat) : Int) = (σ125 387 40).toInt - 1 := (by omega)
          refine fg_12_40 (k := 387) hx hb hts in_X12_behind_12 hown hK hP (by decide) (by decide) (hts _ lk_X12_behind_434) dX12_behind_122 ?_
          refine r_iconst hx hb dX12_behind_125 (by decide) (fun z140 ez140 => ?_)
          refine r_isub hx hb dX12_behind_126 (by omega) (fun z141 ez141 => ?_)
          refine fp_12_40 (k := 387) hx hb hts in_X12_behind_12 hown hK hP (by decide) (by decide) (hts _ lk_X12_behind_434) hI hR hS (by omega) dX12_behind_127 (fun σ142 H142 locs142 u142 v142 hR hP hS => ?_)
          have ut := u142
          have vt := v142
          have hF := hF.puts u142 3 rfl (by decide) (by decide) (by decide) (by decide)
          have t143 : (σ142 387 39).toInt = (σ125 387 39).toInt := congrArg Int32.toInt (u142 387 39 (by omega))
          have t144 : (σ142 387 42).toInt = (σ125 387 42).toInt := congrArg Int32.toInt (u142 387 42 (by omega))
          have t145 : (σ142 387 38).toInt = (σ125 387 38).toInt := congrArg Int32.toInt (u142 387 38 (by omega))
          have gPV := PV.close gPV ejl hcl ut (by omega)
          refine lv_aload_n hx hb dX12_behind_130 rfl (lv_at hl 0 rfl) ?_
          refine lv_dup hx hb dX12_behind_131 rfl ?_
          refine fg_12_41 (k := 387) hx hb hts in_X12_behind_12 hown hK hP (by decide) (by decide) (hts _ lk_X12_behind_440) dX12_behind_132 ?_
          refine r_iconst hx hb dX12_behind_135 (by decide) (fun z146 ez146 => ?_)
          refine r_isubU hx hb dX12_behind_136 (fun z147 => ?_)
          refine fp_12_41 (k := 387) hx hb hts in_X12_behind_12 hown hK hP (by decide) (by decide) (hts _ lk_X12_behind_440) hI hR hS dX12_behind_137 (fun σ148 H148 locs148 u148 v148 hR hP hS => ?_)
          have hF := hF.puts u148 3 rfl (by decide) (by decide) (by decide) (by decide)
          have gPV := PV.put gPV hR u148 (by decide)
          have t149 : (σ148 387 39).toInt = (σ142 387 39).toInt := congrArg Int32.toInt (u148 387 39 (by omega))
          have t150 : (σ148 387 42).toInt = (σ142 387 42).toInt := congrArg Int32.toInt (u148 387 42 (by omega))
          have t151 : (σ148 387 38).toInt = (σ142 387 38).toInt := congrArg Int32.toInt (u148 387 38 (by omega))
          have t152 : (σ148 387 40).toInt = (σ142 387 40).toInt := congrArg Int32.toInt (u148 387 40 (by omega))
          refine lv_aload_n hx hb dX12_behind_140 rfl (lv_at hl 0 rfl) ?_
          refine r_cVv (k := 387) (As := []) (rest := []) ⟨hx, hb, hml, hown, hts⟩ hK hP hN hS (c_X12_next l D cA ad hI σ148 τ0 hR) (cwV 0 hts gX12_behind_X12_next rfl rfl rfl (by decide +kernel) ⟨by decide, by decide⟩) (rv_M hK hP (by decide) (by decide)) rfl hl.1 rfl (Nat.le_of_ble_eq_true rfl) dX12_behind_141 (Nat.zero_le _) (Nat.zero_le _) (fun u153 H153 locs153 hp153 hP hS => ?_)
          obtain ⟨σ153, τ153⟩ := u153
          obtain ⟨hR, f153, fL153, hp153_0, hp153_1, hp153_2⟩ : P_X12_next σ148 τ0 σ153 τ153 := hp153
          have hP : va_P D vwCl (gw cA ad σ153 τ153) H153 := hP
          have hFL := hFL.step fL153 (by decide)
          have hF := hF.step f153 (by decide)
          have gPV := PV.fr gPV hR f153 (by decide)
          have t154 : (σ153 387 39).toInt = (σ148 387 39).toInt := congrArg Int32.toInt (f153.at 387 39 (by decide))
          have t155 : (σ153 387 42).toInt = (σ148 387 42).toInt := congrArg Int32.toInt (f153.at 387 42 (by decide))
          have t156 : (σ153 387 38).toInt = (σ148 387 38).toInt := congrArg Int32.toInt (f153.at 387 38 (by decide))
          have t157 : (σ153 387 40).toInt = (σ148 387 40).toInt := congrArg Int32.toInt (f153.at 387 40 (by decide))
          refine r_iconst hx hb dX12_behind_144 (by decide) (fun z158 ez158 => ?_)
          exact r_zret hx hb hr hK hP hS hk (by omega) dX12_behind_145 (show P_X12_behind σ0 τ0 z158 σ153 τ153 from ⟨hR, hF, hFL, by omega, by first | exact Or.inl (by omega) | exact Or.inr gPV, by omega, by omega⟩)
        · refine lv_aload_n hx hb dX12_behind_114 rfl (lv_at hl 0 rfl) ?_
          refine r_iconst hx hb dX12_behind_115 (by decide) (fun z159 ez159 => ?_)
          refine r_cVi (k := 387) (As := [.int z159]) (rest := []) ⟨hx, hb, hml, hown, hts⟩ hK hP hN hS (c_X12_bad l D cA ad hI σ125 τ0 hR z159 (by omega)) (cwV 1 hts gX12_behind_X12_bad rfl rfl rfl (by decide +kernel) ⟨by decide, by decide⟩) (rv_M hK hP (by decide) (by decide)) rfl hl.1 rfl (Nat.le_of_ble_eq_true rfl) dX12_behind_116 (Nat.zero_le _) (Nat.zero_le _) (fun r160 u160 H160 locs160 hp160 hP hS => ?_)
          obtain ⟨σ160, τ160⟩ := u160
          obtain ⟨hR, f160, fL160, hq160⟩ : P_X12_bad σ125 τ0 z159 r160 σ160 τ160 := hp160
          have hP : va_P D vwCl (gw cA ad σ160 τ160) H160 := hP
          obtain rfl := FrL.nil fL160
          have hF := hF.step f160 (by decide)
          have gPV := PV.fr gPV hR f160 (by decide)
          have t161 : (σ160 387 39).toInt = (σ125 387 39).toInt := congrArg Int32.toInt (f160.at 387 39 (by decide))
          have t162 : (σ160 387 42).toInt = (σ125 387 42).toInt := congrArg Int32.toInt (f160.at 387 42 (by decide))
          have t163 : (σ160 387 38).toInt = (σ125 387 38).toInt := congrArg Int32.toInt (f160.at 387 38 (by decide))
          have t164 : (σ160 387 40).toInt = (σ125 387 40).toInt := congrArg Int32.toInt (f160.at 387 40 (by decide))
          exact r_zret hx hb hr hK hP hS hk (by omega) dX12_behind_119 (show P_X12_behind σ0 τ0 r160 σ160 τ0 from ⟨hR, hF, hFL, by omega, by first | exact Or.inl (by omega) | exact Or.inr gPV, by omega, by omega⟩)
    · replace hp122_0 := hp122_0.resolve_left (by omega)
      refine lv_aload_n hx hb dX12_behind_24 rfl (lv_at hl 0 rfl) ?_
      refine lv_aload_n hx hb dX12_behind_25 rfl (lv_at hl 0 rfl) ?_
      refine lv_ldc2 (v := 6385252) hx hb hown (hts _ lk_X12_behind_129) dX12_behind_26 ?_
      refine r_cVi (k := 387) (As := [.long (6385252)]) (rest := [.ref (ad 387)]) ⟨hx, hb, hml, hown, hts⟩ hK hP hN hS (c_X12_isWord l D cA ad hI σ1 τ0 hR (6385252)) (cwV 1 hts gX12_behind_X12_isWord rfl rfl rfl (by decide +kernel) ⟨by decide, by decide⟩) (rv_M hK hP (by decide) (by decide)) rfl hl.1 rfl (Nat.le_of_ble_eq_true rfl) dX12_behind_29 (Nat.zero_le _) (Nat.zero_le _) (fun r165 u165 H165 locs165 hp165 hP hS => ?_)
      obtain ⟨σ165, τ165⟩ := u165
      obtain ⟨hR, f165, fL165, hq165, hp165_0⟩ : P_X12_isWord σ1 τ0 (6385252) r165 σ165 τ165 := hp165
      have hP : va_P D vwCl (gw cA ad σ165 τ165) H165 := hP
      obtain rfl := FrL.nil fL165
      obtain rfl := Fr.nil f165
      refine r_if_eq (tgt := 40) hx hb dX12_behind_32 (by decide) (fun c166 => ?_) (fun c166 => ?_)
      · clear hp165_0
        refine r_bipush hx hb dX12_behind_40 (by decide) (fun z167 ez167 => ?_)
        refine r_cVv (k := 387) (As := [.int z167]) (rest := []) ⟨hx, hb, hml, hown, hts⟩ hK hP hN hS (c_X12_joins l D cA ad hI σ1 τ0 hR z167 (by omega) (by omega) (by omega) gPV) (cwV 1 hts gX12_behind_X12_joins rfl rfl rfl (by decide +kernel) ⟨by decide, by decide⟩) (rv_M hK hP (by decide) (by decide)) rfl hl.1 rfl (Nat.le_of_ble_eq_true rfl) dX12_behind_42 (Nat.zero_le _) (Nat.zero_le _) (fun u168 H168 locs168 hp168 hP hS => ?_)
        obtain ⟨σ168, τ168⟩ := u168
        obtain ⟨hR, f168, fL168, hp168_0, hp168_1, hp168_2, gnPV⟩ : P_X12_joins σ1 τ0 z167 σ168 τ168 := hp168
        have hP : va_P D vwCl (gw cA ad σ168 τ168) H168 := hP
        obtain rfl := FrL.nil fL168
        have hF := hF.step f168 (by decide)
        have t169 : (σ168 387 39).toInt = (σ1 387 39).toInt := congrArg Int32.toInt (f168.at 387 39 (by decide))
        have t170 : (σ168 387 42).toInt = (σ1 387 42).toInt := congrArg Int32.toInt (f168.at 387 42 (by decide))
        have hr171 := rg_12_38 hR (k := 387) (by decide) (by decide)
        have hr172 := rg_12_40 hR (k := 387) (by decide) (by decide)
        have gPV := gnPV
        refine lv_aload_n hx hb dX12_behind_45 rfl (lv_at hl 0 rfl) ?_
        refine fg_12_37 (k := 387) hx hb hts in_X12_behind_12 hown hK hP (by decide) (by decide) (hts _ lk_X12_behind_71) dX12_behind_46 ?_
        refine lv_aload_n hx hb dX12_behind_49 rfl (lv_at hl 0 rfl) ?_
        refine fg_12_40 (k := 387) hx hb hts in_X12_behind_12 hown hK hP (by decide) (by decide) (hts _ lk_X12_behind_434) dX12_behind_50 ?_
        refine lv_aload_n hx hb dX12_behind_53 rfl (lv_at hl 0 rfl) ?_
        refine lv_ldc2 (v := 6385252) hx hb hown (hts _ lk_X12_behind_129) dX12_behind_54 ?_
        refine r_cVi (k := 387) (As := [.long (6385252)]) (rest := [.int (σ168 387 40), .ref (ad 401)]) ⟨hx, hb, hml, hown, hts⟩ hK hP hN hS (c_X12_isWord l D cA ad hI σ168 τ0 hR (6385252)) (cwV 1 hts gX12_behind_X12_isWord rfl rfl rfl (by decide +kernel) ⟨by decide, by decide⟩) (rv_M hK hP (by decide) (by decide)) rfl hl.1 rfl (Nat.le_of_ble_eq_true rfl) dX12_behind_57 (Nat.zero_le _) (Nat.zero_le _) (fun r173 u173 H173 locs173 hp173 hP hS => ?_)
        obtain ⟨σ173, τ173⟩ := u173
        obtain ⟨hR, f173, fL173, hq173, hp173_0⟩ : P_X12_isWord σ168 τ0 (6385252) r173 σ173 τ173 := hp173
        have hP : va_P D vwCl (gw cA ad σ173 τ173) H173 := hP
        obtain rfl := FrL.nil fL173
        obtain rfl := Fr.nil f173
        refine r_if_eq (tgt := 68) hx hb dX12_behind_60 (by decide) (fun c174 => ?_) (fun c174 => ?_)
        · clear hp173_0
          refine r_bipush hx hb dX12_behind_68 (by decide) (fun z175 ez175 => ?_)
          obtain ⟨j176, ej176⟩ : ∃ j : Nat, (σ168 387 40).toInt = (j : Int) := ⟨_, ti_nat (by omega)⟩
          refine as_mstack (k := 401) (j := j176) hx hb hK hP hI hR hS (by decide) (by decide) ej176 (by omega) dX12_behind_70 (fun σ177 H177 locs177 u177 v177 hR hP hS => ?_)
          have ua := u177
          have va := v177
          have hF := hF.puts u177 2 rfl (by decide) (by decide) (by omega) (by omega)
          have t178 : (σ177 387 39).toInt = (σ168 387 39).toInt := congrArg Int32.toInt (u177 387 39 (by omega))
          have t179 : (σ177 387 42).toInt = (σ168 387 42).toInt := congrArg Int32.toInt (u177 387 42 (by omega))
          have t180 : (σ177 387 38).toInt = (σ168 387 38).toInt := congrArg Int32.toInt (u177 387 38 (by omega))
          have t181 : (σ177 387 40).toInt = (σ168 387 40).toInt := congrArg Int32.toInt (u177 387 40 (by omega))
          refine lv_aload_n hx hb dX12_behind_71 rfl (lv_at hl 0 rfl) ?_
          refine lv_dup hx hb dX12_behind_72 rfl ?_
          refine fg_12_40 (k := 387) hx hb hts in_X12_behind_12 hown hK hP (by decide) (by decide) (hts _ lk_X12_behind_434) dX12_behind_73 ?_
          refine r_iconst hx hb dX12_behind_76 (by decide) (fun z182 ez182 => ?_)
          refine r_iadd hx hb dX12_behind_77 (by omega) (fun z183 ez183 => ?_)
          refine fp_12_40 (k := 387) hx hb hts in_X12_behind_12 hown hK hP (by decide) (by decide) (hts _ lk_X12_behind_434) hI hR hS (by omega) dX12_behind_78 (fun σ184 H184 locs184 u184 v184 hR hP hS => ?_)
          have ub := u184
          have vb := v184
          have hF := hF.puts u184 3 rfl (by decide) (by decide) (by decide) (by decide)
          have t185 : (σ184 387 39).toInt = (σ177 387 39).toInt := congrArg Int32.toInt (u184 387 39 (by omega))
          have t186 : (σ184 387 42).toInt = (σ177 387 42).toInt := congrArg Int32.toInt (u184 387 42 (by omega))
          have t187 : (σ184 387 38).toInt = (σ177 387 38).toInt := congrArg Int32.toInt (u184 387 38 (by omega))
          refine lv_aload_n hx hb dX12_behind_81 rfl (lv_at hl 0 rfl) ?_
          refine r_iconst hx hb dX12_behind_82 (by decide) (fun z188 ez188 => ?_)
          refine fp_12_42 (k := 387) hx hb hts in_X12_behind_12 hown hK hP (by decide) (by decide) (hts _ lk_X12_behind_449) hI hR hS (by omega) dX12_behind_83 (fun σ189 H189 locs189 u189 v189 hR hP hS => ?_)
          have uc := u189
          have vc := v189
          have hF := hF.puts u189 3 rfl (by decide) (by decide) (by decide) (by decide)
          have t190 : (σ189 387 39).toInt = (σ184 387 39).toInt := congrArg Int32.toInt (u189 387 39 (by omega))
          have t191 : (σ189 387 38).toInt = (σ184 387 38).toInt := congrArg Int32.toInt (u189 387 38 (by omega))
          have t192 : (σ189 387 40).toInt = (σ184 387 40).toInt := congrArg Int32.toInt (u189 387 40 (by omega))
          have gPV := PV.bin gPV (by omega) ua va (by omega) (by omega) ub (by omega) uc (by omega)
          refine lv_aload_n hx hb dX12_behind_86 rfl (lv_at hl 0 rfl) ?_
          refine r_cVv (k := 387) (As := []) (rest := []) ⟨hx, hb, hml, hown, hts⟩ hK hP hN hS (c_X12_next l D cA ad hI σ189 τ0 hR) (cwV 0 hts gX12_behind_X12_next rfl rfl rfl (by decide +kernel) ⟨by decide, by decide⟩) (rv_M hK hP (by decide) (by decide)) rfl hl.1 rfl (Nat.le_of_ble_eq_true rfl) dX12_behind_87 (Nat.zero_le _) (Nat.zero_le _) (fun u193 H193 locs193 hp193 hP hS => ?_)
          obtain ⟨σ193, τ193⟩ := u193
          obtain ⟨hR, f193, fL193, hp193_0, hp193_1, hp193_2⟩ : P_X12_next σ189 τ0 σ193 τ193 := hp193
          have hP : va_P D vwCl (gw cA ad σ193 τ193) H193 := hP
          have hFL := hFL.step fL193 (by decide)
          have hF := hF.step f193 (by decide)
          have gPV := PV.fr gPV hR f193 (by decide)
          have t194 : (σ193 387 39).toInt = (σ189 387 39).toInt := congrArg Int32.toInt (f193.at 387 39 (by decide))
          have t195 : (σ193 387 38).toInt = (σ189 387 38).toInt := congrArg Int32.toInt (f193.at 387 38 (by decide))
          have t196 : (σ193 387 40).toInt = (σ189 387 40).toInt := congrArg Int32.toInt (f193.at 387 40 (by decide))
          have t197 : (σ193 387 42).toInt = (σ189 387 42).toInt := congrArg Int32.toInt (f193.at 387 42 (by decide))
          refine r_iconst hx hb dX12_behind_90 (by decide) (fun z198 ez198 => ?_)
          exact r_zret hx hb hr hK hP hS hk (by omega) dX12_behind_91 (show P_X12_behind σ0 τ0 z198 σ193 τ193 from ⟨hR, hF, hFL, by omega, by first | exact Or.inl (by omega) | exact Or.inr gPV, by omega, by omega⟩)
        · replace hp173_0 := hp173_0.resolve_left (by omega)
          refine r_bipush hx hb dX12_behind_63 (by decide) (fun z199 ez199 => ?_)
          refine lv_goto (tgt := 70) hx hb dX12_behind_65 (by decide) ?_
          obtain ⟨j200, ej200⟩ : ∃ j : Nat, (σ168 387 40).toInt = (j : Int) := ⟨_, ti_nat (by omega)⟩
          refine as_mstack (k := 401) (j := j200) hx hb hK hP hI hR hS (by decide) (by decide) ej200 (by omega) dX12_behind_70 (fun σ201 H201 locs201 u201 v201 hR hP hS => ?_)
          have ua := u201
          have va := v201
          have hF := hF.puts u201 2 rfl (by decide) (by decide) (by omega) (by omega)
          have t202 : (σ201 387 39).toInt = (σ168 387 39).toInt := congrArg Int32.toInt (u201 387 39 (by omega))
          have t203 : (σ201 387 42).toInt = (σ168 387 42).toInt := congrArg Int32.toInt (u201 387 42 (by omega))
          have t204 : (σ201 387 38).toInt = (σ168 387 38).toInt := congrArg Int32.toInt (u201 387 38 (by omega))
          have t205 : (σ201 387 40).toInt = (σ168 387 40).toInt := congrArg Int32.toInt (u201 387 40 (by omega))
          refine lv_aload_n hx hb dX12_behind_71 rfl (lv_at hl 0 rfl) ?_
          refine lv_dup hx hb dX12_behind_72 rfl ?_
          refine fg_12_40 (k := 387) hx hb hts in_X12_behind_12 hown hK hP (by decide) (by decide) (hts _ lk_X12_behind_434) dX12_behind_73 ?_
          refine r_iconst hx hb dX12_behind_76 (by decide) (fun z206 ez206 => ?_)
          refine r_iadd hx hb dX12_behind_77 (by omega) (fun z207 ez207 => ?_)
          refine fp_12_40 (k := 387) hx hb hts in_X12_behind_12 hown hK hP (by decide) (by decide) (hts _ lk_X12_behind_434) hI hR hS (by omega) dX12_behind_78 (fun σ208 H208 locs208 u208 v208 hR hP hS => ?_)
          have ub := u208
          have vb := v208
          have hF := hF.puts u208 3 rfl (by decide) (by decide) (by decide) (by decide)
          have t209 : (σ208 387 39).toInt = (σ201 387 39).toInt := congrArg Int32.toInt (u208 387 39 (by omega))
          have t210 : (σ208 387 42).toInt = (σ201 387 42).toInt := congrArg Int32.toInt (u208 387 42 (by omega))
          have t211 : (σ208 387 38).toInt = (σ201 387 38).toInt := congrArg Int32.toInt (u208 387 38 (by omega))
          refine lv_aload_n hx hb dX12_behind_81 rfl (lv_at hl 0 rfl) ?_
          refine r_iconst hx hb dX12_behind_82 (by decide) (fun z212 ez212 => ?_)
          refine fp_12_42 (k := 387) hx hb hts in_X12_behind_12 hown hK hP (by decide) (by decide) (hts _ lk_X12_behind_449) hI hR hS (by omega) dX12_behind_83 (fun σ213 H213 locs213 u213 v213 hR hP hS => ?_)
          have uc := u213
          have vc := v213
          have hF := hF.puts u213 3 rfl (by decide) (by decide) (by decide) (by decide)
          have t214 : (σ213 387 39).toInt = (σ208 387 39).toInt := congrArg Int32.toInt (u213 387 39 (by omega))
          have t215 : (σ213 387 38).toInt = (σ208 387 38).toInt := congrArg Int32.toInt (u213 387 38 (by omega))
          have t216 : (σ213 387 40).toInt = (σ208 387 40).toInt := congrArg Int32.toInt (u213 387 40 (by omega))
          have gPV := PV.bin gPV (by omega) ua va (by omega) (by omega) ub (by omega) uc (by omega)
          refine lv_aload_n hx hb dX12_behind_86 rfl (lv_at hl 0 rfl) ?_
          refine r_cVv (k := 387) (As := []) (rest := []) ⟨hx, hb, hml, hown, hts⟩ hK hP hN hS (c_X12_next l D cA ad hI σ213 τ0 hR) (cwV 0 hts gX12_behind_X12_next rfl rfl rfl (by decide +kernel) ⟨by decide, by decide⟩) (rv_M hK hP (by decide) (by decide)) rfl hl.1 rfl (Nat.le_of_ble_eq_true rfl) dX12_behind_87 (Nat.zero_le _) (Nat.zero_le _) (fun u217 H217 locs217 hp217 hP hS => ?_)
          obtain ⟨σ217, τ217⟩ := u217
          obtain ⟨hR, f217, fL217, hp217_0, hp217_1, hp217_2⟩ : P_X12_next σ213 τ0 σ217 τ217 := hp217
          have hP : va_P D vwCl (gw cA ad σ217 τ217) H217 := hP
          have hFL := hFL.step fL217 (by decide)
          have hF := hF.step f217 (by decide)
          have gPV := PV.fr gPV hR f217 (by decide)
          have t218 : (σ217 387 39).toInt = (σ213 387 39).toInt := congrArg Int32.toInt (f217.at 387 39 (by decide))
          have t219 : (σ217 387 38).toInt = (σ213 387 38).toInt := congrArg Int32.toInt (f217.at 387 38 (by decide))
          have t220 : (σ217 387 40).toInt = (σ213 387 40).toInt := congrArg Int32.toInt (f217.at 387 40 (by decide))
          have t221 : (σ217 387 42).toInt = (σ213 387 42).toInt := congrArg Int32.toInt (f217.at 387 42 (by decide))
          refine r_iconst hx hb dX12_behind_90 (by decide) (fun z222 ez222 => ?_)
          exact r_zret hx hb hr hK hP hS hk (by omega) dX12_behind_91 (show P_X12_behind σ0 τ0 z222 σ217 τ217 from ⟨hR, hF, hFL, by omega, by first | exact Or.inl (by omega) | exact Or.inr gPV, by omega, by omega⟩)
      · replace hp165_0 := hp165_0.resolve_left (by omega)
        refine r_bipush hx hb dX12_behind_35 (by decide) (fun z223 ez223 => ?_)
        refine lv_goto (tgt := 42) hx hb dX12_behind_37 (by decide) ?_
        refine r_cVv (k := 387) (As := [.int z223]) (rest := []) ⟨hx, hb, hml, hown, hts⟩ hK hP hN hS (c_X12_joins l D cA ad hI σ1 τ0 hR z223 (by omega) (by omega) (by omega) gPV) (cwV 1 hts gX12_behind_X12_joins rfl rfl rfl (by decide +kernel) ⟨by decide, by decide⟩) (rv_M hK hP (by decide) (by decide)) rfl hl.1 rfl (Nat.le_of_ble_eq_true rfl) dX12_behind_42 (Nat.zero_le _) (Nat.zero_le _) (fun u224 H224 locs224 hp224 hP hS => ?_)
        obtain ⟨σ224, τ224⟩ := u224
        obtain ⟨hR, f224, fL224, hp224_0, hp224_1, hp224_2, gnPV⟩ : P_X12_joins σ1 τ0 z223 σ224 τ224 := hp224
        have hP : va_P D vwCl (gw cA ad σ224 τ224) H224 := hP
        obtain rfl := FrL.nil fL224
        have hF := hF.step f224 (by decide)
        have t225 : (σ224 387 39).toInt = (σ1 387 39).toInt := congrArg Int32.toInt (f224.at 387 39 (by decide))
        have t226 : (σ224 387 42).toInt = (σ1 387 42).toInt := congrArg Int32.toInt (f224.at 387 42 (by decide))
        have hr227 := rg_12_38 hR (k := 387) (by decide) (by decide)
        have hr228 := rg_12_40 hR (k := 387) (by decide) (by decide)
        have gPV := gnPV
        refine lv_aload_n hx hb dX12_behind_45 rfl (lv_at hl 0 rfl) ?_
        refine fg_12_37 (k := 387) hx hb hts in_X12_behind_12 hown hK hP (by decide) (by decide) (hts _ lk_X12_behind_71) dX12_behind_46 ?_
        refine lv_aload_n hx hb dX12_behind_49 rfl (lv_at hl 0 rfl) ?_
        refine fg_12_40 (k := 387) hx hb hts in_X12_behind_12 hown hK hP (by decide) (by decide) (hts _ lk_X12_behind_434) dX12_behind_50 ?_
        refine lv_aload_n hx hb dX12_behind_53 rfl (lv_at hl 0 rfl) ?_
        refine lv_ldc2 (v := 6385252) hx hb hown (hts _ lk_X12_behind_129) dX12_behind_54 ?_
        refine r_cVi (k := 387) (As := [.long (6385252)]) (rest := [.int (σ224 387 40), .ref (ad 401)]) ⟨hx, hb, hml, hown, hts⟩ hK hP hN hS (c_X12_isWord l D cA ad hI σ224 τ0 hR (6385252)) (cwV 1 hts gX12_behind_X12_isWord rfl rfl rfl (by decide +kernel) ⟨by decide, by decide⟩) (rv_M hK hP (by decide) (by decide)) rfl hl.1 rfl (Nat.le_of_ble_eq_true rfl) dX12_behind_57 (Nat.zero_le _) (Nat.zero_le _) (fun r229 u229 H229 locs229 hp229 hP hS => ?_)
        obtain ⟨σ229, τ229⟩ := u229
        obtain ⟨hR, f229, fL229, hq229, hp229_0⟩ : P_X12_isWord σ224 τ0 (6385252) r229 σ229 τ229 := hp229
        have hP : va_P D vwCl (gw cA ad σ229 τ229) H229 := hP
        obtain rfl := FrL.nil fL229
        obtain rfl := Fr.nil f229
        refine r_if_eq (tgt := 68) hx hb dX12_behind_60 (by decide) (fun c230 => ?_) (fun c230 => ?_)
        · clear hp229_0
          refine r_bipush hx hb dX12_behind_68 (by decide) (fun z231 ez231 => ?_)
          obtain ⟨j232, ej232⟩ : ∃ j : Nat, (σ224 387 40).toInt = (j : Int) := ⟨_, ti_nat (by omega)⟩
          refine as_mstack (k := 401) (j := j232) hx hb hK hP hI hR hS (by decide) (by decide) ej232 (by omega) dX12_behind_70 (fun σ233 H233 locs233 u233 v233 hR hP hS => ?_)
          have ua := u233
          have va := v233
          have hF := hF.puts u233 2 rfl (by decide) (by decide) (by omega) (by omega)
          have t234 : (σ233 387 39).toInt = (σ224 387 39).toInt := congrArg Int32.toInt (u233 387 39 (by omega))
          have t235 : (σ233 387 42).toInt = (σ224 387 42).toInt := congrArg Int32.toInt (u233 387 42 (by omega))
          have t236 : (σ233 387 38).toInt = (σ224 387 38).toInt := congrArg Int32.toInt (u233 387 38 (by omega))
          have t237 : (σ233 387 40).toInt = (σ224 387 40).toInt := congrArg Int32.toInt (u233 387 40 (by omega))
          refine lv_aload_n hx hb dX12_behind_71 rfl (lv_at hl 0 rfl) ?_
          refine lv_dup hx hb dX12_behind_72 rfl ?_
          refine fg_12_40 (k := 387) hx hb hts in_X12_behind_12 hown hK hP (by decide) (by decide) (hts _ lk_X12_behind_434) dX12_behind_73 ?_
          refine r_iconst hx hb dX12_behind_76 (by decide) (fun z238 ez238 => ?_)
          refine r_iadd hx hb dX12_behind_77 (by omega) (fun z239 ez239 => ?_)
          refine fp_12_40 (k := 387) hx hb hts in_X12_behind_12 hown hK hP (by decide) (by decide) (hts _ lk_X12_behind_434) hI hR hS (by omega) dX12_behind_78 (fun σ240 H240 locs240 u240 v240 hR hP hS => ?_)
          have ub := u240
          have vb := v240
          have hF := hF.puts u240 3 rfl (by decide) (by decide) (by decide) (by decide)
          have t241 : (σ240 387 39).toInt = (σ233 387 39).toInt := congrArg Int32.toInt (u240 387 39 (by omega))
          have t242 : (σ240 387 42).toInt = (σ233 387 42).toInt := congrArg Int32.toInt (u240 387 42 (by omega))
          have t243 : (σ240 387 38).toInt = (σ233 387 38).toInt := congrArg Int32.toInt (u240 387 38 (by omega))
          refine lv_aload_n hx hb dX12_behind_81 rfl (lv_at hl 0 rfl) ?_
          refine r_iconst hx hb dX12_behind_82 (by decide) (fun z244 ez244 => ?_)
          refine fp_12_42 (k := 387) hx hb hts in_X12_behind_12 hown hK hP (by decide) (by decide) (hts _ lk_X12_behind_449) hI hR hS (by omega) dX12_behind_83 (fun σ245 H245 locs245 u245 v245 hR hP hS => ?_)
          have uc := u245
          have vc := v245
          have hF := hF.puts u245 3 rfl (by decide) (by decide) (by decide) (by decide)
          have t246 : (σ245 387 39).toInt = (σ240 387 39).toInt := congrArg Int32.toInt (u245 387 39 (by omega))
          have t247 : (σ245 387 38).toInt = (σ240 387 38).toInt := congrArg Int32.toInt (u245 387 38 (by omega))
          have t248 : (σ245 387 40).toInt = (σ240 387 40).toInt := congrArg Int32.toInt (u245 387 40 (by omega))
          have gPV := PV.bin gPV (by omega) ua va (by omega) (by omega) ub (by omega) uc (by omega)
          refine lv_aload_n hx hb dX12_behind_86 rfl (lv_at hl 0 rfl) ?_
          refine r_cVv (k := 387) (As := []) (rest := []) ⟨hx, hb, hml, hown, hts⟩ hK hP hN hS (c_X12_next l D cA ad hI σ245 τ0 hR) (cwV 0 hts gX12_behind_X12_next rfl rfl rfl (by decide +kernel) ⟨by decide, by decide⟩) (rv_M hK hP (by decide) (by decide)) rfl hl.1 rfl (Nat.le_of_ble_eq_true rfl) dX12_behind_87 (Nat.zero_le _) (Nat.zero_le _) (fun u249 H249 locs249 hp249 hP hS => ?_)
          obtain ⟨σ249, τ249⟩ := u249
          obtain ⟨hR, f249, fL249, hp249_0, hp249_1, hp249_2⟩ : P_X12_next σ245 τ0 σ249 τ249 := hp249
          have hP : va_P D vwCl (gw cA ad σ249 τ249) H249 := hP
          have hFL := hFL.step fL249 (by decide)
          have hF := hF.step f249 (by decide)
          have gPV := PV.fr gPV hR f249 (by decide)
          have t250 : (σ249 387 39).toInt = (σ245 387 39).toInt := congrArg Int32.toInt (f249.at 387 39 (by decide))
          have t251 : (σ249 387 38).toInt = (σ245 387 38).toInt := congrArg Int32.toInt (f249.at 387 38 (by decide))
          have t252 : (σ249 387 40).toInt = (σ245 387 40).toInt := congrArg Int32.toInt (f249.at 387 40 (by decide))
          have t253 : (σ249 387 42).toInt = (σ245 387 42).toInt := congrArg Int32.toInt (f249.at 387 42 (by decide))
          refine r_iconst hx hb dX12_behind_90 (by decide) (fun z254 ez254 => ?_)
          exact r_zret hx hb hr hK hP hS hk (by omega) dX12_behind_91 (show P_X12_behind σ0 τ0 z254 σ249 τ249 from ⟨hR, hF, hFL, by omega, by first | exact Or.inl (by omega) | exact Or.inr gPV, by omega, by omega⟩)
        · replace hp229_0 := hp229_0.resolve_left (by omega)
          refine r_bipush hx hb dX12_behind_63 (by decide) (fun z255 ez255 => ?_)
          refine lv_goto (tgt := 70) hx hb dX12_behind_65 (by decide) ?_
          obtain ⟨j256, ej256⟩ : ∃ j : Nat, (σ224 387 40).toInt = (j : Int) := ⟨_, ti_nat (by omega)⟩
          refine as_mstack (k := 401) (j := j256) hx hb hK hP hI hR hS (by decide) (by decide) ej256 (by omega) dX12_behind_70 (fun σ257 H257 locs257 u257 v257 hR hP hS => ?_)
          have ua := u257
          have va := v257
          have hF := hF.puts u257 2 rfl (by decide) (by decide) (by omega) (by omega)
          have t258 : (σ257 387 39).toInt = (σ224 387 39).toInt := congrArg Int32.toInt (u257 387 39 (by omega))
          have t259 : (σ257 387 42).toInt = (σ224 387 42).toInt := congrArg Int32.toInt (u257 387 42 (by omega))
          have t260 : (σ257 387 38).toInt = (σ224 387 38).toInt := congrArg Int32.toInt (u257 387 38 (by omega))
          have t261 : (σ257 387 40).toInt = (σ224 387 40).toInt := congrArg Int32.toInt (u257 387 40 (by omega))
          refine lv_aload_n hx hb dX12_behind_71 rfl (lv_at hl 0 rfl) ?_
          refine lv_dup hx hb dX12_behind_72 rfl ?_
          refine fg_12_40 (k := 387) hx hb hts in_X12_behind_12 hown hK hP (by decide) (by decide) (hts _ lk_X12_behind_434) dX12_behind_73 ?_
          refine r_iconst hx hb dX12_behind_76 (by decide) (fun z262 ez262 => ?_)
          refine r_iadd hx hb dX12_behind_77 (by omega) (fun z263 ez263 => ?_)
          refine fp_12_40 (k := 387) hx hb hts in_X12_behind_12 hown hK hP (by decide) (by decide) (hts _ lk_X12_behind_434) hI hR hS (by omega) dX12_behind_78 (fun σ264 H264 locs264 u264 v264 hR hP hS => ?_)
          have ub := u264
          have vb := v264
          have hF := hF.puts u264 3 rfl (by decide) (by decide) (by decide) (by decide)
          have t265 : (σ264 387 39).toInt = (σ257 387 39).toInt := congrArg Int32.toInt (u264 387 39 (by omega))
          have t266 : (σ264 387 42).toInt = (σ257 387 42).toInt := congrArg Int32.toInt (u264 387 42 (by omega))
          have t267 : (σ264 387 38).toInt = (σ257 387 38).toInt := congrArg Int32.toInt (u264 387 38 (by omega))
          refine lv_aload_n hx hb dX12_behind_81 rfl (lv_at hl 0 rfl) ?_
          refine r_iconst hx hb dX12_behind_82 (by decide) (fun z268 ez268 => ?_)
          refine fp_12_42 (k := 387) hx hb hts in_X12_behind_12 hown hK hP (by decide) (by decide) (hts _ lk_X12_behind_449) hI hR hS (by omega) dX12_behind_83 (fun σ269 H269 locs269 u269 v269 hR hP hS => ?_)
          have uc := u269
          have vc := v269
          have hF := hF.puts u269 3 rfl (by decide) (by decide) (by decide) (by decide)
          have t270 : (σ269 387 39).toInt = (σ264 387 39).toInt := congrArg Int32.toInt (u269 387 39 (by omega))
          have t271 : (σ269 387 38).toInt = (σ264 387 38).toInt := congrArg Int32.toInt (u269 387 38 (by omega))
          have t272 : (σ269 387 40).toInt = (σ264 387 40).toInt := congrArg Int32.toInt (u269 387 40 (by omega))
          have gPV := PV.bin gPV (by omega) ua va (by omega) (by omega) ub (by omega) uc (by omega)
          refine lv_aload_n hx hb dX12_behind_86 rfl (lv_at hl 0 rfl) ?_
          refine r_cVv (k := 387) (As := []) (rest := []) ⟨hx, hb, hml, hown, hts⟩ hK hP hN hS (c_X12_next l D cA ad hI σ269 τ0 hR) (cwV 0 hts gX12_behind_X12_next rfl rfl rfl (by decide +kernel) ⟨by decide, by decide⟩) (rv_M hK hP (by decide) (by decide)) rfl hl.1 rfl (Nat.le_of_ble_eq_true rfl) dX12_behind_87 (Nat.zero_le _) (Nat.zero_le _) (fun u273 H273 locs273 hp273 hP hS => ?_)
          obtain ⟨σ273, τ273⟩ := u273
          obtain ⟨hR, f273, fL273, hp273_0, hp273_1, hp273_2⟩ : P_X12_next σ269 τ0 σ273 τ273 := hp273
          have hP : va_P D vwCl (gw cA ad σ273 τ273) H273 := hP
          have hFL := hFL.step fL273 (by decide)
          have hF := hF.step f273 (by decide)
          have gPV := PV.fr gPV hR f273 (by decide)
          have t274 : (σ273 387 39).toInt = (σ269 387 39).toInt := congrArg Int32.toInt (f273.at 387 39 (by decide))
          have t275 : (σ273 387 38).toInt = (σ269 387 38).toInt := congrArg Int32.toInt (f273.at 387 38 (by decide))
          have t276 : (σ273 387 40).toInt = (σ269 387 40).toInt := congrArg Int32.toInt (f273.at 387 40 (by decide))
          have t277 : (σ273 387 42).toInt = (σ269 387 42).toInt := congrArg Int32.toInt (f273.at 387 42 (by decide))
          refine r_iconst hx hb dX12_behind_90 (by decide) (fun z278 ez278 => ?_)
          exact r_zret hx hb hr hK hP hS hk (by omega) dX12_behind_91 (show P_X12_behind σ0 τ0 z278 σ273 τ273 from ⟨hR, hF, hFL, by omega, by first | exact Or.inl (by omega) | exact Or.inr gPV, by omega, by omega⟩)
theorem lk_X12_leafOf_107 : Cond.constantLong RX12 107 (7302244) ∈ wsX12_leafOf := by decide +kernel
theorem lk_X12_leafOf_109 : Cond.constantLong RX12 109 (1684365670) ∈ wsX12_leafOf := by decide +kernel
theorem lk_X12_leafOf_133 : Cond.constantLong RX12 133 (495925031534) ∈ wsX12_leafOf := by decide +kernel
theorem lk_X12_leafOf_135 : Cond.constantLong RX12 135 (1818846564) ∈ wsX12_leafOf := by decide +kernel
theorem lk_X12_leafOf_137 : Cond.constantLong RX12 137 (28526) ∈ wsX12_leafOf := by decide +kernel
theorem lk_X12_leafOf_139 : Cond.constantLong RX12 139 (448377483876) ∈ wsX12_leafOf := by decide +kernel
theorem lk_X12_leafOf_141 : Cond.constantLong RX12 141 (1668245870) ∈ wsX12_leafOf := by decide +kernel
theorem lk_X12_leafOf_143 : Cond.constantLong RX12 143 (495874699877) ∈ wsX12_leafOf := by decide +kernel
theorem lk_X12_leafOf_145 : Cond.constantLong RX12 145 (6644082) ∈ wsX12_leafOf := by decide +kernel
theorem lk_X12_leafOf_147 : Cond.constantLong RX12 147 (121450625394034) ∈ wsX12_leafOf := by decide +kernel
abbrev L_X12_leafOf : List Rc := []
abbrev LL_X12_leafOf : List Rc := []
def P_X12_leafOf (σ0 : Nat → Nat → Int32) (τ0 : Nat → Nat → Int64)  (r : Int32) (σ : Nat → Nat → Int32) (τ : Nat → Nat → Int64) : Prop := Rg σ ∧ Fr L_X12_leafOf σ0 σ ∧ FrL LL_X12_leafOf τ0 τ ∧ (-1 ≤ r.toInt ∧ r.toInt ≤ 9)
set_option maxHeartbeats 4000000 in
theorem c_X12_leafOf (l : Launch) (D : va_G) (cA : Nat → ClassId) (ad : Nat → Nat) (hI : Inj ad) (σ0 : Nat → Nat → Int32) (τ0 : Nat → Nat → Int64) (hR : Rg σ0)   : Met l yX12_leafOf wsX12_leafOf ({ frames := 1, cells := 0, slots := 0, locals := 22 } : Room) (WQc D cA ad [.ref (ad 387)] σ0 τ0) (va_Qi (fun (r : Int32) (u : SS) => P_X12_leafOf σ0 τ0 r u.1 u.2) (WB D cA ad) (AA ad)) 0 0 (AA ad) := by
  refine Met.ofW (cc := cX12_leafOf) (maxL := 1) (ret := (some .int)) (by decide) rfl ?_
  intro p e s m args below meth c s₁ B hml hv
  obtain ⟨rfl, hP, hK, hN⟩ := hv
  have C : Cy p s m _ meth c cX12_leafOf 1 wsX12_leafOf RX12 D cA ad (some .int) := ⟨B.exec, B.bytes, hml, findClass_of_methodNamed B.named, atoms_spec (ws := wsX12_leafOf) B.pre, hK, B.notSynchronized, B.returns, hI, hN⟩
  have hl := lv_entry ([.ref (ad 387)]) (n := 1) (Nat.le_of_ble_eq_true rfl)
  rw [lg_entry_eq]
  generalize (lg_sl ([.ref (ad 387)]) ++ List.replicate (1 - (lg_sl ([.ref (ad 387)])).length) Slot.unset).toArray = ls at hl ⊢
  have hl : lv_has ls 1 [(0, .ref (ad 387))] := hl
  have hS : va_S (AA ad) s.heap s.heap [] := va_S.rf
  have hF : Fr L_X12_leafOf σ0 σ0 := Fr.rf
  have hFL : FrL LL_X12_leafOf τ0 τ0 := FrL.rf
  obtain ⟨hx, hb, _, hown, hts, _, hk, hr, _, _⟩ := C
  refine lv_aload_n hx hb dX12_leafOf_0 rfl (lv_at hl 0 rfl) ?_
  refine lv_ldc2 (v := 7302244) hx hb hown (hts _ lk_X12_leafOf_107) dX12_leafOf_1 ?_
  refine r_cVi (k := 387) (As := [.long (7302244)]) (rest := []) ⟨hx, hb, hml, hown, hts⟩ hK hP hN hS (c_X12_isWord l D cA ad hI σ0 τ0 hR (7302244)) (cwV 1 hts gX12_leafOf_X12_isWord rfl rfl rfl (by decide +kernel) ⟨by decide, by decide⟩) (rv_M hK hP (by decide) (by decide)) rfl hl.1 rfl (Nat.le_of_ble_eq_true rfl) dX12_leafOf_4 (Nat.zero_le _) (Nat.zero_le _) (fun r1 u1 H1 locs1 hp1 hP hS => ?_)
  obtain ⟨σ1, τ1⟩ := u1
  obtain ⟨hR, f1, fL1, hq1, hp1_0⟩ : P_X12_isWord σ0 τ0 (7302244) r1 σ1 τ1 := hp1
  have hP : va_P D vwCl (gw cA ad σ1 τ1) H1 := hP
  obtain rfl := FrL.nil fL1
  obtain rfl := Fr.nil f1
  refine r_if_eq (tgt := 14) hx hb dX12_leafOf_7 (by decide) (fun c2 => ?_) (fun c2 => ?_)
  · clear hp1_0
    refine lv_aload_n hx hb dX12_leafOf_14 rfl (lv_at hl 0 rfl) ?_
    refine lv_ldc2 (v := 1684365670) hx hb hown (hts _ lk_X12_leafOf_109) dX12_leafOf_15 ?_
    refine r_cVi (k := 387) (As := [.long (1684365670)]) (rest := []) ⟨hx, hb, hml, hown, hts⟩ hK hP hN hS (c_X12_isWord l D cA ad hI σ0 τ0 hR (1684365670)) (cwV 1 hts gX12_leafOf_X12_isWord rfl rfl rfl (by decide +kernel) ⟨by decide, by decide⟩) (rv_M hK hP (by decide) (by decide)) rfl hl.1 rfl (Nat.le_of_ble_eq_true rfl) dX12_leafOf_18 (Nat.zero_le _) (Nat.zero_le _) (fun r3 u3 H3 locs3 hp3 hP hS => ?_)
    obtain ⟨σ3, τ3⟩ := u3
    obtain ⟨hR, f3, fL3, hq3, hp3_0⟩ : P_X12_isWord σ0 τ0 (1684365670) r3 σ3 τ3 := hp3
    have hP : va_P D vwCl (gw cA ad σ3 τ3) H3 := hP
    obtain rfl := FrL.nil fL3
    obtain rfl := Fr.nil f3
    refine r_if_eq (tgt := 28) hx hb dX12_leafOf_21 (by decide) (fun c4 => ?_) (fun c4 => ?_)
    · clear hp3_0
      refine lv_aload_n hx hb dX12_leafOf_28 rfl (lv_at hl 0 rfl) ?_
      refine lv_ldc2 (v := 495925031534) hx hb hown (hts _ lk_X12_leafOf_133) dX12_leafOf_29 ?_
      refine r_cVi (k := 387) (As := [.long (495925031534)]) (rest := []) ⟨hx, hb, hml, hown, hts⟩ hK hP hN hS (c_X12_isWord l D cA ad hI σ0 τ0 hR (495925031534)) (cwV 1 hts gX12_leafOf_X12_isWord rfl rfl rfl (by decide +kernel) ⟨by decide, by decide⟩) (rv_M hK hP (by decide) (by decide)) rfl hl.1 rfl (Nat.le_of_ble_eq_true rfl) dX12_leafOf_32 (Nat.zero_le _) (Nat.zero_le _) (fun r5 u5 H5 locs5 hp5 hP hS => ?_)
      obtain ⟨σ5, τ5⟩ := u5
      obtain ⟨hR, f5, fL5, hq5, hp5_0⟩ : P_X12_isWord σ0 τ0 (495925031534) r5 σ5 τ5 := hp5
      have hP : va_P D vwCl (gw cA ad σ5 τ5) H5 := hP
      obtain rfl := FrL.nil fL5
      obtain rfl := Fr.nil f5
      refine r_if_eq (tgt := 42) hx hb dX12_leafOf_35 (by decide) (fun c6 => ?_) (fun c6 => ?_)
      · clear hp5_0
        refine lv_aload_n hx hb dX12_leafOf_42 rfl (lv_at hl 0 rfl) ?_
        refine lv_ldc2 (v := 1818846564) hx hb hown (hts _ lk_X12_leafOf_135) dX12_leafOf_43 ?_
        refine r_cVi (k := 387) (As := [.long (1818846564)]) (rest := []) ⟨hx, hb, hml, hown, hts⟩ hK hP hN hS (c_X12_isWord l D cA ad hI σ0 τ0 hR (1818846564)) (cwV 1 hts gX12_leafOf_X12_isWord rfl rfl rfl (by decide +kernel) ⟨by decide, by decide⟩) (rv_M hK hP (by decide) (by decide)) rfl hl.1 rfl (Nat.le_of_ble_eq_true rfl) dX12_leafOf_46 (Nat.zero_le _) (Nat.zero_le _) (fun r7 u7 H7 locs7 hp7 hP hS => ?_)
        obtain ⟨σ7, τ7⟩ := u7
        obtain ⟨hR, f7, fL7, hq7, hp7_0⟩ : P_X12_isWord σ0 τ0 (1818846564) r7 σ7 τ7 := hp7
        have hP : va_P D vwCl (gw cA ad σ7 τ7) H7 := hP
        obtain rfl := FrL.nil fL7
        obtain rfl := Fr.nil f7
        refine r_if_eq (tgt := 56) hx hb dX12_leafOf_49 (by decide) (fun c8 => ?_) (fun c8 => ?_)
        · clear hp7_0
          refine lv_aload_n hx hb dX12_leafOf_56 rfl (lv_at hl 0 rfl) ?_
          refine lv_ldc2 (v := 448377483876) hx hb hown (hts _ lk_X12_leafOf_139) dX12_leafOf_57 ?_
          refine r_cVi (k := 387) (As := [.long (448377483876)]) (rest := []) ⟨hx, hb, hml, hown, hts⟩ hK hP hN hS (c_X12_isWord l D cA ad hI σ0 τ0 hR (448377483876)) (cwV 1 hts gX12_leafOf_X12_isWord rfl rfl rfl (by decide +kernel) ⟨by decide, by decide⟩) (rv_M hK hP (by decide) (by decide)) rfl hl.1 rfl (Nat.le_of_ble_eq_true rfl) dX12_leafOf_60 (Nat.zero_le _) (Nat.zero_le _) (fun r9 u9 H9 locs9 hp9 hP hS => ?_)
          obtain ⟨σ9, τ9⟩ := u9
          obtain ⟨hR, f9, fL9, hq9, hp9_0⟩ : P_X12_isWord σ0 τ0 (448377483876) r9 σ9 τ9 := hp9
          have hP : va_P D vwCl (gw cA ad σ9 τ9) H9 := hP
          obtain rfl := FrL.nil fL9
          obtain rfl := Fr.nil f9
          refine r_if_eq (tgt := 70) hx hb dX12_leafOf_63 (by decide) (fun c10 => ?_) (fun c10 => ?_)
          · clear hp9_0
            refine lv_aload_n hx hb dX12_leafOf_70 rfl (lv_at hl 0 rfl) ?_
            refine lv_ldc2 (v := 28526) hx hb hown (hts _ lk_X12_leafOf_137) dX12_leafOf_71 ?_
            refine r_cVi (k := 387) (As := [.long (28526)]) (rest := []) ⟨hx, hb, hml, hown, hts⟩ hK hP hN hS (c_X12_isWord l D cA ad hI σ0 τ0 hR (28526)) (cwV 1 hts gX12_leafOf_X12_isWord rfl rfl rfl (by decide +kernel) ⟨by decide, by decide⟩) (rv_M hK hP (by decide) (by decide)) rfl hl.1 rfl (Nat.le_of_ble_eq_true rfl) dX12_leafOf_74 (Nat.zero_le _) (Nat.zero_le _) (fun r11 u11 H11 locs11 hp11 hP hS => ?_)
            obtain ⟨σ11, τ11⟩ := u11
            obtain ⟨hR, f11, fL11, hq11, hp11_0⟩ : P_X12_isWord σ0 τ0 (28526) r11 σ11 τ11 := hp11
            have hP : va_P D vwCl (gw cA ad σ11 τ11) H11 := hP
            obtain rfl := FrL.nil fL11
            obtain rfl := Fr.nil f11
            refine r_if_eq (tgt := 84) hx hb dX12_leafOf_77 (by decide) (fun c12 => ?_) (fun c12 => ?_)
            · clear hp11_0
              refine lv_aload_n hx hb dX12_leafOf_84 rfl (lv_at hl 0 rfl) ?_
              refine lv_ldc2 (v := 1668245870) hx hb hown (hts _ lk_X12_leafOf_141) dX12_leafOf_85 ?_
              refine r_cVi (k := 387) (As := [.long (1668245870)]) (rest := []) ⟨hx, hb, hml, hown, hts⟩ hK hP hN hS (c_X12_isWord l D cA ad hI σ0 τ0 hR (1668245870)) (cwV 1 hts gX12_leafOf_X12_isWord rfl rfl rfl (by decide +kernel) ⟨by decide, by decide⟩) (rv_M hK hP (by decide) (by decide)) rfl hl.1 rfl (Nat.le_of_ble_eq_true rfl) dX12_leafOf_88 (Nat.zero_le _) (Nat.zero_le _) (fun r13 u13 H13 locs13 hp13 hP hS => ?_)
              obtain ⟨σ13, τ13⟩ := u13
              obtain ⟨hR, f13, fL13, hq13, hp13_0⟩ : P_X12_isWord σ0 τ0 (1668245870) r13 σ13 τ13 := hp13
              have hP : va_P D vwCl (gw cA ad σ13 τ13) H13 := hP
              obtain rfl := FrL.nil fL13
              obtain rfl := Fr.nil f13
              refine r_if_eq (tgt := 99) hx hb dX12_leafOf_91 (by decide) (fun c14 => ?_) (fun c14 => ?_)
              · clear hp13_0
                refine lv_aload_n hx hb dX12_leafOf_99 rfl (lv_at hl 0 rfl) ?_
                refine lv_ldc2 (v := 495874699877) hx hb hown (hts _ lk_X12_leafOf_143) dX12_leafOf_100 ?_
                refine r_cVi (k := 387) (As := [.long (495874699877)]) (rest := []) ⟨hx, hb, hml, hown, hts⟩ hK hP hN hS (c_X12_isWord l D cA ad hI σ0 τ0 hR (495874699877)) (cwV 1 hts gX12_leafOf_X12_isWord rfl rfl rfl (by decide +kernel) ⟨by decide, by decide⟩) (rv_M hK hP (by decide) (by decide)) rfl hl.1 rfl (Nat.le_of_ble_eq_true rfl) dX12_leafOf_103 (Nat.zero_le _) (Nat.zero_le _) (fun r15 u15 H15 locs15 hp15 hP hS => ?_)
                obtain ⟨σ15, τ15⟩ := u15
                obtain ⟨hR, f15, fL15, hq15, hp15_0⟩ : P_X12_isWord σ0 τ0 (495874699877) r15 σ15 τ15 := hp15
                have hP : va_P D vwCl (gw cA ad σ15 τ15) H15 := hP
                obtain rfl := FrL.nil fL15
                obtain rfl := Fr.nil f15
                refine r_if_eq (tgt := 114) hx hb dX12_leafOf_106 (by decide) (fun c16 => ?_) (fun c16 => ?_)
                · clear hp15_0
                  refine lv_aload_n hx hb dX12_leafOf_114 rfl (lv_at hl 0 rfl) ?_
                  refine lv_ldc2 (v := 6644082) hx hb hown (hts _ lk_X12_leafOf_145) dX12_leafOf_115 ?_
                  refine r_cVi (k := 387) (As := [.long (6644082)]) (rest := []) ⟨hx, hb, hml, hown, hts⟩ hK hP hN hS (c_X12_isWord l D cA ad hI σ0 τ0 hR (6644082)) (cwV 1 hts gX12_leafOf_X12_isWord rfl rfl rfl (by decide +kernel) ⟨by decide, by decide⟩) (rv_M hK hP (by decide) (by decide)) rfl hl.1 rfl (Nat.le_of_ble_eq_true rfl) dX12_leafOf_118 (Nat.zero_le _) (Nat.zero_le _) (fun r17 u17 H17 locs17 hp17 hP hS => ?_)
                  obtain ⟨σ17, τ17⟩ := u17
                  obtain ⟨hR, f17, fL17, hq17, hp17_0⟩ : P_X12_isWord σ0 τ0 (6644082) r17 σ17 τ17 := hp17
                  have hP : va_P D vwCl (gw cA ad σ17 τ17) H17 := hP
                  obtain rfl := FrL.nil fL17
                  obtain rfl := Fr.nil f17
                  refine r_if_eq (tgt := 129) hx hb dX12_leafOf_121 (by decide) (fun c18 => ?_) (fun c18 => ?_)
                  · clear hp17_0
                    refine lv_aload_n hx hb dX12_leafOf_129 rfl (lv_at hl 0 rfl) ?_
                    refine lv_ldc2 (v := 121450625394034) hx hb hown (hts _ lk_X12_leafOf_147) dX12_leafOf_130 ?_
                    refine r_cVi (k := 387) (As := [.long (121450625394034)]) (rest := []) ⟨hx, hb, hml, hown, hts⟩ hK hP hN hS (c_X12_isWord l D cA ad hI σ0 τ0 hR (121450625394034)) (cwV 1 hts gX12_leafOf_X12_isWord rfl rfl rfl (by decide +kernel) ⟨by decide, by decide⟩) (rv_M hK hP (by decide) (by decide)) rfl hl.1 rfl (Nat.le_of_ble_eq_true rfl) dX12_leafOf_133 (Nat.zero_le _) (Nat.zero_le _) (fun r19 u19 H19 locs19 hp19 hP hS => ?_)
                    obtain ⟨σ19, τ19⟩ := u19
                    obtain ⟨hR, f19, fL19, hq19, hp19_0⟩ : P_X12_isWord σ0 τ0 (121450625394034) r19 σ19 τ19 := hp19
                    have hP : va_P D vwCl (gw cA ad σ19 τ19) H19 := hP
                    obtain rfl := FrL.nil fL19
                    obtain rfl := Fr.nil f19
                    refine r_if_eq (tgt := 144) hx hb dX12_leafOf_136 (by decide) (fun c20 => ?_) (fun c20 => ?_)
                    · clear hp19_0
                      refine r_iconst hx hb dX12_leafOf_144 (by decide) (fun z21 ez21 => ?_)
                      exact r_iret hx hb hr hK hP hS hk dX12_leafOf_145 (show P_X12_leafOf σ0 τ0 z21 σ0 τ0 from ⟨hR, hF, hFL, by omega⟩)
                    · replace hp19_0 := hp19_0.resolve_left (by omega)
                      refine r_bipush hx hb dX12_leafOf_139 (by decide) (fun z22 ez22 => ?_)
                      refine lv_goto (tgt := 145) hx hb dX12_leafOf_141 (by decide) ?_
                      exact r_iret hx hb hr hK hP hS hk dX12_leafOf_145 (show P_X12_leafOf σ0 τ0 z22 σ0 τ0 from ⟨hR, hF, hFL, by omega⟩)
                  · replace hp17_0 := hp17_0.resolve_left (by omega)
                    refine r_bipush hx hb dX12_leafOf_124 (by decide) (fun z23 ez23 => ?_)
                    refine lv_goto (tgt := 145) hx hb dX12_leafOf_126 (by decide) ?_
                    exact r_iret hx hb hr hK hP hS hk dX12_leafOf_145 (show P_X12_leafOf σ0 τ0 z23 σ0 τ0 from ⟨hR, hF, hFL, by omega⟩)
                · replace hp15_0 := hp15_0.resolve_left (by omega)
                  refine r_bipush hx hb dX12_leafOf_109 (by decide) (fun z24 ez24 => ?_)
                  refine lv_goto (tgt := 145) hx hb dX12_leafOf_111 (by decide) ?_
                  exact r_iret hx hb hr hK hP hS hk dX12_leafOf_145 (show P_X12_leafOf σ0 τ0 z24 σ0 τ0 from ⟨hR, hF, hFL, by omega⟩)
              · replace hp13_0 := hp13_0.resolve_left (by omega)
                refine r_bipush hx hb dX12_leafOf_94 (by decide) (fun z25 ez25 => ?_)
                refine lv_goto (tgt := 145) hx hb dX12_leafOf_96 (by decide) ?_
                exact r_iret hx hb hr hK hP hS hk dX12_leafOf_145 (show P_X12_leafOf σ0 τ0 z25 σ0 τ0 from ⟨hR, hF, hFL, by omega⟩)
            · replace hp11_0 := hp11_0.resolve_left (by omega)
              refine r_iconst hx hb dX12_leafOf_80 (by decide) (fun z26 ez26 => ?_)
              refine lv_goto (tgt := 145) hx hb dX12_leafOf_81 (by decide) ?_
              exact r_iret hx hb hr hK hP hS hk dX12_leafOf_145 (show P_X12_leafOf σ0 τ0 z26 σ0 τ0 from ⟨hR, hF, hFL, by omega⟩)
          · replace hp9_0 := hp9_0.resolve_left (by omega)
            refine r_iconst hx hb dX12_leafOf_66 (by decide) (fun z27 ez27 => ?_)
            refine lv_goto (tgt := 145) hx hb dX12_leafOf_67 (by decide) ?_
            exact r_iret hx hb hr hK hP hS hk dX12_leafOf_145 (show P_X12_leafOf σ0 τ0 z27 σ0 τ0 from ⟨hR, hF, hFL, by omega⟩)
        · replace hp7_0 := hp7_0.resolve_left (by omega)
          refine r_iconst hx hb dX12_leafOf_52 (by decide) (fun z28 ez28 => ?_)
          refine lv_goto (tgt := 145) hx hb dX12_leafOf_53 (by decide) ?_
          exact r_iret hx hb hr hK hP hS hk dX12_leafOf_145 (show P_X12_leafOf σ0 τ0 z28 σ0 τ0 from ⟨hR, hF, hFL, by omega⟩)
      · replace hp5_0 := hp5_0.resolve_left (by omega)
        refine r_iconst hx hb dX12_leafOf_38 (by decide) (fun z29 ez29 => ?_)
        refine lv_goto (tgt := 145) hx hb dX12_leafOf_39 (by decide) ?_
        exact r_iret hx hb hr hK hP hS hk dX12_leafOf_145 (show P_X12_leafOf σ0 τ0 z29 σ0 τ0 from ⟨hR, hF, hFL, by omega⟩)
    · replace hp3_0 := hp3_0.resolve_left (by omega)
      refine r_iconst hx hb dX12_leafOf_24 (by decide) (fun z30 ez30 => ?_)
      refine lv_goto (tgt := 145) hx hb dX12_leafOf_25 (by decide) ?_
      exact r_iret hx hb hr hK hP hS hk dX12_leafOf_145 (show P_X12_leafOf σ0 τ0 z30 σ0 τ0 from ⟨hR, hF, hFL, by omega⟩)
  · replace hp1_0 := hp1_0.resolve_left (by omega)
    refine r_iconst hx hb dX12_leafOf_10 (by decide) (fun z31 ez31 => ?_)
    refine lv_goto (tgt := 145) hx hb dX12_leafOf_11 (by decide) ?_
    exact r_iret hx hb hr hK hP hS hk dX12_leafOf_145 (show P_X12_leafOf σ0 τ0 z31 σ0 τ0 from ⟨hR, hF, hFL, by omega⟩)
theorem in_X12_operand_12 : ∀ w ∈ u_ws RX12 TX12 47, w ∈ wsX12_operand := by decide +kernel
theorem lk_X12_operand_131 : Cond.constantLong RX12 131 (7237492) ∈ wsX12_operand := by decide +kernel
theorem lk_X12_operand_159 : Cond.fieldLink RX12 159 "CuckooSharesModel" "token" "I" ∈ wsX12_operand := by decide +kernel
theorem lk_X12_operand_169 : Cond.fieldLink RX12 169 "CuckooSharesModel" "number" "I" ∈ wsX12_operand := by decide +kernel
theorem lk_X12_operand_195 : Cond.fieldLink RX12 195 "CuckooSharesModel" "got" "I" ∈ wsX12_operand := by decide +kernel
theorem lk_X12_operand_33 : Cond.fieldLink RX12 33 "CuckooSharesModel" "s" "[I" ∈ wsX12_operand := by decide +kernel
theorem lk_X12_operand_434 : Cond.fieldLink RX12 434 "CuckooSharesModel" "top" "I" ∈ wsX12_operand := by decide +kernel
theorem lk_X12_operand_440 : Cond.fieldLink RX12 440 "CuckooSharesModel" "deep" "I" ∈ wsX12_operand := by decide +kernel
theorem lk_X12_operand_446 : Cond.fieldLink RX12 446 "CuckooSharesModel" "ones" "I" ∈ wsX12_operand := by decide +kernel
theorem lk_X12_operand_449 : Cond.fieldLink RX12 449 "CuckooSharesModel" "isWhole" "Z" ∈ wsX12_operand := by decide +kernel
theorem lk_X12_operand_71 : Cond.fieldLink RX12 71 "CuckooSharesModel" "stack" "[I" ∈ wsX12_operand := by decide +kernel
abbrev L_X12_operand : List Rc := [(387, 387, 4, 4), (387, 387, 11, 16), (401, 401, 0, 40), (391, 391, 0, 119), (387, 387, 38, 42), (387, 387, 18, 18)]
abbrev LL_X12_operand : List Rc := [(387, 387, 17, 17)]
def P_X12_operand (σ0 : Nat → Nat → Int32) (τ0 : Nat → Nat → Int64)  (r : Int32) (σ : Nat → Nat → Int32) (τ : Nat → Nat → Int64) : Prop := Rg σ ∧ Fr L_X12_operand σ0 σ ∧ FrL LL_X12_operand τ0 τ ∧ (0 ≤ r.toInt ∧ r.toInt ≤ 1) ∧ (r.toInt = 0 ∨ PV σ) ∧ (r.toInt = 0 ∨ (σ 387 38).toInt + (σ 387 40).toInt + (σ 387 42).toInt ≤ 2 * (σ 387 39).toInt) ∧ (r.toInt = 0 ∨ ((σ 387 39).toInt = (σ0 387 39).toInt + 1 ∧ (σ 387 40).toInt ≤ (σ0 387 40).toInt + 1))
set_option maxHeartbeats 4000000 in
theorem c_X12_operand (l : Launch) (D : va_G) (cA : Nat → ClassId) (ad : Nat → Nat) (hI : Inj ad) (σ0 : Nat → Nat → Int32) (τ0 : Nat → Nat → Int64) (hR : Rg σ0)  (hpre0 : (σ0 387 42).toInt = 0) (hpre1 : (σ0 387 38).toInt + (σ0 387 40).toInt ≤ 2 * (σ0 387 39).toInt) (gPV0 : PV σ0) : Met l yX12_operand wsX12_operand ({ frames := 2, cells := 0, slots := 0, locals := 45 } : Room) (WQc D cA ad [.ref (ad 387)] σ0 τ0) (va_Qi (fun (r : Int32) (u : SS) => P_X12_operand σ0 τ0 r u.1 u.2) (WB D cA ad) (AA ad)) 0 0 (AA ad) := by
  refine Met.ofW (cc := cX12_operand) (maxL := 5) (ret := (some .boolean)) (by decide) rfl ?_
  intro p e s m args below meth c s₁ B hml hv
  obtain ⟨rfl, hP, hK, hN⟩ := hv
  have C : Cy p s m _ meth c cX12_operand 5 wsX12_operand RX12 D cA ad (some .boolean) := ⟨B.exec, B.bytes, hml, findClass_of_methodNamed B.named, atoms_spec (ws := wsX12_operand) B.pre, hK, B.notSynchronized, B.returns, hI, hN⟩
  have hl := lv_entry ([.ref (ad 387)]) (n := 5) (Nat.le_of_ble_eq_true rfl)
  rw [lg_entry_eq]
  generalize (lg_sl ([.ref (ad 387)]) ++ List.replicate (5 - (lg_sl ([.ref (ad 387)])).length) Slot.unset).toArray = ls at hl ⊢
  have hl : lv_has ls 5 [(0, .ref (ad 387))] := hl
  have hS : va_S (AA ad) s.heap s.heap [] := va_S.rf
  have hF : Fr L_X12_operand σ0 σ0 := Fr.rf
  have hFL : FrL LL_X12_operand τ0 τ0 := FrL.rf
  have gPV := gPV0
  obtain ⟨hx, hb, _, hown, hts, _, hk, hr, _, _⟩ := C
  have hrt38 := rg_12_38 hR (k := 387) (by decide) (by decide)
  have hrt39 := rg_12_39 hR (k := 387) (by decide) (by decide)
  have hrt40 := rg_12_40 hR (k := 387) (by decide) (by decide)
  have hrt42 := rg_12_42 hR (k := 387) (by decide) (by decide)
  have gPW := gPV.toPW (by omega)
  refine lv_aload_n hx hb dX12_operand_0 rfl (lv_at hl 0 rfl) ?_
  refine lv_ldc2 (v := 7237492) hx hb hown (hts _ lk_X12_operand_131) dX12_operand_1 ?_
  refine r_cVi (k := 387) (As := [.long (7237492)]) (rest := []) ⟨hx, hb, hml, hown, hts⟩ hK hP hN hS (c_X12_isWord l D cA ad hI σ0 τ0 hR (7237492)) (cwV 1 hts gX12_operand_X12_isWord rfl rfl rfl (by decide +kernel) ⟨by decide, by decide⟩) (rv_M hK hP (by decide) (by decide)) rfl hl.1 rfl (Nat.le_of_ble_eq_true rfl) dX12_operand_4 (Nat.zero_le _) (Nat.zero_le _) (fun r1 u1 H1 locs1 hp1 hP hS => ?_)
  obtain ⟨σ1, τ1⟩ := u1
  obtain ⟨hR, f1, fL1, hq1, hp1_0⟩ : P_X12_isWord σ0 τ0 (7237492) r1 σ1 τ1 := hp1
  have hP : va_P D vwCl (gw cA ad σ1 τ1) H1 := hP
  obtain rfl := FrL.nil fL1
  obtain rfl := Fr.nil f1
  refine lv_istore_n (lv' := [(1, .int r1), (0, .ref (ad 387))]) hx hb dX12_operand_7 rfl hl (by decide) rfl (fun ls hl => ?_)
  refine lv_aload_n hx hb dX12_operand_8 rfl (lv_at hl 1 rfl) ?_
  refine r_bipush hx hb dX12_operand_9 (by decide) (fun z2 ez2 => ?_)
  refine r_cVi (k := 387) (As := [.int z2]) (rest := []) ⟨hx, hb, hml, hown, hts⟩ hK hP hN hS (c_X12_isSign l D cA ad hI σ0 τ0 hR z2 (by omega)) (cwV 1 hts gX12_operand_X12_isSign rfl rfl rfl (by decide +kernel) ⟨by decide, by decide⟩) (rv_M hK hP (by decide) (by decide)) rfl hl.1 rfl (Nat.le_of_ble_eq_true rfl) dX12_operand_11 (Nat.zero_le _) (Nat.zero_le _) (fun r3 u3 H3 locs3 hp3 hP hS => ?_)
  obtain ⟨σ3, τ3⟩ := u3
  obtain ⟨hR, f3, fL3, hq3, hp3_0⟩ : P_X12_isSign σ0 τ0 z2 r3 σ3 τ3 := hp3
  have hP : va_P D vwCl (gw cA ad σ3 τ3) H3 := hP
  obtain rfl := FrL.nil fL3
  obtain rfl := Fr.nil f3
  refine lv_istore_n (lv' := [(2, .int r3), (1, .int r1), (0, .ref (ad 387))]) hx hb dX12_operand_14 rfl hl (by decide) rfl (fun ls hl => ?_)
  refine lv_aload_n hx hb dX12_operand_15 rfl (lv_at hl 2 rfl) ?_
  refine r_cVi (k := 387) (As := []) (rest := []) ⟨hx, hb, hml, hown, hts⟩ hK hP hN hS (c_X12_leafOf l D cA ad hI σ0 τ0 hR) (cwV 0 hts gX12_operand_X12_leafOf rfl rfl rfl (by decide +kernel) ⟨by decide, by decide⟩) (rv_M hK hP (by decide) (by decide)) rfl hl.1 rfl (Nat.le_of_ble_eq_true rfl) dX12_operand_16 (Nat.zero_le _) (Nat.zero_le _) (fun r4 u4 H4 locs4 hp4 hP hS => ?_)
  obtain ⟨σ4, τ4⟩ := u4
  obtain ⟨hR, f4, fL4, hq4⟩ : P_X12_leafOf σ0 τ0 r4 σ4 τ4 := hp4
  have hP : va_P D vwCl (gw cA ad σ4 τ4) H4 := hP
  obtain rfl := FrL.nil fL4
  obtain rfl := Fr.nil f4
  refine lv_istore_n (lv' := [(3, .int r4), (2, .int r3), (1, .int r1), (0, .ref (ad 387))]) hx hb dX12_operand_19 rfl hl (by decide) rfl (fun ls hl => ?_)
  refine lv_iload_n hx hb dX12_operand_20 rfl (lv_at hl 2 rfl) ?_
  refine r_if_ne (tgt := 38) hx hb dX12_operand_21 (by decide) (fun c5 => ?_) (fun c5 => ?_)
  · replace hp1_0 := hp1_0.resolve_left (by omega)
    refine lv_aload_n hx hb dX12_operand_38 rfl (lv_at hl 3 rfl) ?_
    refine fg_12_39 (k := 387) hx hb hts in_X12_operand_12 hown hK hP (by decide) (by decide) (hts _ lk_X12_operand_446) dX12_operand_39 ?_
    refine r_bipush hx hb dX12_operand_42 (by decide) (fun z6 ez6 => ?_)
    refine r_icmp_eq (tgt := 56) hx hb dX12_operand_44 (by decide) (fun c7 => ?_) (fun c7 => ?_)
    · refine lv_aload_n hx hb dX12_operand_56 rfl (lv_at hl 3 rfl) ?_
      refine r_iconst hx hb dX12_operand_57 (by decide) (fun z8 ez8 => ?_)
      refine r_cVi (k := 387) (As := [.int z8]) (rest := []) ⟨hx, hb, hml, hown, hts⟩ hK hP hN hS (c_X12_bad l D cA ad hI σ0 τ0 hR z8 (by omega)) (cwV 1 hts gX12_operand_X12_bad rfl rfl rfl (by decide +kernel) ⟨by decide, by decide⟩) (rv_M hK hP (by decide) (by decide)) rfl hl.1 rfl (Nat.le_of_ble_eq_true rfl) dX12_operand_58 (Nat.zero_le _) (Nat.zero_le _) (fun r9 u9 H9 locs9 hp9 hP hS => ?_)
      obtain ⟨σ9, τ9⟩ := u9
      obtain ⟨hR, f9, fL9, hq9⟩ : P_X12_bad σ0 τ0 z8 r9 σ9 τ9 := hp9
      have hP : va_P D vwCl (gw cA ad σ9 τ9) H9 := hP
      obtain rfl := FrL.nil fL9
      have hF := hF.step f9 (by decide)
      have gPV := PV.fr gPV hR f9 (by decide)
      have gPW := PW.fr gPW hR f9 (by decide)
      have t10 : (σ9 387 38).toInt = (σ0 387 38).toInt := congrArg Int32.toInt (f9.at 387 38 (by decide))
      have t11 : (σ9 387 39).toInt = (σ0 387 39).toInt := congrArg Int32.toInt (f9.at 387 39 (by decide))
      have t12 : (σ9 387 40).toInt = (σ0 387 40).toInt := congrArg Int32.toInt (f9.at 387 40 (by decide))
      have t13 : (σ9 387 42).toInt = (σ0 387 42).toInt := congrArg Int32.toInt (f9.at 387 42 (by decide))
      exact r_zret hx hb hr hK hP hS hk (by omega) dX12_operand_61 (show P_X12_operand σ0 τ0 r9 σ9 τ0 from ⟨hR, hF, hFL, by omega, by first | exact Or.inl (by omega) | exact Or.inr gPV, by omega, by omega⟩)
    · refine lv_aload_n hx hb dX12_operand_47 rfl (lv_at hl 3 rfl) ?_
      refine fg_12_41 (k := 387) hx hb hts in_X12_operand_12 hown hK hP (by decide) (by decide) (hts _ lk_X12_operand_440) dX12_operand_48 ?_
      refine r_bipush hx hb dX12_operand_51 (by decide) (fun z14 ez14 => ?_)
      refine r_icmp_le (tgt := 62) hx hb dX12_operand_53 (by decide) (fun c15 => ?_) (fun c15 => ?_)
      · refine lv_aload_n hx hb dX12_operand_62 rfl (lv_at hl 3 rfl) ?_
        refine lv_dup hx hb dX12_operand_63 rfl ?_
        refine fg_12_39 (k := 387) hx hb hts in_X12_operand_12 hown hK hP (by decide) (by decide) (hts _ lk_X12_operand_446) dX12_operand_64 ?_
        refine r_iconst hx hb dX12_operand_67 (by decide) (fun z16 ez16 => ?_)
        refine r_iadd hx hb dX12_operand_68 (by omega) (fun z17 ez17 => ?_)
        refine fp_12_39 (k := 387) hx hb hts in_X12_operand_12 hown hK hP (by decide) (by decide) (hts _ lk_X12_operand_446) hI hR hS (by omega) dX12_operand_69 (fun σ18 H18 locs18 u18 v18 hR hP hS => ?_)
        have hF := hF.puts u18 4 rfl (by decide) (by decide) (by decide) (by decide)
        have gPV := PV.put gPV hR u18 (by decide)
        have gPW := PW.put gPW hR u18 (by decide)
        have t19 : (σ18 387 38).toInt = (σ0 387 38).toInt := congrArg Int32.toInt (u18 387 38 (by omega))
        have t20 : (σ18 387 40).toInt = (σ0 387 40).toInt := congrArg Int32.toInt (u18 387 40 (by omega))
        have t21 : (σ18 387 42).toInt = (σ0 387 42).toInt := congrArg Int32.toInt (u18 387 42 (by omega))
        have t22 : (σ18 387 41).toInt = (σ0 387 41).toInt := congrArg Int32.toInt (u18 387 41 (by omega))
        refine lv_aload_n hx hb dX12_operand_72 rfl (lv_at hl 3 rfl) ?_
        refine r_cVv (k := 387) (As := []) (rest := []) ⟨hx, hb, hml, hown, hts⟩ hK hP hN hS (c_X12_next l D cA ad hI σ18 τ0 hR) (cwV 0 hts gX12_operand_X12_next rfl rfl rfl (by decide +kernel) ⟨by decide, by decide⟩) (rv_M hK hP (by decide) (by decide)) rfl hl.1 rfl (Nat.le_of_ble_eq_true rfl) dX12_operand_73 (Nat.zero_le _) (Nat.zero_le _) (fun u23 H23 locs23 hp23 hP hS => ?_)
        obtain ⟨σ23, τ23⟩ := u23
        obtain ⟨hR, f23, fL23, hp23_0, hp23_1, hp23_2⟩ : P_X12_next σ18 τ0 σ23 τ23 := hp23
        have hP : va_P D vwCl (gw cA ad σ23 τ23) H23 := hP
        have hFL := hFL.step fL23 (by decide)
        have hF := hF.step f23 (by decide)
        have gPV := PV.fr gPV hR f23 (by decide)
        have gPW := PW.fr gPW hR f23 (by decide)
        have t24 : (σ23 387 38).toInt = (σ18 387 38).toInt := congrArg Int32.toInt (f23.at 387 38 (by decide))
        have t25 : (σ23 387 40).toInt = (σ18 387 40).toInt := congrArg Int32.toInt (f23.at 387 40 (by decide))
        have t26 : (σ23 387 42).toInt = (σ18 387 42).toInt := congrArg Int32.toInt (f23.at 387 42 (by decide))
        have t27 : (σ23 387 41).toInt = (σ18 387 41).toInt := congrArg Int32.toInt (f23.at 387 41 (by decide))
        have t28 : (σ23 387 39).toInt = (σ18 387 39).toInt := congrArg Int32.toInt (f23.at 387 39 (by decide))
        refine lv_iload_n hx hb dX12_operand_76 rfl (lv_at hl 2 rfl) ?_
        refine r_if_ne (tgt := 84) hx hb dX12_operand_77 (by decide) (fun c29 => ?_) (fun c29 => ?_)
        · refine lv_aload_n hx hb dX12_operand_84 rfl (lv_at hl 3 rfl) ?_
          refine fg_12_37 (k := 387) hx hb hts in_X12_operand_12 hown hK hP (by decide) (by decide) (hts _ lk_X12_operand_71) dX12_operand_85 ?_
          refine lv_aload_n hx hb dX12_operand_88 rfl (lv_at hl 3 rfl) ?_
          refine fg_12_40 (k := 387) hx hb hts in_X12_operand_12 hown hK hP (by decide) (by decide) (hts _ lk_X12_operand_434) dX12_operand_89 ?_
          refine lv_iload_n hx hb dX12_operand_92 rfl (lv_at hl 2 rfl) ?_
          refine r_if_eq (tgt := 101) hx hb dX12_operand_93 (by decide) (fun c30 => ?_) (fun c30 => ?_)
          · exfalso; omega
          · refine r_bipush hx hb dX12_operand_96 (by decide) (fun z31 ez31 => ?_)
            refine lv_goto (tgt := 103) hx hb dX12_operand_98 (by decide) ?_
            obtain ⟨j32, ej32⟩ : ∃ j : Nat, (σ23 387 40).toInt = (j : Int) := ⟨_, ti_nat (by omega)⟩
            refine as_mstack (k := 401) (j := j32) hx hb hK hP hI hR hS (by decide) (by decide) ej32 (by omega) dX12_operand_103 (fun σ33 H33 locs33 u33 v33 hR hP hS => ?_)
            have ua := u33
            have va := v33
            have hF := hF.puts u33 2 rfl (by decide) (by decide) (by omega) (by omega)
            have t34 : (σ33 387 38).toInt = (σ23 387 38).toInt := congrArg Int32.toInt (u33 387 38 (by omega))
            have t35 : (σ33 387 40).toInt = (σ23 387 40).toInt := congrArg Int32.toInt (u33 387 40 (by omega))
            have t36 : (σ33 387 42).toInt = (σ23 387 42).toInt := congrArg Int32.toInt (u33 387 42 (by omega))
            have t37 : (σ33 387 41).toInt = (σ23 387 41).toInt := congrArg Int32.toInt (u33 387 41 (by omega))
            have t38 : (σ33 387 39).toInt = (σ23 387 39).toInt := congrArg Int32.toInt (u33 387 39 (by omega))
            refine lv_aload_n hx hb dX12_operand_104 rfl (lv_at hl 3 rfl) ?_
            refine lv_dup hx hb dX12_operand_105 rfl ?_
            refine fg_12_40 (k := 387) hx hb hts in_X12_operand_12 hown hK hP (by decide) (by decide) (hts _ lk_X12_operand_434) dX12_operand_106 ?_
            refine r_iconst hx hb dX12_operand_109 (by decide) (fun z39 ez39 => ?_)
            refine r_iadd hx hb dX12_operand_110 (by omega) (fun z40 ez40 => ?_)
            refine fp_12_40 (k := 387) hx hb hts in_X12_operand_12 hown hK hP (by decide) (by decide) (hts _ lk_X12_operand_434) hI hR hS (by omega) dX12_operand_111 (fun σ41 H41 locs41 u41 v41 hR hP hS => ?_)
            have ub := u41
            have vb := v41
            have hF := hF.puts u41 4 rfl (by decide) (by decide) (by decide) (by decide)
            have t42 : (σ41 387 38).toInt = (σ33 387 38).toInt := congrArg Int32.toInt (u41 387 38 (by omega))
            have t43 : (σ41 387 42).toInt = (σ33 387 42).toInt := congrArg Int32.toInt (u41 387 42 (by omega))
            have t44 : (σ41 387 41).toInt = (σ33 387 41).toInt := congrArg Int32.toInt (u41 387 41 (by omega))
            have t45 : (σ41 387 39).toInt = (σ33 387 39).toInt := congrArg Int32.toInt (u41 387 39 (by omega))
            have gPV := PV.push gPV ua va (by omega) (by omega) ub (by omega)
            refine lv_aload_n hx hb dX12_operand_114 rfl (lv_at hl 3 rfl) ?_
            refine lv_dup hx hb dX12_operand_115 rfl ?_
            refine fg_12_41 (k := 387) hx hb hts in_X12_operand_12 hown hK hP (by decide) (by decide) (hts _ lk_X12_operand_440) dX12_operand_116 ?_
            refine r_iconst hx hb dX12_operand_119 (by decide) (fun z46 ez46 => ?_)
            have b48 := And.intro (ti_lo (σ41 387 41)) (ti_hi (σ41 387 41))
            refine r_iadd hx hb dX12_operand_120 (by omega) (fun z47 ez47 => ?_)
            refine fp_12_41 (k := 387) hx hb hts in_X12_operand_12 hown hK hP (by decide) (by decide) (hts _ lk_X12_operand_440) hI hR hS dX12_operand_121 (fun σ49 H49 locs49 u49 v49 hR hP hS => ?_)
            have hF := hF.puts u49 4 rfl (by decide) (by decide) (by decide) (by decide)
            have gPV := PV.put gPV hR u49 (by decide)
            have t50 : (σ49 387 38).toInt = (σ41 387 38).toInt := congrArg Int32.toInt (u49 387 38 (by omega))
            have t51 : (σ49 387 42).toInt = (σ41 387 42).toInt := congrArg Int32.toInt (u49 387 42 (by omega))
            have t52 : (σ49 387 39).toInt = (σ41 387 39).toInt := congrArg Int32.toInt (u49 387 39 (by omega))
            have t53 : (σ49 387 40).toInt = (σ41 387 40).toInt := congrArg Int32.toInt (u49 387 40 (by omega))
            refine r_iconst hx hb dX12_operand_124 (by decide) (fun z54 ez54 => ?_)
            exact r_zret hx hb hr hK hP hS hk (by omega) dX12_operand_125 (show P_X12_operand σ0 τ0 z54 σ49 τ23 from ⟨hR, hF, hFL, by omega, by first | exact Or.inl (by omega) | exact Or.inr gPV, by omega, by omega⟩)
        · exfalso; omega
      · refine lv_aload_n hx hb dX12_operand_56 rfl (lv_at hl 3 rfl) ?_
        refine r_iconst hx hb dX12_operand_57 (by decide) (fun z55 ez55 => ?_)
        refine r_cVi (k := 387) (As := [.int z55]) (rest := []) ⟨hx, hb, hml, hown, hts⟩ hK hP hN hS (c_X12_bad l D cA ad hI σ0 τ0 hR z55 (by omega)) (cwV 1 hts gX12_operand_X12_bad rfl rfl rfl (by decide +kernel) ⟨by decide, by decide⟩) (rv_M hK hP (by decide) (by decide)) rfl hl.1 rfl (Nat.le_of_ble_eq_true rfl) dX12_operand_58 (Nat.zero_le _) (Nat.zero_le _) (fun r56 u56 H56 locs56 hp56 hP hS => ?_)
        obtain ⟨σ56, τ56⟩ := u56
        obtain ⟨hR, f56, fL56, hq56⟩ : P_X12_bad σ0 τ0 z55 r56 σ56 τ56 := hp56
        have hP : va_P D vwCl (gw cA ad σ56 τ56) H56 := hP
        obtain rfl := FrL.nil fL56
        have hF := hF.step f56 (by decide)
        have gPV := PV.fr gPV hR f56 (by decide)
        have gPW := PW.fr gPW hR f56 (by decide)
        have t57 : (σ56 387 38).toInt = (σ0 387 38).toInt := congrArg Int32.toInt (f56.at 387 38 (by decide))
        have t58 : (σ56 387 39).toInt = (σ0 387 39).toInt := congrArg Int32.toInt (f56.at 387 39 (by decide))
        have t59 : (σ56 387 40).toInt = (σ0 387 40).toInt := congrArg Int32.toInt (f56.at 387 40 (by decide))
        have t60 : (σ56 387 42).toInt = (σ0 387 42).toInt := congrArg Int32.toInt (f56.at 387 42 (by decide))
        have t61 : (σ56 387 41).toInt = (σ0 387 41).toInt := congrArg Int32.toInt (f56.at 387 41 (by decide))
        exact r_zret hx hb hr hK hP hS hk (by omega) dX12_operand_61 (show P_X12_operand σ0 τ0 r56 σ56 τ0 from ⟨hR, hF, hFL, by omega, by first | exact Or.inl (by omega) | exact Or.inr gPV, by omega, by omega⟩)
  · clear hp1_0
    refine lv_iload_n hx hb dX12_operand_24 rfl (lv_at hl 1 rfl) ?_
    refine r_if_ne (tgt := 38) hx hb dX12_operand_25 (by decide) (fun c62 => ?_) (fun c62 => ?_)
    · replace hp3_0 := hp3_0.resolve_left (by omega)
      refine lv_aload_n hx hb dX12_operand_38 rfl (lv_at hl 3 rfl) ?_
      refine fg_12_39 (k := 387) hx hb hts in_X12_operand_12 hown hK hP (by decide) (by decide) (hts _ lk_X12_operand_446) dX12_operand_39 ?_
      refine r_bipush hx hb dX12_operand_42 (by decide) (fun z63 ez63 => ?_)
      refine r_icmp_eq (tgt := 56) hx hb dX12_operand_44 (by decide) (fun c64 => ?_) (fun c64 => ?_)
      · refine lv_aload_n hx hb dX12_operand_56 rfl (lv_at hl 3 rfl) ?_
        refine r_iconst hx hb dX12_operand_57 (by decide) (fun z65 ez65 => ?_)
        refine r_cVi (k := 387) (As := [.int z65]) (rest := []) ⟨hx, hb, hml, hown, hts⟩ hK hP hN hS (c_X12_bad l D cA ad hI σ0 τ0 hR z65 (by omega)) (cwV 1 hts gX12_operand_X12_bad rfl rfl rfl (by decide +kernel) ⟨by decide, by decide⟩) (rv_M hK hP (by decide) (by decide)) rfl hl.1 rfl (Nat.le_of_ble_eq_true rfl) dX12_operand_58 (Nat.zero_le _) (Nat.zero_le _) (fun r66 u66 H66 locs66 hp66 hP hS => ?_)
        obtain ⟨σ66, τ66⟩ := u66
        obtain ⟨hR, f66, fL66, hq66⟩ : P_X12_bad σ0 τ0 z65 r66 σ66 τ66 := hp66
        have hP : va_P D vwCl (gw cA ad σ66 τ66) H66 := hP
        obtain rfl := FrL.nil fL66
        have hF := hF.step f66 (by decide)
        have gPV := PV.fr gPV hR f66 (by decide)
        have gPW := PW.fr gPW hR f66 (by decide)
        have t67 : (σ66 387 38).toInt = (σ0 387 38).toInt := congrArg Int32.toInt (f66.at 387 38 (by decide))
        have t68 : (σ66 387 39).toInt = (σ0 387 39).toInt := congrArg Int32.toInt (f66.at 387 39 (by decide))
        have t69 : (σ66 387 40).toInt = (σ0 387 40).toInt := congrArg Int32.toInt (f66.at 387 40 (by decide))
        have t70 : (σ66 387 42).toInt = (σ0 387 42).toInt := congrArg Int32.toInt (f66.at 387 42 (by decide))
        exact r_zret hx hb hr hK hP hS hk (by omega) dX12_operand_61 (show P_X12_operand σ0 τ0 r66 σ66 τ0 from ⟨hR, hF, hFL, by omega, by first | exact Or.inl (by omega) | exact Or.inr gPV, by omega, by omega⟩)
      · refine lv_aload_n hx hb dX12_operand_47 rfl (lv_at hl 3 rfl) ?_
        refine fg_12_41 (k := 387) hx hb hts in_X12_operand_12 hown hK hP (by decide) (by decide) (hts _ lk_X12_operand_440) dX12_operand_48 ?_
        refine r_bipush hx hb dX12_operand_51 (by decide) (fun z71 ez71 => ?_)
        refine r_icmp_le (tgt := 62) hx hb dX12_operand_53 (by decide) (fun c72 => ?_) (fun c72 => ?_)
        · refine lv_aload_n hx hb dX12_operand_62 rfl (lv_at hl 3 rfl) ?_
          refine lv_dup hx hb dX12_operand_63 rfl ?_
          refine fg_12_39 (k := 387) hx hb hts in_X12_operand_12 hown hK hP (by decide) (by decide) (hts _ lk_X12_operand_446) dX12_operand_64 ?_
          refine r_iconst hx hb dX12_operand_67 (by decide) (fun z73 ez73 => ?_)
          refine r_iadd hx hb dX12_operand_68 (by omega) (fun z74 ez74 => ?_)
          refine fp_12_39 (k := 387) hx hb hts in_X12_operand_12 hown hK hP (by decide) (by decide) (hts _ lk_X12_operand_446) hI hR hS (by omega) dX12_operand_69 (fun σ75 H75 locs75 u75 v75 hR hP hS => ?_)
          have hF := hF.puts u75 4 rfl (by decide) (by decide) (by decide) (by decide)
          have gPV := PV.put gPV hR u75 (by decide)
          have gPW := PW.put gPW hR u75 (by decide)
          have t76 : (σ75 387 38).toInt = (σ0 387 38).toInt := congrArg Int32.toInt (u75 387 38 (by omega))
          have t77 : (σ75 387 40).toInt = (σ0 387 40).toInt := congrArg Int32.toInt (u75 387 40 (by omega))
          have t78 : (σ75 387 42).toInt = (σ0 387 42).toInt := congrArg Int32.toInt (u75 387 42 (by omega))
          have t79 : (σ75 387 41).toInt = (σ0 387 41).toInt := congrArg Int32.toInt (u75 387 41 (by omega))
          refine lv_aload_n hx hb dX12_operand_72 rfl (lv_at hl 3 rfl) ?_
          refine r_cVv (k := 387) (As := []) (rest := []) ⟨hx, hb, hml, hown, hts⟩ hK hP hN hS (c_X12_next l D cA ad hI σ75 τ0 hR) (cwV 0 hts gX12_operand_X12_next rfl rfl rfl (by decide +kernel) ⟨by decide, by decide⟩) (rv_M hK hP (by decide) (by decide)) rfl hl.1 rfl (Nat.le_of_ble_eq_true rfl) dX12_operand_73 (Nat.zero_le _) (Nat.zero_le _) (fun u80 H80 locs80 hp80 hP hS => ?_)
          obtain ⟨σ80, τ80⟩ := u80
          obtain ⟨hR, f80, fL80, hp80_0, hp80_1, hp80_2⟩ : P_X12_next σ75 τ0 σ80 τ80 := hp80
          have hP : va_P D vwCl (gw cA ad σ80 τ80) H80 := hP
          have hFL := hFL.step fL80 (by decide)
          have hF := hF.step f80 (by decide)
          have gPV := PV.fr gPV hR f80 (by decide)
          have gPW := PW.fr gPW hR f80 (by decide)
          have t81 : (σ80 387 38).toInt = (σ75 387 38).toInt := congrArg Int32.toInt (f80.at 387 38 (by decide))
          have t82 : (σ80 387 40).toInt = (σ75 387 40).toInt := congrArg Int32.toInt (f80.at 387 40 (by decide))
          have t83 : (σ80 387 42).toInt = (σ75 387 42).toInt := congrArg Int32.toInt (f80.at 387 42 (by decide))
          have t84 : (σ80 387 41).toInt = (σ75 387 41).toInt := congrArg Int32.toInt (f80.at 387 41 (by decide))
          have t85 : (σ80 387 39).toInt = (σ75 387 39).toInt := congrArg Int32.toInt (f80.at 387 39 (by decide))
          refine lv_iload_n hx hb dX12_operand_76 rfl (lv_at hl 2 rfl) ?_
          refine r_if_ne (tgt := 84) hx hb dX12_operand_77 (by decide) (fun c86 => ?_) (fun c86 => ?_)
          · exfalso; omega
          · refine lv_iload_n hx hb dX12_operand_80 rfl (lv_at hl 1 rfl) ?_
            refine r_if_eq (tgt := 126) hx hb dX12_operand_81 (by decide) (fun c87 => ?_) (fun c87 => ?_)
            · exfalso; omega
            · refine lv_aload_n hx hb dX12_operand_84 rfl (lv_at hl 3 rfl) ?_
              refine fg_12_37 (k := 387) hx hb hts in_X12_operand_12 hown hK hP (by decide) (by decide) (hts _ lk_X12_operand_71) dX12_operand_85 ?_
              refine lv_aload_n hx hb dX12_operand_88 rfl (lv_at hl 3 rfl) ?_
              refine fg_12_40 (k := 387) hx hb hts in_X12_operand_12 hown hK hP (by decide) (by decide) (hts _ lk_X12_operand_434) dX12_operand_89 ?_
              refine lv_iload_n hx hb dX12_operand_92 rfl (lv_at hl 2 rfl) ?_
              refine r_if_eq (tgt := 101) hx hb dX12_operand_93 (by decide) (fun c88 => ?_) (fun c88 => ?_)
              · refine r_bipush hx hb dX12_operand_101 (by decide) (fun z89 ez89 => ?_)
                obtain ⟨j90, ej90⟩ : ∃ j : Nat, (σ80 387 40).toInt = (j : Int) := ⟨_, ti_nat (by omega)⟩
                refine as_mstack (k := 401) (j := j90) hx hb hK hP hI hR hS (by decide) (by decide) ej90 (by omega) dX12_operand_103 (fun σ91 H91 locs91 u91 v91 hR hP hS => ?_)
                have ua := u91
                have va := v91
                have hF := hF.puts u91 2 rfl (by decide) (by decide) (by omega) (by omega)
                have t92 : (σ91 387 38).toInt = (σ80 387 38).toInt := congrArg Int32.toInt (u91 387 38 (by omega))
                have t93 : (σ91 387 40).toInt = (σ80 387 40).toInt := congrArg Int32.toInt (u91 387 40 (by omega))
                have t94 : (σ91 387 42).toInt = (σ80 387 42).toInt := congrArg Int32.toInt (u91 387 42 (by omega))
                have t95 : (σ91 387 41).toInt = (σ80 387 41).toInt := congrArg Int32.toInt (u91 387 41 (by omega))
                have t96 : (σ91 387 39).toInt = (σ80 387 39).toInt := congrArg Int32.toInt (u91 387 39 (by omega))
                refine lv_aload_n hx hb dX12_operand_104 rfl (lv_at hl 3 rfl) ?_
                refine lv_dup hx hb dX12_operand_105 rfl ?_
                refine fg_12_40 (k := 387) hx hb hts in_X12_operand_12 hown hK hP (by decide) (by decide) (hts _ lk_X12_operand_434) dX12_operand_106 ?_
                refine r_iconst hx hb dX12_operand_109 (by decide) (fun z97 ez97 => ?_)
                refine r_iadd hx hb dX12_operand_110 (by omega) (fun z98 ez98 => ?_)
                refine fp_12_40 (k := 387) hx hb hts in_X12_operand_12 hown hK hP (by decide) (by decide) (hts _ lk_X12_operand_434) hI hR hS (by omega) dX12_operand_111 (fun σ99 H99 locs99 u99 v99 hR hP hS => ?_)
                have ub := u99
                have vb := v99
                have hF := hF.puts u99 4 rfl (by decide) (by decide) (by decide) (by decide)
                have t100 : (σ99 387 38).toInt = (σ91 387 38).toInt := congrArg Int32.toInt (u99 387 38 (by omega))
                have t101 : (σ99 387 42).toInt = (σ91 387 42).toInt := congrArg Int32.toInt (u99 387 42 (by omega))
                have t102 : (σ99 387 41).toInt = (σ91 387 41).toInt := congrArg Int32.toInt (u99 387 41 (by omega))
                have t103 : (σ99 387 39).toInt = (σ91 387 39).toInt := congrArg Int32.toInt (u99 387 39 (by omega))
                have gPV := PV.push gPV ua va (by omega) (by omega) ub (by omega)
                refine lv_aload_n hx hb dX12_operand_114 rfl (lv_at hl 3 rfl) ?_
                refine lv_dup hx hb dX12_operand_115 rfl ?_
                refine fg_12_41 (k := 387) hx hb hts in_X12_operand_12 hown hK hP (by decide) (by decide) (hts _ lk_X12_operand_440) dX12_operand_116 ?_
                refine r_iconst hx hb dX12_operand_119 (by decide) (fun z104 ez104 => ?_)
                have b106 := And.intro (ti_lo (σ99 387 41)) (ti_hi (σ99 387 41))
                refine r_iadd hx hb dX12_operand_120 (by omega) (fun z105 ez105 => ?_)
                refine fp_12_41 (k := 387) hx hb hts in_X12_operand_12 hown hK hP (by decide) (by decide) (hts _ lk_X12_operand_440) hI hR hS dX12_operand_121 (fun σ107 H107 locs107 u107 v107 hR hP hS => ?_)
                have hF := hF.puts u107 4 rfl (by decide) (by decide) (by decide) (by decide)
                have gPV := PV.put gPV hR u107 (by decide)
                have t108 : (σ107 387 38).toInt = (σ99 387 38).toInt := congrArg Int32.toInt (u107 387 38 (by omega))
                have t109 : (σ107 387 42).toInt = (σ99 387 42).toInt := congrArg Int32.toInt (u107 387 42 (by omega))
                have t110 : (σ107 387 39).toInt = (σ99 387 39).toInt := congrArg Int32.toInt (u107 387 39 (by omega))
                have t111 : (σ107 387 40).toInt = (σ99 387 40).toInt := congrArg Int32.toInt (u107 387 40 (by omega))
                refine r_iconst hx hb dX12_operand_124 (by decide) (fun z112 ez112 => ?_)
                exact r_zret hx hb hr hK hP hS hk (by omega) dX12_operand_125 (show P_X12_operand σ0 τ0 z112 σ107 τ80 from ⟨hR, hF, hFL, by omega, by first | exact Or.inl (by omega) | exact Or.inr gPV, by omega, by omega⟩)
              · exfalso; omega
        · refine lv_aload_n hx hb dX12_operand_56 rfl (lv_at hl 3 rfl) ?_
          refine r_iconst hx hb dX12_operand_57 (by decide) (fun z113 ez113 => ?_)
          refine r_cVi (k := 387) (As := [.int z113]) (rest := []) ⟨hx, hb, hml, hown, hts⟩ hK hP hN hS (c_X12_bad l D cA ad hI σ0 τ0 hR z113 (by omega)) (cwV 1 hts gX12_operand_X12_bad rfl rfl rfl (by decide +kernel) ⟨by decide, by decide⟩) (rv_M hK hP (by decide) (by decide)) rfl hl.1 rfl (Nat.le_of_ble_eq_true rfl) dX12_operand_58 (Nat.zero_le _) (Nat.zero_le _) (fun r114 u114 H114 locs114 hp114 hP hS => ?_)
          obtain ⟨σ114, τ114⟩ := u114
          obtain ⟨hR, f114, fL114, hq114⟩ : P_X12_bad σ0 τ0 z113 r114 σ114 τ114 := hp114
          have hP : va_P D vwCl (gw cA ad σ114 τ114) H114 := hP
          obtain rfl := FrL.nil fL114
          have hF := hF.step f114 (by decide)
          have gPV := PV.fr gPV hR f114 (by decide)
          have gPW := PW.fr gPW hR f114 (by decide)
          have t115 : (σ114 387 38).toInt = (σ0 387 38).toInt := congrArg Int32.toInt (f114.at 387 38 (by decide))
          have t116 : (σ114 387 39).toInt = (σ0 387 39).toInt := congrArg Int32.toInt (f114.at 387 39 (by decide))
          have t117 : (σ114 387 40).toInt = (σ0 387 40).toInt := congrArg Int32.toInt (f114.at 387 40 (by decide))
          have t118 : (σ114 387 42).toInt = (σ0 387 42).toInt := congrArg Int32.toInt (f114.at 387 42 (by decide))
          have t119 : (σ114 387 41).toInt = (σ0 387 41).toInt := congrArg Int32.toInt (f114.at 387 41 (by decide))
          exact r_zret hx hb hr hK hP hS hk (by omega) dX12_operand_61 (show P_X12_operand σ0 τ0 r114 σ114 τ0 from ⟨hR, hF, hFL, by omega, by first | exact Or.inl (by omega) | exact Or.inr gPV, by omega, by omega⟩)
    · clear hp3_0
      refine lv_iload_n hx hb dX12_operand_28 rfl (lv_at hl 0 rfl) ?_
      refine r_if_ge (tgt := 38) hx hb dX12_operand_29 (by decide) (fun c120 => ?_) (fun c120 => ?_)
      · refine lv_aload_n hx hb dX12_operand_38 rfl (lv_at hl 3 rfl) ?_
        refine fg_12_39 (k := 387) hx hb hts in_X12_operand_12 hown hK hP (by decide) (by decide) (hts _ lk_X12_operand_446) dX12_operand_39 ?_
        refine r_bipush hx hb dX12_operand_42 (by decide) (fun z121 ez121 => ?_)
        refine r_icmp_eq (tgt := 56) hx hb dX12_operand_44 (by decide) (fun c122 => ?_) (fun c122 => ?_)
        · refine lv_aload_n hx hb dX12_operand_56 rfl (lv_at hl 3 rfl) ?_
          refine r_iconst hx hb dX12_operand_57 (by decide) (fun z123 ez123 => ?_)
          refine r_cVi (k := 387) (As := [.int z123]) (rest := []) ⟨hx, hb, hml, hown, hts⟩ hK hP hN hS (c_X12_bad l D cA ad hI σ0 τ0 hR z123 (by omega)) (cwV 1 hts gX12_operand_X12_bad rfl rfl rfl (by decide +kernel) ⟨by decide, by decide⟩) (rv_M hK hP (by decide) (by decide)) rfl hl.1 rfl (Nat.le_of_ble_eq_true rfl) dX12_operand_58 (Nat.zero_le _) (Nat.zero_le _) (fun r124 u124 H124 locs124 hp124 hP hS => ?_)
          obtain ⟨σ124, τ124⟩ := u124
          obtain ⟨hR, f124, fL124, hq124⟩ : P_X12_bad σ0 τ0 z123 r124 σ124 τ124 := hp124
          have hP : va_P D vwCl (gw cA ad σ124 τ124) H124 := hP
          obtain rfl := FrL.nil fL124
          have hF := hF.step f124 (by decide)
          have gPV := PV.fr gPV hR f124 (by decide)
          have gPW := PW.fr gPW hR f124 (by decide)
          have t125 : (σ124 387 38).toInt = (σ0 387 38).toInt := congrArg Int32.toInt (f124.at 387 38 (by decide))
          have t126 : (σ124 387 39).toInt = (σ0 387 39).toInt := congrArg Int32.toInt (f124.at 387 39 (by decide))
          have t127 : (σ124 387 40).toInt = (σ0 387 40).toInt := congrArg Int32.toInt (f124.at 387 40 (by decide))
          have t128 : (σ124 387 42).toInt = (σ0 387 42).toInt := congrArg Int32.toInt (f124.at 387 42 (by decide))
          exact r_zret hx hb hr hK hP hS hk (by omega) dX12_operand_61 (show P_X12_operand σ0 τ0 r124 σ124 τ0 from ⟨hR, hF, hFL, by omega, by first | exact Or.inl (by omega) | exact Or.inr gPV, by omega, by omega⟩)
        · refine lv_aload_n hx hb dX12_operand_47 rfl (lv_at hl 3 rfl) ?_
          refine fg_12_41 (k := 387) hx hb hts in_X12_operand_12 hown hK hP (by decide) (by decide) (hts _ lk_X12_operand_440) dX12_operand_48 ?_
          refine r_bipush hx hb dX12_operand_51 (by decide) (fun z129 ez129 => ?_)
          refine r_icmp_le (tgt := 62) hx hb dX12_operand_53 (by decide) (fun c130 => ?_) (fun c130 => ?_)
          · refine lv_aload_n hx hb dX12_operand_62 rfl (lv_at hl 3 rfl) ?_
            refine lv_dup hx hb dX12_operand_63 rfl ?_
            refine fg_12_39 (k := 387) hx hb hts in_X12_operand_12 hown hK hP (by decide) (by decide) (hts _ lk_X12_operand_446) dX12_operand_64 ?_
            refine r_iconst hx hb dX12_operand_67 (by decide) (fun z131 ez131 => ?_)
            refine r_iadd hx hb dX12_operand_68 (by omega) (fun z132 ez132 => ?_)
            refine fp_12_39 (k := 387) hx hb hts in_X12_operand_12 hown hK hP (by decide) (by decide) (hts _ lk_X12_operand_446) hI hR hS (by omega) dX12_operand_69 (fun σ133 H133 locs133 u133 v133 hR hP hS => ?_)
            have hF := hF.puts u133 4 rfl (by decide) (by decide) (by decide) (by decide)
            have gPV := PV.put gPV hR u133 (by decide)
            have gPW := PW.put gPW hR u133 (by decide)
            have t134 : (σ133 387 38).toInt = (σ0 387 38).toInt := congrArg Int32.toInt (u133 387 38 (by omega))
            have t135 : (σ133 387 40).toInt = (σ0 387 40).toInt := congrArg Int32.toInt (u133 387 40 (by omega))
            have t136 : (σ133 387 42).toInt = (σ0 387 42).toInt := congrArg Int32.toInt (u133 387 42 (by omega))
            have t137 : (σ133 387 41).toInt = (σ0 387 41).toInt := congrArg Int32.toInt (u133 387 41 (by omega))
            refine lv_aload_n hx hb dX12_operand_72 rfl (lv_at hl 3 rfl) ?_
            refine r_cVv (k := 387) (As := []) (rest := []) ⟨hx, hb, hml, hown, hts⟩ hK hP hN hS (c_X12_next l D cA ad hI σ133 τ0 hR) (cwV 0 hts gX12_operand_X12_next rfl rfl rfl (by decide +kernel) ⟨by decide, by decide⟩) (rv_M hK hP (by decide) (by decide)) rfl hl.1 rfl (Nat.le_of_ble_eq_true rfl) dX12_operand_73 (Nat.zero_le _) (Nat.zero_le _) (fun u138 H138 locs138 hp138 hP hS => ?_)
            obtain ⟨σ138, τ138⟩ := u138
            obtain ⟨hR, f138, fL138, hp138_0, hp138_1, hp138_2⟩ : P_X12_next σ133 τ0 σ138 τ138 := hp138
            have hP : va_P D vwCl (gw cA ad σ138 τ138) H138 := hP
            have hFL := hFL.step fL138 (by decide)
            have hF := hF.step f138 (by decide)
            have gPV := PV.fr gPV hR f138 (by decide)
            have gPW := PW.fr gPW hR f138 (by decide)
            have t139 : (σ138 387 38).toInt = (σ133 387 38).toInt := congrArg Int32.toInt (f138.at 387 38 (by decide))
            have t140 : (σ138 387 40).toInt = (σ133 387 40).toInt := congrArg Int32.toInt (f138.at 387 40 (by decide))
            have t141 : (σ138 387 42).toInt = (σ133 387 42).toInt := congrArg Int32.toInt (f138.at 387 42 (by decide))
            have t142 : (σ138 387 41).toInt = (σ133 387 41).toInt := congrArg Int32.toInt (f138.at 387 41 (by decide))
            have t143 : (σ138 387 39).toInt = (σ133 387 39).toInt := congrArg Int32.toInt (f138.at 387 39 (by decide))
            refine lv_iload_n hx hb dX12_operand_76 rfl (lv_at hl 2 rfl) ?_
            refine r_if_ne (tgt := 84) hx hb dX12_operand_77 (by decide) (fun c144 => ?_) (fun c144 => ?_)
            · exfalso; omega
            · refine lv_iload_n hx hb dX12_operand_80 rfl (lv_at hl 1 rfl) ?_
              refine r_if_eq (tgt := 126) hx hb dX12_operand_81 (by decide) (fun c145 => ?_) (fun c145 => ?_)
              · refine lv_aload_n hx hb dX12_operand_126 rfl (lv_at hl 3 rfl) ?_
                refine r_iconst hx hb dX12_operand_127 (by decide) (fun z146 ez146 => ?_)
                refine fp_12_42 (k := 387) hx hb hts in_X12_operand_12 hown hK hP (by decide) (by decide) (hts _ lk_X12_operand_449) hI hR hS (by omega) dX12_operand_128 (fun σ147 H147 locs147 u147 v147 hR hP hS => ?_)
                have uw := u147
                have vw := v147
                have hF := hF.puts u147 4 rfl (by decide) (by decide) (by decide) (by decide)
                have gPW := PW.put gPW hR u147 (by decide)
                have t148 : (σ147 387 38).toInt = (σ138 387 38).toInt := congrArg Int32.toInt (u147 387 38 (by omega))
                have t149 : (σ147 387 40).toInt = (σ138 387 40).toInt := congrArg Int32.toInt (u147 387 40 (by omega))
                have t150 : (σ147 387 41).toInt = (σ138 387 41).toInt := congrArg Int32.toInt (u147 387 41 (by omega))
                have t151 : (σ147 387 39).toInt = (σ138 387 39).toInt := congrArg Int32.toInt (u147 387 39 (by omega))
                refine lv_iload_n hx hb dX12_operand_131 rfl (lv_at hl 0 rfl) ?_
                refine r_iconst hx hb dX12_operand_132 (by decide) (fun z152 ez152 => ?_)
                refine r_icmp_ge (tgt := 145) hx hb dX12_operand_133 (by decide) (fun c153 => ?_) (fun c153 => ?_)
                · refine lv_iload_n hx hb dX12_operand_145 rfl (lv_at hl 0 rfl) ?_
                  refine r_iconst hx hb dX12_operand_146 (by decide) (fun z154 ez154 => ?_)
                  refine r_icmp_ne (tgt := 182) hx hb dX12_operand_147 (by decide) (fun c155 => ?_) (fun c155 => ?_)
                  · refine lv_aload_n hx hb dX12_operand_182 rfl (lv_at hl 3 rfl) ?_
                    refine fg_12_11 (k := 387) hx hb hts in_X12_operand_12 hown hK hP (by decide) (by decide) (hts _ lk_X12_operand_159) dX12_operand_183 ?_
                    refine r_iconst hx hb dX12_operand_186 (by decide) (fun z156 ez156 => ?_)
                    refine r_icmp_ne (tgt := 208) hx hb dX12_operand_187 (by decide) (fun c157 => ?_) (fun c157 => ?_)
                    · refine lv_aload_n hx hb dX12_operand_208 rfl (lv_at hl 3 rfl) ?_
                      refine r_iconst hx hb dX12_operand_209 (by decide) (fun z158 ez158 => ?_)
                      refine r_cVi (k := 387) (As := [.int z158]) (rest := []) ⟨hx, hb, hml, hown, hts⟩ hK hP hN hS (c_X12_bad l D cA ad hI σ147 τ138 hR z158 (by omega)) (cwV 1 hts gX12_operand_X12_bad rfl rfl rfl (by decide +kernel) ⟨by decide, by decide⟩) (rv_M hK hP (by decide) (by decide)) rfl hl.1 rfl (Nat.le_of_ble_eq_true rfl) dX12_operand_210 (Nat.zero_le _) (Nat.zero_le _) (fun r159 u159 H159 locs159 hp159 hP hS => ?_)
                      obtain ⟨σ159, τ159⟩ := u159
                      obtain ⟨hR, f159, fL159, hq159⟩ : P_X12_bad σ147 τ138 z158 r159 σ159 τ159 := hp159
                      have hP : va_P D vwCl (gw cA ad σ159 τ159) H159 := hP
                      obtain rfl := FrL.nil fL159
                      have hF := hF.step f159 (by decide)
                      have gPW := PW.fr gPW hR f159 (by decide)
                      have t160 : (σ159 387 38).toInt = (σ147 387 38).toInt := congrArg Int32.toInt (f159.at 387 38 (by decide))
                      have t161 : (σ159 387 40).toInt = (σ147 387 40).toInt := congrArg Int32.toInt (f159.at 387 40 (by decide))
                      have t162 : (σ159 387 41).toInt = (σ147 387 41).toInt := congrArg Int32.toInt (f159.at 387 41 (by decide))
                      have t163 : (σ159 387 39).toInt = (σ147 387 39).toInt := congrArg Int32.toInt (f159.at 387 39 (by decide))
                      have t164 : (σ159 387 42).toInt = (σ147 387 42).toInt := congrArg Int32.toInt (f159.at 387 42 (by decide))
                      have t165 : (σ159 387 11).toInt = (σ147 387 11).toInt := congrArg Int32.toInt (f159.at 387 11 (by decide))
                      exact r_zret hx hb hr hK hP hS hk (by omega) dX12_operand_213 (show P_X12_operand σ0 τ0 r159 σ159 τ138 from ⟨hR, hF, hFL, by omega, by first | exact Or.inl (by omega) | exact Or.inr gPV, by omega, by omega⟩)
                    · refine lv_aload_n hx hb dX12_operand_190 rfl (lv_at hl 3 rfl) ?_
                      refine fg_12_14 (k := 387) hx hb hts in_X12_operand_12 hown hK hP (by decide) (by decide) (hts _ lk_X12_operand_169) dX12_operand_191 ?_
                      refine r_bipush hx hb dX12_operand_194 (by decide) (fun z166 ez166 => ?_)
                      refine r_icmp_lt (tgt := 208) hx hb dX12_operand_196 (by decide) (fun c167 => ?_) (fun c167 => ?_)
                      · refine lv_aload_n hx hb dX12_operand_208 rfl (lv_at hl 3 rfl) ?_
                        refine r_iconst hx hb dX12_operand_209 (by decide) (fun z168 ez168 => ?_)
                        refine r_cVi (k := 387) (As := [.int z168]) (rest := []) ⟨hx, hb, hml, hown, hts⟩ hK hP hN hS (c_X12_bad l D cA ad hI σ147 τ138 hR z168 (by omega)) (cwV 1 hts gX12_operand_X12_bad rfl rfl rfl (by decide +kernel) ⟨by decide, by decide⟩) (rv_M hK hP (by decide) (by decide)) rfl hl.1 rfl (Nat.le_of_ble_eq_true rfl) dX12_operand_210 (Nat.zero_le _) (Nat.zero_le _) (fun r169 u169 H169 locs169 hp169 hP hS => ?_)
                        obtain ⟨σ169, τ169⟩ := u169
                        obtain ⟨hR, f169, fL169, hq169⟩ : P_X12_bad σ147 τ138 z168 r169 σ169 τ169 := hp169
                        have hP : va_P D vwCl (gw cA ad σ169 τ169) H169 := hP
                        obtain rfl := FrL.nil fL169
                        have hF := hF.step f169 (by decide)
                        have gPW := PW.fr gPW hR f169 (by decide)
                        have t170 : (σ169 387 38).toInt = (σ147 387 38).toInt := congrArg Int32.toInt (f169.at 387 38 (by decide))
                        have t171 : (σ169 387 40).toInt = (σ147 387 40).toInt := congrArg Int32.toInt (f169.at 387 40 (by decide))
                        have t172 : (σ169 387 41).toInt = (σ147 387 41).toInt := congrArg Int32.toInt (f169.at 387 41 (by decide))
                        have t173 : (σ169 387 39).toInt = (σ147 387 39).toInt := congrArg Int32.toInt (f169.at 387 39 (by decide))
                        have t174 : (σ169 387 42).toInt = (σ147 387 42).toInt := congrArg Int32.toInt (f169.at 387 42 (by decide))
                        have t175 : (σ169 387 11).toInt = (σ147 387 11).toInt := congrArg Int32.toInt (f169.at 387 11 (by decide))
                        have t176 : (σ169 387 14).toInt = (σ147 387 14).toInt := congrArg Int32.toInt (f169.at 387 14 (by decide))
                        exact r_zret hx hb hr hK hP hS hk (by omega) dX12_operand_213 (show P_X12_operand σ0 τ0 r169 σ169 τ138 from ⟨hR, hF, hFL, by omega, by first | exact Or.inl (by omega) | exact Or.inr gPV, by omega, by omega⟩)
                      · refine lv_aload_n hx hb dX12_operand_199 rfl (lv_at hl 3 rfl) ?_
                        refine fg_12_14 (k := 387) hx hb hts in_X12_operand_12 hown hK hP (by decide) (by decide) (hts _ lk_X12_operand_169) dX12_operand_200 ?_
                        refine r_bipush hx hb dX12_operand_203 (by decide) (fun z177 ez177 => ?_)
                        refine r_icmp_le (tgt := 214) hx hb dX12_operand_205 (by decide) (fun c178 => ?_) (fun c178 => ?_)
                        · refine lv_aload_n hx hb dX12_operand_214 rfl (lv_at hl 3 rfl) ?_
                          refine fg_12_14 (k := 387) hx hb hts in_X12_operand_12 hown hK hP (by decide) (by decide) (hts _ lk_X12_operand_169) dX12_operand_215 ?_
                          refine lv_istore (lv' := [(4, .int (σ147 387 14)), (3, .int r4), (2, .int r3), (1, .int r1), (0, .ref (ad 387))]) hx hb dX12_operand_218 hl (by decide) rfl (fun ls hl => ?_)
                          refine lv_aload_n hx hb dX12_operand_220 rfl (lv_at hl 4 rfl) ?_
                          refine r_cVv (k := 387) (As := []) (rest := []) ⟨hx, hb, hml, hown, hts⟩ hK hP hN hS (c_X12_next l D cA ad hI σ147 τ138 hR) (cwV 0 hts gX12_operand_X12_next rfl rfl rfl (by decide +kernel) ⟨by decide, by decide⟩) (rv_M hK hP (by decide) (by decide)) rfl hl.1 rfl (Nat.le_of_ble_eq_true rfl) dX12_operand_221 (Nat.zero_le _) (Nat.zero_le _) (fun u179 H179 locs179 hp179 hP hS => ?_)
                          obtain ⟨σ179, τ179⟩ := u179
                          obtain ⟨hR, f179, fL179, hp179_0, hp179_1, hp179_2⟩ : P_X12_next σ147 τ138 σ179 τ179 := hp179
                          have hP : va_P D vwCl (gw cA ad σ179 τ179) H179 := hP
                          clear hp138_1
                          have hFL := hFL.step fL179 (by decide)
                          have hF := hF.step f179 (by decide)
                          have gPW := PW.fr gPW hR f179 (by decide)
                          have t180 : (σ179 387 38).toInt = (σ147 387 38).toInt := congrArg Int32.toInt (f179.at 387 38 (by decide))
                          have t181 : (σ179 387 40).toInt = (σ147 387 40).toInt := congrArg Int32.toInt (f179.at 387 40 (by decide))
                          have t182 : (σ179 387 41).toInt = (σ147 387 41).toInt := congrArg Int32.toInt (f179.at 387 41 (by decide))
                          have t183 : (σ179 387 39).toInt = (σ147 387 39).toInt := congrArg Int32.toInt (f179.at 387 39 (by decide))
                          have t184 : (σ179 387 42).toInt = (σ147 387 42).toInt := congrArg Int32.toInt (f179.at 387 42 (by decide))
                          refine lv_aload_n hx hb dX12_operand_224 rfl (lv_at hl 4 rfl) ?_
                          refine fg_12_11 (k := 387) hx hb hts in_X12_operand_12 hown hK hP (by decide) (by decide) (hts _ lk_X12_operand_159) dX12_operand_225 ?_
                          refine r_iconst hx hb dX12_operand_228 (by decide) (fun z185 ez185 => ?_)
                          refine r_icmp_eq (tgt := 238) hx hb dX12_operand_229 (by decide) (fun c186 => ?_) (fun c186 => ?_)
                          · refine lv_aload_n hx hb dX12_operand_238 rfl (lv_at hl 4 rfl) ?_
                            refine lv_iload_n hx hb dX12_operand_239 rfl (lv_at hl 1 rfl) ?_
                            refine lv_iload hx hb dX12_operand_240 (lv_at hl 0 rfl) ?_
                            refine lv_aload_n hx hb dX12_operand_242 rfl (lv_at hl 4 rfl) ?_
                            refine fg_12_14 (k := 387) hx hb hts in_X12_operand_12 hown hK hP (by decide) (by decide) (hts _ lk_X12_operand_169) dX12_operand_243 ?_
                            refine r_cVv (k := 387) (As := [.int r4, .int (σ147 387 14), .int (σ179 387 14)]) (rest := []) ⟨hx, hb, hml, hown, hts⟩ hK hP hN hS (c_X12_code l D cA ad hI σ179 τ179 hR r4 (σ147 387 14) (σ179 387 14) (by omega) (by omega) (by omega)) (cwV 3 hts gX12_operand_X12_code rfl rfl rfl (by decide +kernel) ⟨by decide, by decide⟩) (rv_M hK hP (by decide) (by decide)) rfl hl.1 rfl (Nat.le_of_ble_eq_true rfl) dX12_operand_246 (Nat.zero_le _) (Nat.zero_le _) (fun u187 H187 locs187 hp187 hP hS => ?_)
                            obtain ⟨σ187, τ187⟩ := u187
                            obtain ⟨hR, f187, fL187, hp187_0⟩ : P_X12_code σ179 τ179 r4 (σ147 387 14) (σ179 387 14) σ187 τ187 := hp187
                            have cd := hp187_0
                            have fc := f187
                            have hP : va_P D vwCl (gw cA ad σ187 τ187) H187 := hP
                            obtain rfl := FrL.nil fL187
                            have hF := hF.step f187 (by decide)
                            have t188 : (σ187 387 40).toInt = (σ179 387 40).toInt := congrArg Int32.toInt (f187.at 387 40 (by decide))
                            have t189 : (σ187 387 41).toInt = (σ179 387 41).toInt := congrArg Int32.toInt (f187.at 387 41 (by decide))
                            have t190 : (σ187 387 39).toInt = (σ179 387 39).toInt := congrArg Int32.toInt (f187.at 387 39 (by decide))
                            have t191 : (σ187 387 42).toInt = (σ179 387 42).toInt := congrArg Int32.toInt (f187.at 387 42 (by decide))
                            have t192 : (σ187 387 11).toInt = (σ179 387 11).toInt := congrArg Int32.toInt (f187.at 387 11 (by decide))
                            have t193 : (σ187 387 14).toInt = (σ179 387 14).toInt := congrArg Int32.toInt (f187.at 387 14 (by decide))
                            have hr194 := rg_12_38 hR (k := 387) (by decide) (by decide)
                            have gPV := PW.leaf gPW (by omega) cd (by omega) fc (by decide) (by omega)
                            obtain ⟨cc0, hcc1, hcc2, _, _⟩ := id cd
                            refine lv_aload_n hx hb dX12_operand_249 rfl (lv_at hl 4 rfl) ?_
                            refine r_cVv (k := 387) (As := []) (rest := []) ⟨hx, hb, hml, hown, hts⟩ hK hP hN hS (c_X12_next l D cA ad hI σ187 τ179 hR) (cwV 0 hts gX12_operand_X12_next rfl rfl rfl (by decide +kernel) ⟨by decide, by decide⟩) (rv_M hK hP (by decide) (by decide)) rfl hl.1 rfl (Nat.le_of_ble_eq_true rfl) dX12_operand_250 (Nat.zero_le _) (Nat.zero_le _) (fun u195 H195 locs195 hp195 hP hS => ?_)
                            obtain ⟨σ195, τ195⟩ := u195
                            obtain ⟨hR, f195, fL195, hp195_0, hp195_1, hp195_2⟩ : P_X12_next σ187 τ179 σ195 τ195 := hp195
                            have hP : va_P D vwCl (gw cA ad σ195 τ195) H195 := hP
                            clear hp179_1
                            have hFL := hFL.step fL195 (by decide)
                            have hF := hF.step f195 (by decide)
                            have gPV := PV.fr gPV hR f195 (by decide)
                            have t196 : (σ195 387 40).toInt = (σ187 387 40).toInt := congrArg Int32.toInt (f195.at 387 40 (by decide))
                            have t197 : (σ195 387 41).toInt = (σ187 387 41).toInt := congrArg Int32.toInt (f195.at 387 41 (by decide))
                            have t198 : (σ195 387 39).toInt = (σ187 387 39).toInt := congrArg Int32.toInt (f195.at 387 39 (by decide))
                            have t199 : (σ195 387 42).toInt = (σ187 387 42).toInt := congrArg Int32.toInt (f195.at 387 42 (by decide))
                            have t200 : (σ195 387 38).toInt = (σ187 387 38).toInt := congrArg Int32.toInt (f195.at 387 38 (by decide))
                            refine r_iconst hx hb dX12_operand_253 (by decide) (fun z201 ez201 => ?_)
                            exact r_zret hx hb hr hK hP hS hk (by omega) dX12_operand_254 (show P_X12_operand σ0 τ0 z201 σ195 τ195 from ⟨hR, hF, hFL, by omega, by first | exact Or.inl (by omega) | exact Or.inr gPV, by omega, by omega⟩)
                          · refine lv_aload_n hx hb dX12_operand_232 rfl (lv_at hl 4 rfl) ?_
                            refine r_iconst hx hb dX12_operand_233 (by decide) (fun z202 ez202 => ?_)
                            refine r_cVi (k := 387) (As := [.int z202]) (rest := []) ⟨hx, hb, hml, hown, hts⟩ hK hP hN hS (c_X12_bad l D cA ad hI σ179 τ179 hR z202 (by omega)) (cwV 1 hts gX12_operand_X12_bad rfl rfl rfl (by decide +kernel) ⟨by decide, by decide⟩) (rv_M hK hP (by decide) (by decide)) rfl hl.1 rfl (Nat.le_of_ble_eq_true rfl) dX12_operand_234 (Nat.zero_le _) (Nat.zero_le _) (fun r203 u203 H203 locs203 hp203 hP hS => ?_)
                            obtain ⟨σ203, τ203⟩ := u203
                            obtain ⟨hR, f203, fL203, hq203⟩ : P_X12_bad σ179 τ179 z202 r203 σ203 τ203 := hp203
                            have hP : va_P D vwCl (gw cA ad σ203 τ203) H203 := hP
                            obtain rfl := FrL.nil fL203
                            have hF := hF.step f203 (by decide)
                            have gPW := PW.fr gPW hR f203 (by decide)
                            have t204 : (σ203 387 38).toInt = (σ179 387 38).toInt := congrArg Int32.toInt (f203.at 387 38 (by decide))
                            have t205 : (σ203 387 40).toInt = (σ179 387 40).toInt := congrArg Int32.toInt (f203.at 387 40 (by decide))
                            have t206 : (σ203 387 41).toInt = (σ179 387 41).toInt := congrArg Int32.toInt (f203.at 387 41 (by decide))
                            have t207 : (σ203 387 39).toInt = (σ179 387 39).toInt := congrArg Int32.toInt (f203.at 387 39 (by decide))
                            have t208 : (σ203 387 42).toInt = (σ179 387 42).toInt := congrArg Int32.toInt (f203.at 387 42 (by decide))
                            have t209 : (σ203 387 11).toInt = (σ179 387 11).toInt := congrArg Int32.toInt (f203.at 387 11 (by decide))
                            exact r_zret hx hb hr hK hP hS hk (by omega) dX12_operand_237 (show P_X12_operand σ0 τ0 r203 σ203 τ179 from ⟨hR, hF, hFL, by omega, by first | exact Or.inl (by omega) | exact Or.inr gPV, by omega, by omega⟩)
                        · refine lv_aload_n hx hb dX12_operand_208 rfl (lv_at hl 3 rfl) ?_
                          refine r_iconst hx hb dX12_operand_209 (by decide) (fun z210 ez210 => ?_)
                          refine r_cVi (k := 387) (As := [.int z210]) (rest := []) ⟨hx, hb, hml, hown, hts⟩ hK hP hN hS (c_X12_bad l D cA ad hI σ147 τ138 hR z210 (by omega)) (cwV 1 hts gX12_operand_X12_bad rfl rfl rfl (by decide +kernel) ⟨by decide, by decide⟩) (rv_M hK hP (by decide) (by decide)) rfl hl.1 rfl (Nat.le_of_ble_eq_true rfl) dX12_operand_210 (Nat.zero_le _) (Nat.zero_le _) (fun r211 u211 H211 locs211 hp211 hP hS => ?_)
                          obtain ⟨σ211, τ211⟩ := u211
                          obtain ⟨hR, f211, fL211, hq211⟩ : P_X12_bad σ147 τ138 z210 r211 σ211 τ211 := hp211
                          have hP : va_P D vwCl (gw cA ad σ211 τ211) H211 := hP
                          obtain rfl := FrL.nil fL211
                          have hF := hF.step f211 (by decide)
                          have gPW := PW.fr gPW hR f211 (by decide)
                          have t212 : (σ211 387 38).toInt = (σ147 387 38).toInt := congrArg Int32.toInt (f211.at 387 38 (by decide))
                          have t213 : (σ211 387 40).toInt = (σ147 387 40).toInt := congrArg Int32.toInt (f211.at 387 40 (by decide))
                          have t214 : (σ211 387 41).toInt = (σ147 387 41).toInt := congrArg Int32.toInt (f211.at 387 41 (by decide))
                          have t215 : (σ211 387 39).toInt = (σ147 387 39).toInt := congrArg Int32.toInt (f211.at 387 39 (by decide))
                          have t216 : (σ211 387 42).toInt = (σ147 387 42).toInt := congrArg Int32.toInt (f211.at 387 42 (by decide))
                          have t217 : (σ211 387 11).toInt = (σ147 387 11).toInt := congrArg Int32.toInt (f211.at 387 11 (by decide))
                          have t218 : (σ211 387 14).toInt = (σ147 387 14).toInt := congrArg Int32.toInt (f211.at 387 14 (by decide))
                          exact r_zret hx hb hr hK hP hS hk (by omega) dX12_operand_213 (show P_X12_operand σ0 τ0 r211 σ211 τ138 from ⟨hR, hF, hFL, by omega, by first | exact Or.inl (by omega) | exact Or.inr gPV, by omega, by omega⟩)
                  · refine lv_aload_n hx hb dX12_operand_150 rfl (lv_at hl 3 rfl) ?_
                    refine r_iconst hx hb dX12_operand_151 (by decide) (fun z219 ez219 => ?_)
                    refine lv_aload_n hx hb dX12_operand_152 rfl (lv_at hl 3 rfl) ?_
                    refine fg_12_6 (k := 387) hx hb hts in_X12_operand_12 hown hK hP (by decide) (by decide) (hts _ lk_X12_operand_33) dX12_operand_153 ?_
                    refine r_iconst hx hb dX12_operand_156 (by decide) (fun z220 ez220 => ?_)
                    refine ad_ms (k := 389) (j := 0) hx hb hK hP (by decide) (by decide) (by omega) (by omega) dX12_operand_157 ?_
                    have hr221 := ra_ms_0 hR (k := 389) (j := 0) (by decide) (by decide) (by decide) (by decide)
                    refine r_cVi (k := 387) (As := [.int z219, .int (σ147 389 0)]) (rest := []) ⟨hx, hb, hml, hown, hts⟩ hK hP hN hS (c_X12_looksAt l D cA ad hI σ147 τ138 hR z219 (σ147 389 0) (by omega) (by omega)) (cwV 2 hts gX12_operand_X12_looksAt rfl rfl rfl (by decide +kernel) ⟨by decide, by decide⟩) (rv_M hK hP (by decide) (by decide)) rfl hl.1 rfl (Nat.le_of_ble_eq_true rfl) dX12_operand_158 (Nat.zero_le _) (Nat.zero_le _) (fun r222 u222 H222 locs222 hp222 hP hS => ?_)
                    obtain ⟨σ222, τ222⟩ := u222
                    obtain ⟨hR, f222, fL222, hq222, hp222_0, hp222_1⟩ : P_X12_looksAt σ147 τ138 z219 (σ147 389 0) r222 σ222 τ222 := hp222
                    have hP : va_P D vwCl (gw cA ad σ222 τ222) H222 := hP
                    obtain rfl := FrL.nil fL222
                    have hF := hF.step f222 (by decide)
                    have gPW := PW.fr gPW hR f222 (by decide)
                    have t223 : (σ222 387 38).toInt = (σ147 387 38).toInt := congrArg Int32.toInt (f222.at 387 38 (by decide))
                    have t224 : (σ222 387 40).toInt = (σ147 387 40).toInt := congrArg Int32.toInt (f222.at 387 40 (by decide))
                    have t225 : (σ222 387 41).toInt = (σ147 387 41).toInt := congrArg Int32.toInt (f222.at 387 41 (by decide))
                    have t226 : (σ222 387 39).toInt = (σ147 387 39).toInt := congrArg Int32.toInt (f222.at 387 39 (by decide))
                    have t227 : (σ222 387 42).toInt = (σ147 387 42).toInt := congrArg Int32.toInt (f222.at 387 42 (by decide))
                    refine r_if_ne (tgt := 166) hx hb dX12_operand_161 (by decide) (fun c228 => ?_) (fun c228 => ?_)
                    · replace hp222_0 := hp222_0.resolve_left (by omega)
                      replace hp222_1 := hp222_1.resolve_left (by omega)
                      refine lv_aload_n hx hb dX12_operand_166 rfl (lv_at hl 3 rfl) ?_
                      refine lv_iload_n hx hb dX12_operand_167 rfl (lv_at hl 0 rfl) ?_
                      refine r_iconst hx hb dX12_operand_168 (by decide) (fun z229 ez229 => ?_)
                      refine lv_aload_n hx hb dX12_operand_169 rfl (lv_at hl 3 rfl) ?_
                      refine fg_12_18 (k := 387) hx hb hts in_X12_operand_12 hown hK hP (by decide) (by decide) (hts _ lk_X12_operand_195) dX12_operand_170 ?_
                      refine r_cVv (k := 387) (As := [.int r4, .int z229, .int (σ222 387 18)]) (rest := []) ⟨hx, hb, hml, hown, hts⟩ hK hP hN hS (c_X12_code l D cA ad hI σ222 τ138 hR r4 z229 (σ222 387 18) (by omega) (by omega) (by omega)) (cwV 3 hts gX12_operand_X12_code rfl rfl rfl (by decide +kernel) ⟨by decide, by decide⟩) (rv_M hK hP (by decide) (by decide)) rfl hl.1 rfl (Nat.le_of_ble_eq_true rfl) dX12_operand_173 (Nat.zero_le _) (Nat.zero_le _) (fun u230 H230 locs230 hp230 hP hS => ?_)
                      obtain ⟨σ230, τ230⟩ := u230
                      obtain ⟨hR, f230, fL230, hp230_0⟩ : P_X12_code σ222 τ138 r4 z229 (σ222 387 18) σ230 τ230 := hp230
                      have cd := hp230_0
                      have fc := f230
                      have hP : va_P D vwCl (gw cA ad σ230 τ230) H230 := hP
                      obtain rfl := FrL.nil fL230
                      have hF := hF.step f230 (by decide)
                      have t231 : (σ230 387 40).toInt = (σ222 387 40).toInt := congrArg Int32.toInt (f230.at 387 40 (by decide))
                      have t232 : (σ230 387 41).toInt = (σ222 387 41).toInt := congrArg Int32.toInt (f230.at 387 41 (by decide))
                      have t233 : (σ230 387 39).toInt = (σ222 387 39).toInt := congrArg Int32.toInt (f230.at 387 39 (by decide))
                      have t234 : (σ230 387 42).toInt = (σ222 387 42).toInt := congrArg Int32.toInt (f230.at 387 42 (by decide))
                      have t235 : (σ230 387 18).toInt = (σ222 387 18).toInt := congrArg Int32.toInt (f230.at 387 18 (by decide))
                      have hr236 := rg_12_38 hR (k := 387) (by decide) (by decide)
                      have gPV := PW.leaf gPW (by omega) cd (by omega) fc (by decide) (by omega)
                      obtain ⟨cc0, hcc1, hcc2, _, _⟩ := id cd
                      refine lv_aload_n hx hb dX12_operand_176 rfl (lv_at hl 3 rfl) ?_
                      refine r_cVv (k := 387) (As := []) (rest := []) ⟨hx, hb, hml, hown, hts⟩ hK hP hN hS (c_X12_next l D cA ad hI σ230 τ138 hR) (cwV 0 hts gX12_operand_X12_next rfl rfl rfl (by decide +kernel) ⟨by decide, by decide⟩) (rv_M hK hP (by decide) (by decide)) rfl hl.1 rfl (Nat.le_of_ble_eq_true rfl) dX12_operand_177 (Nat.zero_le _) (Nat.zero_le _) (fun u237 H237 locs237 hp237 hP hS => ?_)
                      obtain ⟨σ237, τ237⟩ := u237
                      obtain ⟨hR, f237, fL237, hp237_0, hp237_1, hp237_2⟩ : P_X12_next σ230 τ138 σ237 τ237 := hp237
                      have hP : va_P D vwCl (gw cA ad σ237 τ237) H237 := hP
                      clear hp138_1
                      have hFL := hFL.step fL237 (by decide)
                      have hF := hF.step f237 (by decide)
                      have gPV := PV.fr gPV hR f237 (by decide)
                      have t238 : (σ237 387 40).toInt = (σ230 387 40).toInt := congrArg Int32.toInt (f237.at 387 40 (by decide))
                      have t239 : (σ237 387 41).toInt = (σ230 387 41).toInt := congrArg Int32.toInt (f237.at 387 41 (by decide))
                      have t240 : (σ237 387 39).toInt = (σ230 387 39).toInt := congrArg Int32.toInt (f237.at 387 39 (by decide))
                      have t241 : (σ237 387 42).toInt = (σ230 387 42).toInt := congrArg Int32.toInt (f237.at 387 42 (by decide))
                      have t242 : (σ237 387 18).toInt = (σ230 387 18).toInt := congrArg Int32.toInt (f237.at 387 18 (by decide))
                      have t243 : (σ237 387 38).toInt = (σ230 387 38).toInt := congrArg Int32.toInt (f237.at 387 38 (by decide))
                      refine r_iconst hx hb dX12_operand_180 (by decide) (fun z244 ez244 => ?_)
                      exact r_zret hx hb hr hK hP hS hk (by omega) dX12_operand_181 (show P_X12_operand σ0 τ0 z244 σ237 τ237 from ⟨hR, hF, hFL, by omega, by first | exact Or.inl (by omega) | exact Or.inr gPV, by omega, by omega⟩)
                    · clear hp222_0 hp222_1
                      refine r_iconst hx hb dX12_operand_164 (by decide) (fun z245 ez245 => ?_)
                      exact r_zret hx hb hr hK hP hS hk (by omega) dX12_operand_165 (show P_X12_operand σ0 τ0 z245 σ222 τ138 from ⟨hR, hF, hFL, by omega, by first | exact Or.inl (by omega) | exact Or.inr gPV, by omega, by omega⟩)
                · refine lv_aload_n hx hb dX12_operand_136 rfl (lv_at hl 3 rfl) ?_
                  refine lv_iload_n hx hb dX12_operand_137 rfl (lv_at hl 0 rfl) ?_
                  refine r_iconst hx hb dX12_operand_138 (by decide) (fun z246 ez246 => ?_)
                  refine r_iconst hx hb dX12_operand_139 (by decide) (fun z247 ez247 => ?_)
                  refine r_cVv (k := 387) (As := [.int r4, .int z246, .int z247]) (rest := []) ⟨hx, hb, hml, hown, hts⟩ hK hP hN hS (c_X12_code l D cA ad hI σ147 τ138 hR r4 z246 z247 (by omega) (by omega) (by omega)) (cwV 3 hts gX12_operand_X12_code rfl rfl rfl (by decide +kernel) ⟨by decide, by decide⟩) (rv_M hK hP (by decide) (by decide)) rfl hl.1 rfl (Nat.le_of_ble_eq_true rfl) dX12_operand_140 (Nat.zero_le _) (Nat.zero_le _) (fun u248 H248 locs248 hp248 hP hS => ?_)
                  obtain ⟨σ248, τ248⟩ := u248
                  obtain ⟨hR, f248, fL248, hp248_0⟩ : P_X12_code σ147 τ138 r4 z246 z247 σ248 τ248 := hp248
                  have cd := hp248_0
                  have fc := f248
                  have hP : va_P D vwCl (gw cA ad σ248 τ248) H248 := hP
                  obtain rfl := FrL.nil fL248
                  have hF := hF.step f248 (by decide)
                  have t249 : (σ248 387 40).toInt = (σ147 387 40).toInt := congrArg Int32.toInt (f248.at 387 40 (by decide))
                  have t250 : (σ248 387 41).toInt = (σ147 387 41).toInt := congrArg Int32.toInt (f248.at 387 41 (by decide))
                  have t251 : (σ248 387 39).toInt = (σ147 387 39).toInt := congrArg Int32.toInt (f248.at 387 39 (by decide))
                  have t252 : (σ248 387 42).toInt = (σ147 387 42).toInt := congrArg Int32.toInt (f248.at 387 42 (by decide))
                  have hr253 := rg_12_38 hR (k := 387) (by decide) (by decide)
                  have gPV := PW.leaf gPW (by omega) cd (by omega) fc (by decide) (by omega)
                  obtain ⟨cc0, hcc1, hcc2, _, _⟩ := id cd
                  refine r_iconst hx hb dX12_operand_143 (by decide) (fun z254 ez254 => ?_)
                  exact r_zret hx hb hr hK hP hS hk (by omega) dX12_operand_144 (show P_X12_operand σ0 τ0 z254 σ248 τ138 from ⟨hR, hF, hFL, by omega, by first | exact Or.inl (by omega) | exact Or.inr gPV, by omega, by omega⟩)
              · exfalso; omega
          · refine lv_aload_n hx hb dX12_operand_56 rfl (lv_at hl 3 rfl) ?_
            refine r_iconst hx hb dX12_operand_57 (by decide) (fun z255 ez255 => ?_)
            refine r_cVi (k := 387) (As := [.int z255]) (rest := []) ⟨hx, hb, hml, hown, hts⟩ hK hP hN hS (c_X12_bad l D cA ad hI σ0 τ0 hR z255 (by omega)) (cwV 1 hts gX12_operand_X12_bad rfl rfl rfl (by decide +kernel) ⟨by decide, by decide⟩) (rv_M hK hP (by decide) (by decide)) rfl hl.1 rfl (Nat.le_of_ble_eq_true rfl) dX12_operand_58 (Nat.zero_le _) (Nat.zero_le _) (fun r256 u256 H256 locs256 hp256 hP hS => ?_)
            obtain ⟨σ256, τ256⟩ := u256
            obtain ⟨hR, f256, fL256, hq256⟩ : P_X12_bad σ0 τ0 z255 r256 σ256 τ256 := hp256
            have hP : va_P D vwCl (gw cA ad σ256 τ256) H256 := hP
            obtain rfl := FrL.nil fL256
            have hF := hF.step f256 (by decide)
            have gPV := PV.fr gPV hR f256 (by decide)
            have gPW := PW.fr gPW hR f256 (by decide)
            have t257 : (σ256 387 38).toInt = (σ0 387 38).toInt := congrArg Int32.toInt (f256.at 387 38 (by decide))
            have t258 : (σ256 387 39).toInt = (σ0 387 39).toInt := congrArg Int32.toInt (f256.at 387 39 (by decide))
            have t259 : (σ256 387 40).toInt = (σ0 387 40).toInt := congrArg Int32.toInt (f256.at 387 40 (by decide))
            have t260 : (σ256 387 42).toInt = (σ0 387 42).toInt := congrArg Int32.toInt (f256.at 387 42 (by decide))
            have t261 : (σ256 387 41).toInt = (σ0 387 41).toInt := congrArg Int32.toInt (f256.at 387 41 (by decide))
            exact r_zret hx hb hr hK hP hS hk (by omega) dX12_operand_61 (show P_X12_operand σ0 τ0 r256 σ256 τ0 from ⟨hR, hF, hFL, by omega, by first | exact Or.inl (by omega) | exact Or.inr gPV, by omega, by omega⟩)
      · refine lv_aload_n hx hb dX12_operand_32 rfl (lv_at hl 3 rfl) ?_
        refine r_iconst hx hb dX12_operand_33 (by decide) (fun z262 ez262 => ?_)
        refine r_cVi (k := 387) (As := [.int z262]) (rest := []) ⟨hx, hb, hml, hown, hts⟩ hK hP hN hS (c_X12_bad l D cA ad hI σ0 τ0 hR z262 (by omega)) (cwV 1 hts gX12_operand_X12_bad rfl rfl rfl (by decide +kernel) ⟨by decide, by decide⟩) (rv_M hK hP (by decide) (by decide)) rfl hl.1 rfl (Nat.le_of_ble_eq_true rfl) dX12_operand_34 (Nat.zero_le _) (Nat.zero_le _) (fun r263 u263 H263 locs263 hp263 hP hS => ?_)
        obtain ⟨σ263, τ263⟩ := u263
        obtain ⟨hR, f263, fL263, hq263⟩ : P_X12_bad σ0 τ0 z262 r263 σ263 τ263 := hp263
        have hP : va_P D vwCl (gw cA ad σ263 τ263) H263 := hP
        obtain rfl := FrL.nil fL263
        have hF := hF.step f263 (by decide)
        have gPV := PV.fr gPV hR f263 (by decide)
        have gPW := PW.fr gPW hR f263 (by decide)
        have t264 : (σ263 387 38).toInt = (σ0 387 38).toInt := congrArg Int32.toInt (f263.at 387 38 (by decide))
        have t265 : (σ263 387 39).toInt = (σ0 387 39).toInt := congrArg Int32.toInt (f263.at 387 39 (by decide))
        have t266 : (σ263 387 40).toInt = (σ0 387 40).toInt := congrArg Int32.toInt (f263.at 387 40 (by decide))
        have t267 : (σ263 387 42).toInt = (σ0 387 42).toInt := congrArg Int32.toInt (f263.at 387 42 (by decide))
        exact r_zret hx hb hr hK hP hS hk (by omega) dX12_operand_37 (show P_X12_operand σ0 τ0 r263 σ263 τ0 from ⟨hR, hF, hFL, by omega, by first | exact Or.inl (by omega) | exact Or.inr gPV, by omega, by omega⟩)
theorem in_X12_sentence_12 : ∀ w ∈ u_ws RX12 TX12 47, w ∈ wsX12_sentence := by decide +kernel
theorem lk_X12_sentence_1 : Cond.fieldLink RX12 1 "CuckooSharesModel" "thrown" "I" ∈ wsX12_sentence := by decide +kernel
theorem lk_X12_sentence_159 : Cond.fieldLink RX12 159 "CuckooSharesModel" "token" "I" ∈ wsX12_sentence := by decide +kernel
theorem lk_X12_sentence_176 : Cond.fieldLink RX12 176 "CuckooSharesModel" "fault" "I" ∈ wsX12_sentence := by decide +kernel
theorem lk_X12_sentence_179 : Cond.fieldLink RX12 179 "CuckooSharesModel" "faultAt" "I" ∈ wsX12_sentence := by decide +kernel
theorem lk_X12_sentence_33 : Cond.fieldLink RX12 33 "CuckooSharesModel" "s" "[I" ∈ wsX12_sentence := by decide +kernel
theorem lk_X12_sentence_40 : Cond.fieldLink RX12 40 "CuckooSharesModel" "read" "[I" ∈ wsX12_sentence := by decide +kernel
theorem lk_X12_sentence_431 : Cond.fieldLink RX12 431 "CuckooSharesModel" "codes" "I" ∈ wsX12_sentence := by decide +kernel
theorem lk_X12_sentence_434 : Cond.fieldLink RX12 434 "CuckooSharesModel" "top" "I" ∈ wsX12_sentence := by decide +kernel
theorem lk_X12_sentence_440 : Cond.fieldLink RX12 440 "CuckooSharesModel" "deep" "I" ∈ wsX12_sentence := by decide +kernel
theorem lk_X12_sentence_446 : Cond.fieldLink RX12 446 "CuckooSharesModel" "ones" "I" ∈ wsX12_sentence := by decide +kernel
theorem lk_X12_sentence_449 : Cond.fieldLink RX12 449 "CuckooSharesModel" "isWhole" "Z" ∈ wsX12_sentence := by decide +kernel
abbrev L_X12_sentence : List Rc := [(387, 387, 0, 0), (387, 387, 2, 5), (387, 387, 38, 42), (387, 387, 11, 16), (401, 401, 0, 40), (391, 391, 0, 119), (387, 387, 18, 18), (389, 389, 246, 366)]
abbrev LL_X12_sentence : List Rc := [(387, 387, 17, 17)]
def P_X12_sentence (σ0 : Nat → Nat → Int32) (τ0 : Nat → Nat → Int64)  (r : Int32) (σ : Nat → Nat → Int32) (τ : Nat → Nat → Int64) : Prop := Rg σ ∧ Fr L_X12_sentence σ0 σ ∧ FrL LL_X12_sentence τ0 τ ∧ ((σ 387 2).toInt = 0) ∧ SI σ
def J_X12_sentence_48 (p : Program) (l : Launch) (e : Env) (s : State) (m : MethodId) (args : Array Value) (below : List Frame) (meth : Method) (c : Code) (D : va_G) (cA : Nat → ClassId) (ad : Nat → Nat) (σ0 : Nat → Nat → Int32) (τ0 : Nat → Nat → Int64)  (n : Nat) : Prop := ∀ (σ : Nat → Nat → Int32) (τ : Nat → Nat → Int64) (H : Heap) (locs : List Loc) (x1 : Int32) (ls : Array Slot), Rg σ → Fr L_X12_sentence σ0 σ → FrL LL_X12_sentence τ0 τ → va_P D vwCl (gw cA ad σ τ) H → va_S (AA ad) s.heap H locs → (0 ≤ x1.toInt ∧ x1.toInt ≤ 1) → (0 ≤ (σ 387 2).toInt ∧ (σ 387 2).toInt ≤ 0) → (0 ≤ (σ 387 38).toInt ∧ (σ 387 38).toInt ≤ 40) → (0 ≤ (σ 387 39).toInt ∧ (σ 387 39).toInt ≤ 20) → (0 ≤ (σ 387 40).toInt ∧ (σ 387 40).toInt ≤ 40) → (0 ≤ (σ 387 42).toInt ∧ (σ 387 42).toInt ≤ 1) → ((σ 387 38).toInt + (σ 387 40).toInt + (σ 387 42).toInt ≤ 2 * (σ 387 39).toInt) → (SI σ) → (PV σ) → lv_has ls 3 [(0, .ref (ad 387)), (1, .int x1)] → 259 * (100 * (20 - (σ 387 39).toInt) + 2 * (σ 387 40).toInt + 3 * (σ 387 42).toInt + x1.toInt) + 258 < (n : Int) → W p l e ({ frames := 3, cells := 0, slots := 0, locals := 69 } : Room) s m args below meth c H locs 0 0 (MQ below (va_Qi (fun (r : Int32) (u : SS) => P_X12_sentence σ0 τ0 r u.1 u.2) (WB D cA ad) (AA ad)) args s 0 0 (AA ad)) (F0 m 48 ls [])
def J_X12_sentence_146 (p : Program) (l : Launch) (e : Env) (s : State) (m : MethodId) (args : Array Value) (below : List Frame) (meth : Method) (c : Code) (D : va_G) (cA : Nat → ClassId) (ad : Nat → Nat) (σ0 : Nat → Nat → Int32) (τ0 : Nat → Nat → Int64)  (n : Nat) : Prop := ∀ (σ : Nat → Nat → Int32) (τ : Nat → Nat → Int64) (H : Heap) (locs : List Loc) (x1 : Int32) (x2 : Int32) (ls : Array Slot), Rg σ → Fr L_X12_sentence σ0 σ → FrL LL_X12_sentence τ0 τ → va_P D vwCl (gw cA ad σ τ) H → va_S (AA ad) s.heap H locs → (0 ≤ x1.toInt ∧ x1.toInt ≤ 0) → (0 ≤ x2.toInt ∧ x2.toInt ≤ 127) → (0 ≤ (σ 387 2).toInt ∧ (σ 387 2).toInt ≤ 0) → (0 ≤ (σ 387 38).toInt ∧ (σ 387 38).toInt ≤ 40) → (0 ≤ (σ 387 39).toInt ∧ (σ 387 39).toInt ≤ 20) → (0 ≤ (σ 387 40).toInt ∧ (σ 387 40).toInt ≤ 40) → (0 ≤ (σ 387 42).toInt ∧ (σ 387 42).toInt ≤ 1) → (0 ≤ (σ 389 246).toInt ∧ (σ 389 246).toInt ≤ 40) → ((σ 389 246).toInt = (σ 387 38).toInt) → (∀ i : Nat, (i : Int) < x2.toInt → σ 389 (247 + i) = σ 391 i) → (PV σ) → lv_has ls 3 [(0, .ref (ad 387)), (1, .int x1), (2, .int x2)] → 2 * (127 - x2.toInt) + 1 < (n : Int) → W p l e ({ frames := 3, cells := 0, slots := 0, locals := 69 } : Room) s m args below meth c H locs 0 0 (MQ below (va_Qi (fun (r : Int32) (u : SS) => P_X12_sentence σ0 τ0 r u.1 u.2) (WB D cA ad) (AA ad)) args s 0 0 (AA ad)) (F0 m 146 ls [])
set_option maxHeartbeats 4000000 in
theorem B_X12_sentence_48 (p : Program) (l : Launch) (e : Env) (s : State) (m : MethodId) (args : Array Value) (below : List Frame) (meth : Method) (c : Code) (D : va_G) (cA : Nat → ClassId) (ad : Nat → Nat) (σ0 : Nat → Nat → Int32) (τ0 : Nat → Nat → Int64)  (n : Nat) (C : Cy p s m args meth c cX12_sentence 3 wsX12_sentence RX12 D cA ad (some .int)) (gSI0 : SI σ0) (K48 : J_X12_sentence_48 p l e s m args below meth c D cA ad σ0 τ0 n) (K146 : J_X12_sentence_146 p l e s m args below meth c D cA ad σ0 τ0 n) : J_X12_sentence_48 p l e s m args below meth c D cA ad σ0 τ0 (n + 1) := by
  obtain ⟨hx, hb, hml, hown, hts, hK, hk, hr, hI, hN⟩ := C
  intro σ τ H locs x1 ls hR hF hFL hP hS hc0 hc1 hc2 hc3 hc4 hc5 hi0 gSI gPV hl hm
  refine lv_iload_n hx hb dX12_sentence_48 rfl (lv_at hl 1 rfl) ?_
  refine r_if_eq (tgt := 132) hx hb dX12_sentence_49 (by decide) (fun c1 => ?_) (fun c1 => ?_)
  · refine lv_aload_n hx hb dX12_sentence_132 rfl (lv_at hl 0 rfl) ?_
    refine fg_12_6 (k := 387) hx hb hts in_X12_sentence_12 hown hK hP (by decide) (by decide) (hts _ lk_X12_sentence_33) dX12_sentence_133 ?_
    refine r_sipush hx hb dX12_sentence_136 (by decide) (fun z2 ez2 => ?_)
    refine lv_aload_n hx hb dX12_sentence_139 rfl (lv_at hl 0 rfl) ?_
    refine fg_12_38 (k := 387) hx hb hts in_X12_sentence_12 hown hK hP (by decide) (by decide) (hts _ lk_X12_sentence_431) dX12_sentence_140 ?_
    refine as_ms (k := 389) (j := 246) hx hb hK hP hI hR hS (by decide) (by decide) (by omega) (by omega) (rw_ms_8 (by decide) (by decide) (by decide) (by decide) (by omega)) dX12_sentence_143 (fun σ3 H3 locs3 u3 v3 hR hP hS => ?_)
    have hF := hF.puts u3 7 rfl (by decide) (by decide) (by decide) (by decide)
    have gPV := PV.put gPV hR u3 (by decide)
    have t4 : (σ3 387 2).toInt = (σ 387 2).toInt := congrArg Int32.toInt (u3 387 2 (by omega))
    have t5 : (σ3 387 38).toInt = (σ 387 38).toInt := congrArg Int32.toInt (u3 387 38 (by omega))
    have t6 : (σ3 387 39).toInt = (σ 387 39).toInt := congrArg Int32.toInt (u3 387 39 (by omega))
    have t7 : (σ3 387 40).toInt = (σ 387 40).toInt := congrArg Int32.toInt (u3 387 40 (by omega))
    have t8 : (σ3 387 42).toInt = (σ 387 42).toInt := congrArg Int32.toInt (u3 387 42 (by omega))
    have t9 : (σ3 387 11).toInt = (σ 387 11).toInt := congrArg Int32.toInt (u3 387 11 (by omega))
    refine r_iconst hx hb dX12_sentence_144 (by decide) (fun z10 ez10 => ?_)
    refine lv_istore_n (lv' := [(2, .int z10), (0, .ref (ad 387)), (1, .int x1)]) hx hb dX12_sentence_145 rfl hl (by decide) rfl (fun ls hl => ?_)
    exact K146 σ3 τ H3 locs3 x1 z10 ls hR hF hFL hP hS (by omega) (by omega) (by omega) (by omega) (by omega) (by omega) (by omega) (by omega) (by omega) (by first | exact (fun i hi => absurd hi (by omega)) | exact (fun i hi => CPs uz vz (by omega) (fun k hk => hi1 k (by omega)) i (by omega))) gPV (lv_sub hl [1, 2, 0] rfl) (by omega)
  · refine lv_aload_n hx hb dX12_sentence_52 rfl (lv_at hl 0 rfl) ?_
    refine fg_12_42 (k := 387) hx hb hts in_X12_sentence_12 hown hK hP (by decide) (by decide) (hts _ lk_X12_sentence_449) dX12_sentence_53 ?_
    refine r_if_eq (tgt := 101) hx hb dX12_sentence_56 (by decide) (fun c11 => ?_) (fun c11 => ?_)
    · refine lv_aload_n hx hb dX12_sentence_101 rfl (lv_at hl 0 rfl) ?_
      refine fg_12_42 (k := 387) hx hb hts in_X12_sentence_12 hown hK hP (by decide) (by decide) (hts _ lk_X12_sentence_449) dX12_sentence_102 ?_
      refine r_if_eq (tgt := 118) hx hb dX12_sentence_105 (by decide) (fun c12 => ?_) (fun c12 => ?_)
      · refine lv_aload_n hx hb dX12_sentence_118 rfl (lv_at hl 0 rfl) ?_
        refine r_cVi (k := 387) (As := []) (rest := []) ⟨hx, hb, hml, hown, hts⟩ hK hP hN hS (c_X12_operand l D cA ad hI σ τ hR (by omega) (by omega) gPV) (cwV 0 hts gX12_sentence_X12_operand rfl rfl rfl (by decide +kernel) ⟨by decide, by decide⟩) (rv_M hK hP (by decide) (by decide)) rfl hl.1 rfl (Nat.le_of_ble_eq_true rfl) dX12_sentence_119 (Nat.zero_le _) (Nat.zero_le _) (fun r13 u13 H13 locs13 hp13 hP hS => ?_)
        obtain ⟨σ13, τ13⟩ := u13
        obtain ⟨hR, f13, fL13, hq13, hp13_0, hp13_1, hp13_2⟩ : P_X12_operand σ τ r13 σ13 τ13 := hp13
        have pvo := hp13_0
        have hP : va_P D vwCl (gw cA ad σ13 τ13) H13 := hP
        have hFL := hFL.step fL13 (by decide)
        have hF := hF.step f13 (by decide)
        have gSI := SI.fr gSI hR f13 (by decide)
        have t14 : (σ13 387 2).toInt = (σ 387 2).toInt := congrArg Int32.toInt (f13.at 387 2 (by decide))
        have hr15 := rg_12_38 hR (k := 387) (by decide) (by decide)
        have hr16 := rg_12_39 hR (k := 387) (by decide) (by decide)
        have hr17 := rg_12_40 hR (k := 387) (by decide) (by decide)
        have hr18 := rg_12_42 hR (k := 387) (by decide) (by decide)
        refine r_if_ne (tgt := 48) hx hb dX12_sentence_122 (by decide) (fun c19 => ?_) (fun c19 => ?_)
        · replace hp13_0 := hp13_0.resolve_left (by omega)
          replace hp13_1 := hp13_1.resolve_left (by omega)
          replace hp13_2 := hp13_2.resolve_left (by omega)
          have gPV : PV σ13 := by first | exact gPV | exact pvo.resolve_left (by omega)
          exact K48 σ13 τ13 H13 locs13 x1 ls hR hF hFL hP hS (by omega) (by omega) (by omega) (by omega) (by omega) (by omega) (by omega) gSI gPV (lv_sub hl [0, 1] rfl) (by omega)
        · clear hp13_0 hp13_1 hp13_2
          refine r_iconst hx hb dX12_sentence_125 (by decide) (fun z20 ez20 => ?_)
          refine lv_aload_n hx hb dX12_sentence_126 rfl (lv_at hl 0 rfl) ?_
          refine fg_12_16 (k := 387) hx hb hts in_X12_sentence_12 hown hK hP (by decide) (by decide) (hts _ lk_X12_sentence_179) dX12_sentence_127 ?_
          have b22 := And.intro (ti_lo (σ13 387 16)) (ti_hi (σ13 387 16))
          refine r_isub hx hb dX12_sentence_130 (by omega) (fun z21 ez21 => ?_)
          exact r_iret hx hb hr hK hP hS hk dX12_sentence_131 (show P_X12_sentence σ0 τ0 z21 σ13 τ13 from ⟨hR, hF, hFL, by omega, gSI⟩)
      · exfalso; omega
    · refine lv_aload_n hx hb dX12_sentence_59 rfl (lv_at hl 0 rfl) ?_
      refine fg_12_11 (k := 387) hx hb hts in_X12_sentence_12 hown hK hP (by decide) (by decide) (hts _ lk_X12_sentence_159) dX12_sentence_60 ?_
      refine r_if_ne (tgt := 101) hx hb dX12_sentence_63 (by decide) (fun c23 => ?_) (fun c23 => ?_)
      · refine lv_aload_n hx hb dX12_sentence_101 rfl (lv_at hl 0 rfl) ?_
        refine fg_12_42 (k := 387) hx hb hts in_X12_sentence_12 hown hK hP (by decide) (by decide) (hts _ lk_X12_sentence_449) dX12_sentence_102 ?_
        refine r_if_eq (tgt := 118) hx hb dX12_sentence_105 (by decide) (fun c24 => ?_) (fun c24 => ?_)
        · exfalso; omega
        · refine lv_aload_n hx hb dX12_sentence_108 rfl (lv_at hl 0 rfl) ?_
          refine r_cVi (k := 387) (As := []) (rest := []) ⟨hx, hb, hml, hown, hts⟩ hK hP hN hS (c_X12_behind l D cA ad hI σ τ hR (by omega) (by omega) gPV) (cwV 0 hts gX12_sentence_X12_behind rfl rfl rfl (by decide +kernel) ⟨by decide, by decide⟩) (rv_M hK hP (by decide) (by decide)) rfl hl.1 rfl (Nat.le_of_ble_eq_true rfl) dX12_sentence_109 (Nat.zero_le _) (Nat.zero_le _) (fun r25 u25 H25 locs25 hp25 hP hS => ?_)
          obtain ⟨σ25, τ25⟩ := u25
          obtain ⟨hR, f25, fL25, hq25, hp25_0, hp25_1, hp25_2⟩ : P_X12_behind σ τ r25 σ25 τ25 := hp25
          have pvo := hp25_0
          have hP : va_P D vwCl (gw cA ad σ25 τ25) H25 := hP
          have hFL := hFL.step fL25 (by decide)
          have hF := hF.step f25 (by decide)
          have gSI := SI.fr gSI hR f25 (by decide)
          have t26 : (σ25 387 2).toInt = (σ 387 2).toInt := congrArg Int32.toInt (f25.at 387 2 (by decide))
          have t27 : (σ25 387 39).toInt = (σ 387 39).toInt := congrArg Int32.toInt (f25.at 387 39 (by decide))
          have hr28 := rg_12_38 hR (k := 387) (by decide) (by decide)
          have hr29 := rg_12_40 hR (k := 387) (by decide) (by decide)
          have hr30 := rg_12_42 hR (k := 387) (by decide) (by decide)
          refine r_if_ne (tgt := 48) hx hb dX12_sentence_112 (by decide) (fun c31 => ?_) (fun c31 => ?_)
          · replace hp25_0 := hp25_0.resolve_left (by omega)
            replace hp25_1 := hp25_1.resolve_left (by omega)
            replace hp25_2 := hp25_2.resolve_left (by omega)
            have gPV : PV σ25 := by first | exact gPV | exact pvo.resolve_left (by omega)
            exact K48 σ25 τ25 H25 locs25 x1 ls hR hF hFL hP hS (by omega) (by omega) (by omega) (by omega) (by omega) (by omega) (by omega) gSI gPV (lv_sub hl [0, 1] rfl) (by omega)
          · clear hp25_0 hp25_1 hp25_2
            refine lv_goto (tgt := 125) hx hb dX12_sentence_115 (by decide) ?_
            refine r_iconst hx hb dX12_sentence_125 (by decide) (fun z32 ez32 => ?_)
            refine lv_aload_n hx hb dX12_sentence_126 rfl (lv_at hl 0 rfl) ?_
            refine fg_12_16 (k := 387) hx hb hts in_X12_sentence_12 hown hK hP (by decide) (by decide) (hts _ lk_X12_sentence_179) dX12_sentence_127 ?_
            have b34 := And.intro (ti_lo (σ25 387 16)) (ti_hi (σ25 387 16))
            refine r_isub hx hb dX12_sentence_130 (by omega) (fun z33 ez33 => ?_)
            exact r_iret hx hb hr hK hP hS hk dX12_sentence_131 (show P_X12_sentence σ0 τ0 z33 σ25 τ25 from ⟨hR, hF, hFL, by omega, gSI⟩)
      · refine lv_aload_n hx hb dX12_sentence_66 rfl (lv_at hl 0 rfl) ?_
        refine r_cVv (k := 387) (As := []) (rest := []) ⟨hx, hb, hml, hown, hts⟩ hK hP hN hS (c_X12_nots l D cA ad hI σ τ hR (by omega) (by omega) gPV) (cwV 0 hts gX12_sentence_X12_nots rfl rfl rfl (by decide +kernel) ⟨by decide, by decide⟩) (rv_M hK hP (by decide) (by decide)) rfl hl.1 rfl (Nat.le_of_ble_eq_true rfl) dX12_sentence_67 (Nat.zero_le _) (Nat.zero_le _) (fun u35 H35 locs35 hp35 hP hS => ?_)
        obtain ⟨σ35, τ35⟩ := u35
        obtain ⟨hR, f35, fL35, hp35_0, hp35_1, gnPV⟩ : P_X12_nots σ τ σ35 τ35 := hp35
        have hP : va_P D vwCl (gw cA ad σ35 τ35) H35 := hP
        obtain rfl := FrL.nil fL35
        have hF := hF.step f35 (by decide)
        have gSI := SI.fr gSI hR f35 (by decide)
        have t36 : (σ35 387 2).toInt = (σ 387 2).toInt := congrArg Int32.toInt (f35.at 387 2 (by decide))
        have t37 : (σ35 387 39).toInt = (σ 387 39).toInt := congrArg Int32.toInt (f35.at 387 39 (by decide))
        have t38 : (σ35 387 42).toInt = (σ 387 42).toInt := congrArg Int32.toInt (f35.at 387 42 (by decide))
        have t39 : (σ35 387 11).toInt = (σ 387 11).toInt := congrArg Int32.toInt (f35.at 387 11 (by decide))
        have hr40 := rg_12_38 hR (k := 387) (by decide) (by decide)
        have hr41 := rg_12_40 hR (k := 387) (by decide) (by decide)
        have gPV := gnPV
        refine lv_aload_n hx hb dX12_sentence_70 rfl (lv_at hl 0 rfl) ?_
        refine r_bipush hx hb dX12_sentence_71 (by decide) (fun z42 ez42 => ?_)
        refine r_cVv (k := 387) (As := [.int z42]) (rest := []) ⟨hx, hb, hml, hown, hts⟩ hK hP hN hS (c_X12_joins l D cA ad hI σ35 τ hR z42 (by omega) (by omega) (by omega) gPV) (cwV 1 hts gX12_sentence_X12_joins rfl rfl rfl (by decide +kernel) ⟨by decide, by decide⟩) (rv_M hK hP (by decide) (by decide)) rfl hl.1 rfl (Nat.le_of_ble_eq_true rfl) dX12_sentence_73 (Nat.zero_le _) (Nat.zero_le _) (fun u43 H43 locs43 hp43 hP hS => ?_)
        obtain ⟨σ43, τ43⟩ := u43
        obtain ⟨hR, f43, fL43, hp43_0, hp43_1, hp43_2, gnPV⟩ : P_X12_joins σ35 τ z42 σ43 τ43 := hp43
        have hP : va_P D vwCl (gw cA ad σ43 τ43) H43 := hP
        obtain rfl := FrL.nil fL43
        have hF := hF.step f43 (by decide)
        have gSI := SI.fr gSI hR f43 (by decide)
        have t44 : (σ43 387 2).toInt = (σ35 387 2).toInt := congrArg Int32.toInt (f43.at 387 2 (by decide))
        have t45 : (σ43 387 39).toInt = (σ35 387 39).toInt := congrArg Int32.toInt (f43.at 387 39 (by decide))
        have t46 : (σ43 387 42).toInt = (σ35 387 42).toInt := congrArg Int32.toInt (f43.at 387 42 (by decide))
        have t47 : (σ43 387 11).toInt = (σ35 387 11).toInt := congrArg Int32.toInt (f43.at 387 11 (by decide))
        have hr48 := rg_12_38 hR (k := 387) (by decide) (by decide)
        have hr49 := rg_12_40 hR (k := 387) (by decide) (by decide)
        have gPV := gnPV
        refine lv_aload_n hx hb dX12_sentence_76 rfl (lv_at hl 0 rfl) ?_
        refine fg_12_40 (k := 387) hx hb hts in_X12_sentence_12 hown hK hP (by decide) (by decide) (hts _ lk_X12_sentence_434) dX12_sentence_77 ?_
        refine r_if_le (tgt := 96) hx hb dX12_sentence_80 (by decide) (fun c50 => ?_) (fun c50 => ?_)
        · refine r_iconst hx hb dX12_sentence_96 (by decide) (fun z51 ez51 => ?_)
          refine lv_istore_n (lv' := [(1, .int z51), (0, .ref (ad 387))]) hx hb dX12_sentence_97 rfl hl (by decide) rfl (fun ls hl => ?_)
          refine lv_goto (tgt := 48) hx hb dX12_sentence_98 (by decide) ?_
          have gPV : PV σ43 := by first | exact gPV | exact pvo.resolve_left (by omega)
          exact K48 σ43 τ H43 locs43 z51 ls hR hF hFL hP hS (by omega) (by omega) (by omega) (by omega) (by omega) (by omega) (by omega) gSI gPV (lv_sub hl [1, 0] rfl) (by omega)
        · refine lv_aload_n hx hb dX12_sentence_83 rfl (lv_at hl 0 rfl) ?_
          refine r_iconst hx hb dX12_sentence_84 (by decide) (fun z52 ez52 => ?_)
          refine r_cVi (k := 387) (As := [.int z52]) (rest := []) ⟨hx, hb, hml, hown, hts⟩ hK hP hN hS (c_X12_bad l D cA ad hI σ43 τ hR z52 (by omega)) (cwV 1 hts gX12_sentence_X12_bad rfl rfl rfl (by decide +kernel) ⟨by decide, by decide⟩) (rv_M hK hP (by decide) (by decide)) rfl hl.1 rfl (Nat.le_of_ble_eq_true rfl) dX12_sentence_85 (Nat.zero_le _) (Nat.zero_le _) (fun r53 u53 H53 locs53 hp53 hP hS => ?_)
          obtain ⟨σ53, τ53⟩ := u53
          obtain ⟨hR, f53, fL53, hq53⟩ : P_X12_bad σ43 τ z52 r53 σ53 τ53 := hp53
          have hP : va_P D vwCl (gw cA ad σ53 τ53) H53 := hP
          obtain rfl := FrL.nil fL53
          have hF := hF.step f53 (by decide)
          have gPV := PV.fr gPV hR f53 (by decide)
          have gSI := SI.fr gSI hR f53 (by decide)
          have t54 : (σ53 387 2).toInt = (σ43 387 2).toInt := congrArg Int32.toInt (f53.at 387 2 (by decide))
          have t55 : (σ53 387 39).toInt = (σ43 387 39).toInt := congrArg Int32.toInt (f53.at 387 39 (by decide))
          have t56 : (σ53 387 42).toInt = (σ43 387 42).toInt := congrArg Int32.toInt (f53.at 387 42 (by decide))
          have t57 : (σ53 387 11).toInt = (σ43 387 11).toInt := congrArg Int32.toInt (f53.at 387 11 (by decide))
          have t58 : (σ53 387 38).toInt = (σ43 387 38).toInt := congrArg Int32.toInt (f53.at 387 38 (by decide))
          have t59 : (σ53 387 40).toInt = (σ43 387 40).toInt := congrArg Int32.toInt (f53.at 387 40 (by decide))
          refine lv_pop hx hb dX12_sentence_88 rfl ?_
          refine r_iconst hx hb dX12_sentence_89 (by decide) (fun z60 ez60 => ?_)
          refine lv_aload_n hx hb dX12_sentence_90 rfl (lv_at hl 0 rfl) ?_
          refine fg_12_16 (k := 387) hx hb hts in_X12_sentence_12 hown hK hP (by decide) (by decide) (hts _ lk_X12_sentence_179) dX12_sentence_91 ?_
          have b62 := And.intro (ti_lo (σ53 387 16)) (ti_hi (σ53 387 16))
          refine r_isub hx hb dX12_sentence_94 (by omega) (fun z61 ez61 => ?_)
          exact r_iret hx hb hr hK hP hS hk dX12_sentence_95 (show P_X12_sentence σ0 τ0 z61 σ53 τ from ⟨hR, hF, hFL, by omega, gSI⟩)
set_option maxHeartbeats 4000000 in
theorem B_X12_sentence_146 (p : Program) (l : Launch) (e : Env) (s : State) (m : MethodId) (args : Array Value) (below : List Frame) (meth : Method) (c : Code) (D : va_G) (cA : Nat → ClassId) (ad : Nat → Nat) (σ0 : Nat → Nat → Int32) (τ0 : Nat → Nat → Int64)  (n : Nat) (C : Cy p s m args meth c cX12_sentence 3 wsX12_sentence RX12 D cA ad (some .int)) (gSI0 : SI σ0) (K48 : J_X12_sentence_48 p l e s m args below meth c D cA ad σ0 τ0 n) (K146 : J_X12_sentence_146 p l e s m args below meth c D cA ad σ0 τ0 n) : J_X12_sentence_146 p l e s m args below meth c D cA ad σ0 τ0 (n + 1) := by
  obtain ⟨hx, hb, hml, hown, hts, hK, hk, hr, hI, hN⟩ := C
  intro σ τ H locs x1 x2 ls hR hF hFL hP hS hc0 hc1 hc2 hc3 hc4 hc5 hc6 hc7 hi0 hi1 gPV hl hm
  refine lv_iload_n hx hb dX12_sentence_146 rfl (lv_at hl 2 rfl) ?_
  refine r_iconst hx hb dX12_sentence_147 (by decide) (fun z1 ez1 => ?_)
  refine lv_aload_n hx hb dX12_sentence_148 rfl (lv_at hl 0 rfl) ?_
  refine fg_12_38 (k := 387) hx hb hts in_X12_sentence_12 hown hK hP (by decide) (by decide) (hts _ lk_X12_sentence_431) dX12_sentence_149 ?_
  refine r_imulL (n := 3) hx hb dX12_sentence_152 (by omega) (by omega) (fun z2 ez2 => ?_)
  refine r_icmp_ge (tgt := 178) hx hb dX12_sentence_153 (by decide) (fun c3 => ?_) (fun c3 => ?_)
  · refine lv_aload_n hx hb dX12_sentence_178 rfl (lv_at hl 0 rfl) ?_
    refine fg_12_39 (k := 387) hx hb hts in_X12_sentence_12 hown hK hP (by decide) (by decide) (hts _ lk_X12_sentence_446) dX12_sentence_179 ?_
    exact r_iret hx hb hr hK hP hS hk dX12_sentence_182 (show P_X12_sentence σ0 τ0 (σ 387 39) σ τ from ⟨hR, hF, hFL, by omega, SI.sent gSI0 hF (by decide) hR gPV (by omega) (fun i hi => hi1 i (by omega))⟩)
  · refine lv_aload_n hx hb dX12_sentence_156 rfl (lv_at hl 0 rfl) ?_
    refine fg_12_6 (k := 387) hx hb hts in_X12_sentence_12 hown hK hP (by decide) (by decide) (hts _ lk_X12_sentence_33) dX12_sentence_157 ?_
    refine r_sipush hx hb dX12_sentence_160 (by decide) (fun z4 ez4 => ?_)
    refine lv_iload_n hx hb dX12_sentence_163 rfl (lv_at hl 2 rfl) ?_
    refine r_iadd hx hb dX12_sentence_164 (by omega) (fun z5 ez5 => ?_)
    refine lv_aload_n hx hb dX12_sentence_165 rfl (lv_at hl 0 rfl) ?_
    refine fg_12_8 (k := 387) hx hb hts in_X12_sentence_12 hown hK hP (by decide) (by decide) (hts _ lk_X12_sentence_40) dX12_sentence_166 ?_
    refine lv_iload_n hx hb dX12_sentence_169 rfl (lv_at hl 2 rfl) ?_
    obtain ⟨j6, ej6⟩ : ∃ j : Nat, x2.toInt = (j : Int) := ⟨_, ti_nat (by omega)⟩
    refine ad_mread (k := 391) (j := j6) hx hb hK hP (by decide) (by decide) ej6 (by omega) dX12_sentence_170 ?_
    obtain ⟨j7, ej7⟩ : ∃ j : Nat, z5.toInt = (j : Int) := ⟨_, ti_nat (by omega)⟩
    refine as_ms (k := 389) (j := j7) hx hb hK hP hI hR hS (by decide) (by decide) ej7 (by omega) (rx_ms_247 (by decide) (by decide) (by omega) (by omega)) dX12_sentence_171 (fun σ8 H8 locs8 u8 v8 hR hP hS => ?_)
    have uz := u8
    have vz := v8
    have hF := hF.puts u8 7 rfl (by decide) (by decide) (by omega) (by omega)
    have gPV := PV.putV gPV hR u8 (by intro q hq; simp only [Gd_PV, List.mem_cons, List.not_mem_nil, or_false] at hq; rcases hq with rfl | rfl | rfl | rfl | rfl <;> dsimp only [inRc] <;> omega)
    have t9 : (σ8 387 2).toInt = (σ 387 2).toInt := congrArg Int32.toInt (u8 387 2 (by omega))
    have t10 : (σ8 387 38).toInt = (σ 387 38).toInt := congrArg Int32.toInt (u8 387 38 (by omega))
    have t11 : (σ8 387 39).toInt = (σ 387 39).toInt := congrArg Int32.toInt (u8 387 39 (by omega))
    have t12 : (σ8 387 40).toInt = (σ 387 40).toInt := congrArg Int32.toInt (u8 387 40 (by omega))
    have t13 : (σ8 387 42).toInt = (σ 387 42).toInt := congrArg Int32.toInt (u8 387 42 (by omega))
    have t14 : (σ8 387 11).toInt = (σ 387 11).toInt := congrArg Int32.toInt (u8 387 11 (by omega))
    have t15 : (σ8 389 246).toInt = (σ 389 246).toInt := congrArg Int32.toInt (u8 389 246 (by omega))
    have t16 : (σ8 391 j6).toInt = (σ 391 j6).toInt := congrArg Int32.toInt (u8 391 j6 (by omega))
    refine r_iinc (k := 2) (lv1 := fun z17 => [(2, .int z17), (0, .ref (ad 387)), (1, .int x1)]) hx hb dX12_sentence_172 hl rfl (by decide) (fun _ => rfl) (by decide) (by omega) (fun z17 ls ez17 hl => ?_)
    refine lv_goto (tgt := 146) hx hb dX12_sentence_175 (by decide) ?_
    exact K146 σ8 τ H8 locs8 x1 z17 ls hR hF hFL hP hS (by omega) (by omega) (by omega) (by omega) (by omega) (by omega) (by omega) (by omega) (by omega) (by first | exact (fun i hi => absurd hi (by omega)) | exact (fun i hi => CPs uz vz (by omega) (fun k hk => hi1 k (by omega)) i (by omega))) gPV (lv_sub hl [1, 2, 0] rfl) (by omega)
theorem A_X12_sentence (p : Program) (l : Launch) (e : Env) (s : State) (m : MethodId) (args : Array Value) (below : List Frame) (meth : Method) (c : Code) (D : va_G) (cA : Nat → ClassId) (ad : Nat → Nat) (σ0 : Nat → Nat → Int32) (τ0 : Nat → Nat → Int64)  (C : Cy p s m args meth c cX12_sentence 3 wsX12_sentence RX12 D cA ad (some .int)) (gSI0 : SI σ0) : ∀ n : Nat, J_X12_sentence_48 p l e s m args below meth c D cA ad σ0 τ0 n ∧ J_X12_sentence_146 p l e s m args below meth c D cA ad σ0 τ0 n := by
  intro n
  induction n with
  | zero =>
    exact ⟨(by intro σ τ H locs x1 ls hR hF hFL hP hS hc0 hc1 hc2 hc3 hc4 hc5 hi0 gSI gPV hl hm; exfalso; omega), (by intro σ τ H locs x1 x2 ls hR hF hFL hP hS hc0 hc1 hc2 hc3 hc4 hc5 hc6 hc7 hi0 hi1 gPV hl hm; exfalso; omega)⟩
  | succ n ih =>
    exact ⟨B_X12_sentence_48 p l e s m args below meth c D cA ad σ0 τ0 n C gSI0 ih.1 ih.2, B_X12_sentence_146 p l e s m args below meth c D cA ad σ0 τ0 n C gSI0 ih.1 ih.2⟩
set_option maxHeartbeats 4000000 in
theorem c_X12_sentence (l : Launch) (D : va_G) (cA : Nat → ClassId) (ad : Nat → Nat) (hI : Inj ad) (σ0 : Nat → Nat → Int32) (τ0 : Nat → Nat → Int64) (hR : Rg σ0)  (gSI0 : SI σ0) : Met l yX12_sentence wsX12_sentence ({ frames := 3, cells := 0, slots := 0, locals := 69 } : Room) (WQc D cA ad [.ref (ad 387)] σ0 τ0) (va_Qi (fun (r : Int32) (u : SS) => P_X12_sentence σ0 τ0 r u.1 u.2) (WB D cA ad) (AA ad)) 0 0 (AA ad) := by
  refine Met.ofW (cc := cX12_sentence) (maxL := 3) (ret := (some .int)) (by decide) rfl ?_
  intro p e s m args below meth c s₁ B hml hv
  obtain ⟨rfl, hP, hK, hN⟩ := hv
  have C : Cy p s m _ meth c cX12_sentence 3 wsX12_sentence RX12 D cA ad (some .int) := ⟨B.exec, B.bytes, hml, findClass_of_methodNamed B.named, atoms_spec (ws := wsX12_sentence) B.pre, hK, B.notSynchronized, B.returns, hI, hN⟩
  have hl := lv_entry ([.ref (ad 387)]) (n := 3) (Nat.le_of_ble_eq_true rfl)
  rw [lg_entry_eq]
  generalize (lg_sl ([.ref (ad 387)]) ++ List.replicate (3 - (lg_sl ([.ref (ad 387)])).length) Slot.unset).toArray = ls at hl ⊢
  have hl : lv_has ls 3 [(0, .ref (ad 387))] := hl
  have hS : va_S (AA ad) s.heap s.heap [] := va_S.rf
  have hF : Fr L_X12_sentence σ0 σ0 := Fr.rf
  have hFL : FrL LL_X12_sentence τ0 τ0 := FrL.rf
  have gSI := gSI0
  have hA := A_X12_sentence p l e s m _ below meth c D cA ad σ0 τ0 C gSI0 1192437
  have K48 := hA.1
  have K146 := hA.2
  clear hA
  obtain ⟨hx, hb, _, hown, hts, _, hk, hr, _, _⟩ := C
  have hrt38 := rg_12_38 hR (k := 387) (by decide) (by decide)
  have hrt39 := rg_12_39 hR (k := 387) (by decide) (by decide)
  have hrt40 := rg_12_40 hR (k := 387) (by decide) (by decide)
  have hrt42 := rg_12_42 hR (k := 387) (by decide) (by decide)
  have hrt2 := rg_12_2 hR (k := 387) (by decide) (by decide)
  refine lv_aload_n hx hb dX12_sentence_0 rfl (lv_at hl 0 rfl) ?_
  refine r_iconst hx hb dX12_sentence_1 (by decide) (fun z1 ez1 => ?_)
  refine fp_12_0 (k := 387) hx hb hts in_X12_sentence_12 hown hK hP (by decide) (by decide) (hts _ lk_X12_sentence_1) hI hR hS (by omega) dX12_sentence_2 (fun σ2 H2 locs2 u2 v2 hR hP hS => ?_)
  have hF := hF.puts u2 0 rfl (by decide) (by decide) (by decide) (by decide)
  have gSI := SI.put gSI hR u2 (by decide)
  have t3 : (σ2 387 38).toInt = (σ0 387 38).toInt := congrArg Int32.toInt (u2 387 38 (by omega))
  have t4 : (σ2 387 39).toInt = (σ0 387 39).toInt := congrArg Int32.toInt (u2 387 39 (by omega))
  have t5 : (σ2 387 40).toInt = (σ0 387 40).toInt := congrArg Int32.toInt (u2 387 40 (by omega))
  have t6 : (σ2 387 42).toInt = (σ0 387 42).toInt := congrArg Int32.toInt (u2 387 42 (by omega))
  have t7 : (σ2 387 11).toInt = (σ0 387 11).toInt := congrArg Int32.toInt (u2 387 11 (by omega))
  have t8 : (σ2 387 2).toInt = (σ0 387 2).toInt := congrArg Int32.toInt (u2 387 2 (by omega))
  refine lv_aload_n hx hb dX12_sentence_5 rfl (lv_at hl 0 rfl) ?_
  refine r_sipush hx hb dX12_sentence_6 (by decide) (fun z9 ez9 => ?_)
  refine r_cVv (k := 387) (As := [.int z9]) (rest := []) ⟨hx, hb, hml, hown, hts⟩ hK hP hN hS (c_X12_taken l D cA ad hI σ2 τ0 hR z9 (by omega)) (cwV 1 hts gX12_sentence_X12_taken rfl rfl rfl (by decide +kernel) ⟨by decide, by decide⟩) (rv_M hK hP (by decide) (by decide)) rfl hl.1 rfl (Nat.le_of_ble_eq_true rfl) dX12_sentence_9 (Nat.zero_le _) (Nat.zero_le _) (fun u10 H10 locs10 hp10 hP hS => ?_)
  obtain ⟨σ10, τ10⟩ := u10
  obtain ⟨hR, f10, fL10, hp10_0, hp10_1, hp10_2, hp10_3⟩ : P_X12_taken σ2 τ0 z9 σ10 τ10 := hp10
  have hP : va_P D vwCl (gw cA ad σ10 τ10) H10 := hP
  obtain rfl := FrL.nil fL10
  have hF := hF.step f10 (by decide)
  have gSI := SI.fr gSI hR f10 (by decide)
  have t11 : (σ10 387 38).toInt = (σ2 387 38).toInt := congrArg Int32.toInt (f10.at 387 38 (by decide))
  have t12 : (σ10 387 39).toInt = (σ2 387 39).toInt := congrArg Int32.toInt (f10.at 387 39 (by decide))
  have t13 : (σ10 387 40).toInt = (σ2 387 40).toInt := congrArg Int32.toInt (f10.at 387 40 (by decide))
  have t14 : (σ10 387 42).toInt = (σ2 387 42).toInt := congrArg Int32.toInt (f10.at 387 42 (by decide))
  have t15 : (σ10 387 11).toInt = (σ2 387 11).toInt := congrArg Int32.toInt (f10.at 387 11 (by decide))
  have hr16 := rg_12_2 hR (k := 387) (by decide) (by decide)
  refine lv_aload_n hx hb dX12_sentence_12 rfl (lv_at hl 0 rfl) ?_
  refine r_iconst hx hb dX12_sentence_13 (by decide) (fun z17 ez17 => ?_)
  refine fp_12_15 (k := 387) hx hb hts in_X12_sentence_12 hown hK hP (by decide) (by decide) (hts _ lk_X12_sentence_176) hI hR hS dX12_sentence_14 (fun σ18 H18 locs18 u18 v18 hR hP hS => ?_)
  have hF := hF.puts u18 3 rfl (by decide) (by decide) (by decide) (by decide)
  have gSI := SI.put gSI hR u18 (by decide)
  have t19 : (σ18 387 38).toInt = (σ10 387 38).toInt := congrArg Int32.toInt (u18 387 38 (by omega))
  have t20 : (σ18 387 39).toInt = (σ10 387 39).toInt := congrArg Int32.toInt (u18 387 39 (by omega))
  have t21 : (σ18 387 40).toInt = (σ10 387 40).toInt := congrArg Int32.toInt (u18 387 40 (by omega))
  have t22 : (σ18 387 42).toInt = (σ10 387 42).toInt := congrArg Int32.toInt (u18 387 42 (by omega))
  have t23 : (σ18 387 11).toInt = (σ10 387 11).toInt := congrArg Int32.toInt (u18 387 11 (by omega))
  have t24 : (σ18 387 2).toInt = (σ10 387 2).toInt := congrArg Int32.toInt (u18 387 2 (by omega))
  refine lv_aload_n hx hb dX12_sentence_17 rfl (lv_at hl 0 rfl) ?_
  refine r_iconst hx hb dX12_sentence_18 (by decide) (fun z25 ez25 => ?_)
  refine fp_12_38 (k := 387) hx hb hts in_X12_sentence_12 hown hK hP (by decide) (by decide) (hts _ lk_X12_sentence_431) hI hR hS (by omega) dX12_sentence_19 (fun σ26 H26 locs26 u26 v26 hR hP hS => ?_)
  have hF := hF.puts u26 2 rfl (by decide) (by decide) (by decide) (by decide)
  have gSI := SI.put gSI hR u26 (by decide)
  have t27 : (σ26 387 39).toInt = (σ18 387 39).toInt := congrArg Int32.toInt (u26 387 39 (by omega))
  have t28 : (σ26 387 40).toInt = (σ18 387 40).toInt := congrArg Int32.toInt (u26 387 40 (by omega))
  have t29 : (σ26 387 42).toInt = (σ18 387 42).toInt := congrArg Int32.toInt (u26 387 42 (by omega))
  have t30 : (σ26 387 11).toInt = (σ18 387 11).toInt := congrArg Int32.toInt (u26 387 11 (by omega))
  have t31 : (σ26 387 2).toInt = (σ18 387 2).toInt := congrArg Int32.toInt (u26 387 2 (by omega))
  refine lv_aload_n hx hb dX12_sentence_22 rfl (lv_at hl 0 rfl) ?_
  refine r_iconst hx hb dX12_sentence_23 (by decide) (fun z32 ez32 => ?_)
  refine fp_12_39 (k := 387) hx hb hts in_X12_sentence_12 hown hK hP (by decide) (by decide) (hts _ lk_X12_sentence_446) hI hR hS (by omega) dX12_sentence_24 (fun σ33 H33 locs33 u33 v33 hR hP hS => ?_)
  have hF := hF.puts u33 2 rfl (by decide) (by decide) (by decide) (by decide)
  have gSI := SI.put gSI hR u33 (by decide)
  have t34 : (σ33 387 40).toInt = (σ26 387 40).toInt := congrArg Int32.toInt (u33 387 40 (by omega))
  have t35 : (σ33 387 42).toInt = (σ26 387 42).toInt := congrArg Int32.toInt (u33 387 42 (by omega))
  have t36 : (σ33 387 11).toInt = (σ26 387 11).toInt := congrArg Int32.toInt (u33 387 11 (by omega))
  have t37 : (σ33 387 2).toInt = (σ26 387 2).toInt := congrArg Int32.toInt (u33 387 2 (by omega))
  have t38 : (σ33 387 38).toInt = (σ26 387 38).toInt := congrArg Int32.toInt (u33 387 38 (by omega))
  refine lv_aload_n hx hb dX12_sentence_27 rfl (lv_at hl 0 rfl) ?_
  refine r_iconst hx hb dX12_sentence_28 (by decide) (fun z39 ez39 => ?_)
  refine fp_12_40 (k := 387) hx hb hts in_X12_sentence_12 hown hK hP (by decide) (by decide) (hts _ lk_X12_sentence_434) hI hR hS (by omega) dX12_sentence_29 (fun σ40 H40 locs40 u40 v40 hR hP hS => ?_)
  have hF := hF.puts u40 2 rfl (by decide) (by decide) (by decide) (by decide)
  have gSI := SI.put gSI hR u40 (by decide)
  have t41 : (σ40 387 42).toInt = (σ33 387 42).toInt := congrArg Int32.toInt (u40 387 42 (by omega))
  have t42 : (σ40 387 11).toInt = (σ33 387 11).toInt := congrArg Int32.toInt (u40 387 11 (by omega))
  have t43 : (σ40 387 2).toInt = (σ33 387 2).toInt := congrArg Int32.toInt (u40 387 2 (by omega))
  have t44 : (σ40 387 38).toInt = (σ33 387 38).toInt := congrArg Int32.toInt (u40 387 38 (by omega))
  have t45 : (σ40 387 39).toInt = (σ33 387 39).toInt := congrArg Int32.toInt (u40 387 39 (by omega))
  refine lv_aload_n hx hb dX12_sentence_32 rfl (lv_at hl 0 rfl) ?_
  refine r_iconst hx hb dX12_sentence_33 (by decide) (fun z46 ez46 => ?_)
  refine fp_12_41 (k := 387) hx hb hts in_X12_sentence_12 hown hK hP (by decide) (by decide) (hts _ lk_X12_sentence_440) hI hR hS dX12_sentence_34 (fun σ47 H47 locs47 u47 v47 hR hP hS => ?_)
  have hF := hF.puts u47 2 rfl (by decide) (by decide) (by decide) (by decide)
  have gSI := SI.put gSI hR u47 (by decide)
  have t48 : (σ47 387 42).toInt = (σ40 387 42).toInt := congrArg Int32.toInt (u47 387 42 (by omega))
  have t49 : (σ47 387 11).toInt = (σ40 387 11).toInt := congrArg Int32.toInt (u47 387 11 (by omega))
  have t50 : (σ47 387 2).toInt = (σ40 387 2).toInt := congrArg Int32.toInt (u47 387 2 (by omega))
  have t51 : (σ47 387 38).toInt = (σ40 387 38).toInt := congrArg Int32.toInt (u47 387 38 (by omega))
  have t52 : (σ47 387 39).toInt = (σ40 387 39).toInt := congrArg Int32.toInt (u47 387 39 (by omega))
  have t53 : (σ47 387 40).toInt = (σ40 387 40).toInt := congrArg Int32.toInt (u47 387 40 (by omega))
  refine lv_aload_n hx hb dX12_sentence_37 rfl (lv_at hl 0 rfl) ?_
  refine r_iconst hx hb dX12_sentence_38 (by decide) (fun z54 ez54 => ?_)
  refine fp_12_42 (k := 387) hx hb hts in_X12_sentence_12 hown hK hP (by decide) (by decide) (hts _ lk_X12_sentence_449) hI hR hS (by omega) dX12_sentence_39 (fun σ55 H55 locs55 u55 v55 hR hP hS => ?_)
  have hF := hF.puts u55 2 rfl (by decide) (by decide) (by decide) (by decide)
  have gSI := SI.put gSI hR u55 (by decide)
  have t56 : (σ55 387 11).toInt = (σ47 387 11).toInt := congrArg Int32.toInt (u55 387 11 (by omega))
  have t57 : (σ55 387 2).toInt = (σ47 387 2).toInt := congrArg Int32.toInt (u55 387 2 (by omega))
  have t58 : (σ55 387 38).toInt = (σ47 387 38).toInt := congrArg Int32.toInt (u55 387 38 (by omega))
  have t59 : (σ55 387 39).toInt = (σ47 387 39).toInt := congrArg Int32.toInt (u55 387 39 (by omega))
  have t60 : (σ55 387 40).toInt = (σ47 387 40).toInt := congrArg Int32.toInt (u55 387 40 (by omega))
  have gPV := PV.start (σ := σ55) (by omega) (by omega) (by omega)
  refine lv_aload_n hx hb dX12_sentence_42 rfl (lv_at hl 0 rfl) ?_
  refine r_cVv (k := 387) (As := []) (rest := []) ⟨hx, hb, hml, hown, hts⟩ hK hP hN hS (c_X12_next l D cA ad hI σ55 τ0 hR) (cwV 0 hts gX12_sentence_X12_next rfl rfl rfl (by decide +kernel) ⟨by decide, by decide⟩) (rv_M hK hP (by decide) (by decide)) rfl hl.1 rfl (Nat.le_of_ble_eq_true rfl) dX12_sentence_43 (Nat.zero_le _) (Nat.zero_le _) (fun u61 H61 locs61 hp61 hP hS => ?_)
  obtain ⟨σ61, τ61⟩ := u61
  obtain ⟨hR, f61, fL61, hp61_0, hp61_1, hp61_2⟩ : P_X12_next σ55 τ0 σ61 τ61 := hp61
  have hP : va_P D vwCl (gw cA ad σ61 τ61) H61 := hP
  have hFL := hFL.step fL61 (by decide)
  have hF := hF.step f61 (by decide)
  have gPV := PV.fr gPV hR f61 (by decide)
  have gSI := SI.fr gSI hR f61 (by decide)
  have t62 : (σ61 387 2).toInt = (σ55 387 2).toInt := congrArg Int32.toInt (f61.at 387 2 (by decide))
  have t63 : (σ61 387 38).toInt = (σ55 387 38).toInt := congrArg Int32.toInt (f61.at 387 38 (by decide))
  have t64 : (σ61 387 39).toInt = (σ55 387 39).toInt := congrArg Int32.toInt (f61.at 387 39 (by decide))
  have t65 : (σ61 387 40).toInt = (σ55 387 40).toInt := congrArg Int32.toInt (f61.at 387 40 (by decide))
  have t66 : (σ61 387 42).toInt = (σ55 387 42).toInt := congrArg Int32.toInt (f61.at 387 42 (by decide))
  refine r_iconst hx hb dX12_sentence_46 (by decide) (fun z67 ez67 => ?_)
  refine lv_istore_n (lv' := [(1, .int z67), (0, .ref (ad 387))]) hx hb dX12_sentence_47 rfl hl (by decide) rfl (fun ls hl => ?_)
  have gPV : PV σ61 := by first | exact gPV | exact pvo.resolve_left (by omega)
  exact K48 σ61 τ61 H61 locs61 z67 ls hR hF hFL hP hS (by omega) (by omega) (by omega) (by omega) (by omega) (by omega) (by omega) gSI gPV (lv_sub hl [1, 0] rfl) (by omega)
theorem in_X12_hasHeard_12 : ∀ w ∈ u_ws RX12 TX12 47, w ∈ wsX12_hasHeard := by decide +kernel
theorem lk_X12_hasHeard_33 : Cond.fieldLink RX12 33 "CuckooSharesModel" "s" "[I" ∈ wsX12_hasHeard := by decide +kernel
abbrev L_X12_hasHeard : List Rc := [(394, 394, 0, 7), (395, 395, 0, 7), (396, 396, 0, 7)]
abbrev LL_X12_hasHeard : List Rc := []
def P_X12_hasHeard (σ0 : Nat → Nat → Int32) (τ0 : Nat → Nat → Int64) (a1 : Int32) (r : Int32) (σ : Nat → Nat → Int32) (τ : Nat → Nat → Int64) : Prop := Rg σ ∧ Fr L_X12_hasHeard σ0 σ ∧ FrL LL_X12_hasHeard τ0 τ ∧ (0 ≤ r.toInt ∧ r.toInt ≤ 1)
def J_X12_hasHeard_11 (p : Program) (l : Launch) (e : Env) (s : State) (m : MethodId) (args : Array Value) (below : List Frame) (meth : Method) (c : Code) (D : va_G) (cA : Nat → ClassId) (ad : Nat → Nat) (σ0 : Nat → Nat → Int32) (τ0 : Nat → Nat → Int64) (a1 : Int32) (n : Nat) : Prop := ∀ (σ : Nat → Nat → Int32) (τ : Nat → Nat → Int64) (H : Heap) (locs : List Loc) (x2 : Int32) (x3 : Int32) (ls : Array Slot), Rg σ → Fr L_X12_hasHeard σ0 σ → FrL LL_X12_hasHeard τ0 τ → va_P D vwCl (gw cA ad σ τ) H → va_S (AA ad) s.heap H locs → (0 ≤ x2.toInt ∧ x2.toInt ≤ 10) → (0 ≤ x3.toInt ∧ x3.toInt ≤ 10) → lv_has ls 4 [(0, .ref (ad 387)), (1, .int a1), (2, .int x2), (3, .int x3)] → 2 * (10 - x3.toInt) + 1 < (n : Int) → W p l e ({ frames := 3, cells := 0, slots := 0, locals := 69 } : Room) s m args below meth c H locs 0 0 (MQ below (va_Qi (fun (r : Int32) (u : SS) => P_X12_hasHeard σ0 τ0 a1 r u.1 u.2) (WB D cA ad) (AA ad)) args s 0 0 (AA ad)) (F0 m 11 ls [])
set_option maxHeartbeats 4000000 in
theorem B_X12_hasHeard_11 (p : Program) (l : Launch) (e : Env) (s : State) (m : MethodId) (args : Array Value) (below : List Frame) (meth : Method) (c : Code) (D : va_G) (cA : Nat → ClassId) (ad : Nat → Nat) (σ0 : Nat → Nat → Int32) (τ0 : Nat → Nat → Int64) (a1 : Int32) (n : Nat) (C : Cy p s m args meth c cX12_hasHeard 4 wsX12_hasHeard RX12 D cA ad (some .boolean)) (ha1 : 0 ≤ a1.toInt ∧ a1.toInt ≤ 7) (K11 : J_X12_hasHeard_11 p l e s m args below meth c D cA ad σ0 τ0 a1 n) : J_X12_hasHeard_11 p l e s m args below meth c D cA ad σ0 τ0 a1 (n + 1) := by
  obtain ⟨hx, hb, hml, hown, hts, hK, hk, hr, hI, hN⟩ := C
  intro σ τ H locs x2 x3 ls hR hF hFL hP hS hc0 hc1 hl hm
  obtain rfl := FrL.nil hFL
  refine lv_iload_n hx hb dX12_hasHeard_11 rfl (lv_at hl 3 rfl) ?_
  refine lv_iload_n hx hb dX12_hasHeard_12 rfl (lv_at hl 2 rfl) ?_
  refine r_icmp_ge (tgt := 43) hx hb dX12_hasHeard_13 (by decide) (fun c1 => ?_) (fun c1 => ?_)
  · refine r_iconst hx hb dX12_hasHeard_43 (by decide) (fun z2 ez2 => ?_)
    exact r_zret hx hb hr hK hP hS hk (by omega) dX12_hasHeard_44 (show P_X12_hasHeard σ0 τ0 a1 z2 σ τ0 from ⟨hR, hF, hFL, by omega⟩)
  · refine lv_aload_n hx hb dX12_hasHeard_16 rfl (lv_at hl 0 rfl) ?_
    refine lv_iload_n hx hb dX12_hasHeard_17 rfl (lv_at hl 1 rfl) ?_
    refine lv_aload_n hx hb dX12_hasHeard_18 rfl (lv_at hl 0 rfl) ?_
    refine fg_12_6 (k := 387) hx hb hts in_X12_hasHeard_12 hown hK hP (by decide) (by decide) (hts _ lk_X12_hasHeard_33) dX12_hasHeard_19 ?_
    refine r_sipush hx hb dX12_hasHeard_22 (by decide) (fun z3 ez3 => ?_)
    refine ad_ms (k := 389) (j := 212) hx hb hK hP (by decide) (by decide) (by omega) (by omega) dX12_hasHeard_25 ?_
    have hr4 := ra_ms_5 hR (k := 389) (j := 212) (by decide) (by decide) (by decide) (by decide)
    refine r_iconst hx hb dX12_hasHeard_26 (by decide) (fun z5 ez5 => ?_)
    refine r_isub hx hb dX12_hasHeard_27 (by omega) (fun z6 ez6 => ?_)
    refine lv_iload_n hx hb dX12_hasHeard_28 rfl (lv_at hl 3 rfl) ?_
    refine r_cVi (k := 387) (As := [.int a1, .int z6, .int x3]) (rest := []) ⟨hx, hb, hml, hown, hts⟩ hK hP hN hS (c_X12_canHear l D cA ad hI σ τ0 hR a1 z6 x3 (by omega) (by omega) (by omega)) (cwV 3 hts gX12_hasHeard_X12_canHear rfl rfl rfl (by decide +kernel) ⟨by decide, by decide⟩) (rv_M hK hP (by decide) (by decide)) rfl hl.1 rfl (Nat.le_of_ble_eq_true rfl) dX12_hasHeard_29 (Nat.zero_le _) (Nat.zero_le _) (fun r7 u7 H7 locs7 hp7 hP hS => ?_)
    obtain ⟨σ7, τ7⟩ := u7
    obtain ⟨hR, f7, fL7, hq7⟩ : P_X12_canHear σ τ0 a1 z6 x3 r7 σ7 τ7 := hp7
    have hP : va_P D vwCl (gw cA ad σ7 τ7) H7 := hP
    obtain rfl := FrL.nil fL7
    obtain rfl := Fr.nil f7
    refine r_if_eq (tgt := 37) hx hb dX12_hasHeard_32 (by decide) (fun c8 => ?_) (fun c8 => ?_)
    · refine r_iinc (k := 3) (lv1 := fun z9 => [(3, .int z9), (0, .ref (ad 387)), (1, .int a1), (2, .int x2)]) hx hb dX12_hasHeard_37 hl rfl (by decide) (fun _ => rfl) (by decide) (by omega) (fun z9 ls ez9 hl => ?_)
      refine lv_goto (tgt := 11) hx hb dX12_hasHeard_40 (by decide) ?_
      exact K11 σ τ0 H7 locs7 x2 z9 ls hR hF hFL hP hS (by omega) (by omega) (lv_sub hl [1, 2, 3, 0] rfl) (by omega)
    · refine r_iconst hx hb dX12_hasHeard_35 (by decide) (fun z10 ez10 => ?_)
      exact r_zret hx hb hr hK hP hS hk (by omega) dX12_hasHeard_36 (show P_X12_hasHeard σ0 τ0 a1 z10 σ τ0 from ⟨hR, hF, hFL, by omega⟩)
theorem A_X12_hasHeard (p : Program) (l : Launch) (e : Env) (s : State) (m : MethodId) (args : Array Value) (below : List Frame) (meth : Method) (c : Code) (D : va_G) (cA : Nat → ClassId) (ad : Nat → Nat) (σ0 : Nat → Nat → Int32) (τ0 : Nat → Nat → Int64) (a1 : Int32) (C : Cy p s m args meth c cX12_hasHeard 4 wsX12_hasHeard RX12 D cA ad (some .boolean)) (ha1 : 0 ≤ a1.toInt ∧ a1.toInt ≤ 7) : ∀ n : Nat, J_X12_hasHeard_11 p l e s m args below meth c D cA ad σ0 τ0 a1 n := by
  intro n
  induction n with
  | zero =>
    exact (by intro σ τ H locs x2 x3 ls hR hF hFL hP hS hc0 hc1 hl hm; exfalso; omega)
  | succ n ih =>
    exact B_X12_hasHeard_11 p l e s m args below meth c D cA ad σ0 τ0 a1 n C ha1 ih
set_option maxHeartbeats 4000000 in
theorem c_X12_hasHeard (l : Launch) (D : va_G) (cA : Nat → ClassId) (ad : Nat → Nat) (hI : Inj ad) (σ0 : Nat → Nat → Int32) (τ0 : Nat → Nat → Int64) (hR : Rg σ0) (a1 : Int32) (ha1 : 0 ≤ a1.toInt ∧ a1.toInt ≤ 7) : Met l yX12_hasHeard wsX12_hasHeard ({ frames := 3, cells := 0, slots := 0, locals := 69 } : Room) (WQc D cA ad [.ref (ad 387), .int a1] σ0 τ0) (va_Qi (fun (r : Int32) (u : SS) => P_X12_hasHeard σ0 τ0 a1 r u.1 u.2) (WB D cA ad) (AA ad)) 0 0 (AA ad) := by
  refine Met.ofW (cc := cX12_hasHeard) (maxL := 4) (ret := (some .boolean)) (by decide) rfl ?_
  intro p e s m args below meth c s₁ B hml hv
  obtain ⟨rfl, hP, hK, hN⟩ := hv
  have C : Cy p s m _ meth c cX12_hasHeard 4 wsX12_hasHeard RX12 D cA ad (some .boolean) := ⟨B.exec, B.bytes, hml, findClass_of_methodNamed B.named, atoms_spec (ws := wsX12_hasHeard) B.pre, hK, B.notSynchronized, B.returns, hI, hN⟩
  have hl := lv_entry ([.ref (ad 387), .int a1]) (n := 4) (Nat.le_of_ble_eq_true rfl)
  rw [lg_entry_eq]
  generalize (lg_sl ([.ref (ad 387), .int a1]) ++ List.replicate (4 - (lg_sl ([.ref (ad 387), .int a1])).length) Slot.unset).toArray = ls at hl ⊢
  have hl : lv_has ls 4 [(0, .ref (ad 387)), (1, .int a1)] := hl
  have hS : va_S (AA ad) s.heap s.heap [] := va_S.rf
  have hF : Fr L_X12_hasHeard σ0 σ0 := Fr.rf
  have hFL : FrL LL_X12_hasHeard τ0 τ0 := FrL.rf
  have hA := A_X12_hasHeard p l e s m _ below meth c D cA ad σ0 τ0 a1 C ha1 50
  have K11 := hA
  clear hA
  obtain ⟨hx, hb, _, hown, hts, _, hk, hr, _, _⟩ := C
  refine lv_aload_n hx hb dX12_hasHeard_0 rfl (lv_at hl 0 rfl) ?_
  refine r_cVv (k := 387) (As := []) (rest := []) ⟨hx, hb, hml, hown, hts⟩ hK hP hN hS (c_X12_asNow l D cA ad hI σ0 τ0 hR) (cwV 0 hts gX12_hasHeard_X12_asNow rfl rfl rfl (by decide +kernel) ⟨by decide, by decide⟩) (rv_M hK hP (by decide) (by decide)) rfl hl.1 rfl (Nat.le_of_ble_eq_true rfl) dX12_hasHeard_1 (Nat.zero_le _) (Nat.zero_le _) (fun u1 H1 locs1 hp1 hP hS => ?_)
  obtain ⟨σ1, τ1⟩ := u1
  obtain ⟨hR, f1, fL1⟩ : P_X12_asNow σ0 τ0 σ1 τ1 := hp1
  have hP : va_P D vwCl (gw cA ad σ1 τ1) H1 := hP
  obtain rfl := FrL.nil fL1
  have hF := hF.step f1 (by decide)
  refine lv_aload_n hx hb dX12_hasHeard_4 rfl (lv_at hl 0 rfl) ?_
  refine r_cVi (k := 387) (As := []) (rest := []) ⟨hx, hb, hml, hown, hts⟩ hK hP hN hS (c_X12_pastOf l D cA ad hI σ1 τ0 hR) (cwV 0 hts gX12_hasHeard_X12_pastOf rfl rfl rfl (by decide +kernel) ⟨by decide, by decide⟩) (rv_M hK hP (by decide) (by decide)) rfl hl.1 rfl (Nat.le_of_ble_eq_true rfl) dX12_hasHeard_5 (Nat.zero_le _) (Nat.zero_le _) (fun r2 u2 H2 locs2 hp2 hP hS => ?_)
  obtain ⟨σ2, τ2⟩ := u2
  obtain ⟨hR, f2, fL2, hq2⟩ : P_X12_pastOf σ1 τ0 r2 σ2 τ2 := hp2
  have hP : va_P D vwCl (gw cA ad σ2 τ2) H2 := hP
  obtain rfl := FrL.nil fL2
  obtain rfl := Fr.nil f2
  refine lv_istore_n (lv' := [(2, .int r2), (0, .ref (ad 387)), (1, .int a1)]) hx hb dX12_hasHeard_8 rfl hl (by decide) rfl (fun ls hl => ?_)
  refine r_iconst hx hb dX12_hasHeard_9 (by decide) (fun z3 ez3 => ?_)
  refine lv_istore_n (lv' := [(3, .int z3), (2, .int r2), (0, .ref (ad 387)), (1, .int a1)]) hx hb dX12_hasHeard_10 rfl hl (by decide) rfl (fun ls hl => ?_)
  exact K11 σ1 τ0 H2 locs2 r2 z3 ls hR hF hFL hP hS (by omega) (by omega) (lv_sub hl [2, 3, 1, 0] rfl) (by omega)
theorem in_X12_isLeaf_12 : ∀ w ∈ u_ws RX12 TX12 47, w ∈ wsX12_isLeaf := by decide +kernel
theorem lk_X12_isLeaf_33 : Cond.fieldLink RX12 33 "CuckooSharesModel" "s" "[I" ∈ wsX12_isLeaf := by decide +kernel
abbrev L_X12_isLeaf : List Rc := [(394, 394, 0, 7), (395, 395, 0, 7), (396, 396, 0, 7)]
abbrev LL_X12_isLeaf : List Rc := []
def P_X12_isLeaf (σ0 : Nat → Nat → Int32) (τ0 : Nat → Nat → Int64) (a1 : Int32) (a2 : Int32) (a3 : Int32) (a4 : Int32) (r : Int32) (σ : Nat → Nat → Int32) (τ : Nat → Nat → Int64) : Prop := Rg σ ∧ Fr L_X12_isLeaf σ0 σ ∧ FrL LL_X12_isLeaf τ0 τ ∧ (0 ≤ r.toInt ∧ r.toInt ≤ 1)
def J_X12_isLeaf_207 (p : Program) (l : Launch) (e : Env) (s : State) (m : MethodId) (args : Array Value) (below : List Frame) (meth : Method) (c : Code) (D : va_G) (cA : Nat → ClassId) (ad : Nat → Nat) (σ0 : Nat → Nat → Int32) (τ0 : Nat → Nat → Int64) (a1 : Int32) (a2 : Int32) (a3 : Int32) (a4 : Int32) (n : Nat) : Prop := ∀ (σ : Nat → Nat → Int32) (τ : Nat → Nat → Int64) (H : Heap) (locs : List Loc) (w0 : Int32) (ls : Array Slot), Rg σ → Fr L_X12_isLeaf σ0 σ → FrL LL_X12_isLeaf τ0 τ → va_P D vwCl (gw cA ad σ τ) H → va_S (AA ad) s.heap H locs → lv_has ls 6 [(0, .ref (ad 387)), (1, .int a1), (2, .int a2), (3, .int a3), (4, .int a4)] → 1 < (n : Int) → W p l e ({ frames := 4, cells := 0, slots := 0, locals := 92 } : Room) s m args below meth c H locs 0 0 (MQ below (va_Qi (fun (r : Int32) (u : SS) => P_X12_isLeaf σ0 τ0 a1 a2 a3 a4 r u.1 u.2) (WB D cA ad) (AA ad)) args s 0 0 (AA ad)) (F0 m 207 ls [.int w0])
set_option maxHeartbeats 4000000 in
theorem B_X12_isLeaf_207 (p : Program) (l : Launch) (e : Env) (s : State) (m : MethodId) (args : Array Value) (below : List Frame) (meth : Method) (c : Code) (D : va_G) (cA : Nat → ClassId) (ad : Nat → Nat) (σ0 : Nat → Nat → Int32) (τ0 : Nat → Nat → Int64) (a1 : Int32) (a2 : Int32) (a3 : Int32) (a4 : Int32) (n : Nat) (C : Cy p s m args meth c cX12_isLeaf 6 wsX12_isLeaf RX12 D cA ad (some .boolean)) (ha1 : 0 ≤ a1.toInt ∧ a1.toInt ≤ 7) (K207 : J_X12_isLeaf_207 p l e s m args below meth c D cA ad σ0 τ0 a1 a2 a3 a4 n) : J_X12_isLeaf_207 p l e s m args below meth c D cA ad σ0 τ0 a1 a2 a3 a4 (n + 1) := by
  obtain ⟨hx, hb, hml, hown, hts, hK, hk, hr, hI, hN⟩ := C
  intro σ τ H locs w0 ls hR hF hFL hP hS hl hm
  obtain rfl := FrL.nil hFL
  refine lv_istore (lv' := [(5, .int w0), (0, .ref (ad 387)), (1, .int a1), (2, .int a2), (3, .int a3), (4, .int a4)]) hx hb dX12_isLeaf_207 hl (by decide) rfl (fun ls hl => ?_)
  refine lv_iload_n hx hb dX12_isLeaf_209 rfl (lv_at hl 4 rfl) ?_
  refine r_bipush hx hb dX12_isLeaf_210 (by decide) (fun z1 ez1 => ?_)
  refine r_icmp_ne (tgt := 230) hx hb dX12_isLeaf_212 (by decide) (fun c2 => ?_) (fun c2 => ?_)
  · refine lv_iload_n hx hb dX12_isLeaf_230 rfl (lv_at hl 4 rfl) ?_
    refine r_bipush hx hb dX12_isLeaf_231 (by decide) (fun z3 ez3 => ?_)
    refine r_icmp_ne (tgt := 251) hx hb dX12_isLeaf_233 (by decide) (fun c4 => ?_) (fun c4 => ?_)
    · refine lv_iload hx hb dX12_isLeaf_251 (lv_at hl 0 rfl) ?_
      refine lv_iload hx hb dX12_isLeaf_253 (lv_at hl 5 rfl) ?_
      refine r_icmp_le (tgt := 262) hx hb dX12_isLeaf_255 (by decide) (fun c5 => ?_) (fun c5 => ?_)
      · refine r_iconst hx hb dX12_isLeaf_262 (by decide) (fun z6 ez6 => ?_)
        exact r_zret hx hb hr hK hP hS hk (by omega) dX12_isLeaf_263 (show P_X12_isLeaf σ0 τ0 a1 a2 a3 a4 z6 σ τ0 from ⟨hR, hF, hFL, by omega⟩)
      · refine r_iconst hx hb dX12_isLeaf_258 (by decide) (fun z7 ez7 => ?_)
        refine lv_goto (tgt := 263) hx hb dX12_isLeaf_259 (by decide) ?_
        exact r_zret hx hb hr hK hP hS hk (by omega) dX12_isLeaf_263 (show P_X12_isLeaf σ0 τ0 a1 a2 a3 a4 z7 σ τ0 from ⟨hR, hF, hFL, by omega⟩)
    · refine lv_iload hx hb dX12_isLeaf_236 (lv_at hl 0 rfl) ?_
      refine lv_iload hx hb dX12_isLeaf_238 (lv_at hl 5 rfl) ?_
      refine r_icmp_ne (tgt := 247) hx hb dX12_isLeaf_240 (by decide) (fun c8 => ?_) (fun c8 => ?_)
      · refine r_iconst hx hb dX12_isLeaf_247 (by decide) (fun z9 ez9 => ?_)
        refine lv_goto (tgt := 263) hx hb dX12_isLeaf_248 (by decide) ?_
        exact r_zret hx hb hr hK hP hS hk (by omega) dX12_isLeaf_263 (show P_X12_isLeaf σ0 τ0 a1 a2 a3 a4 z9 σ τ0 from ⟨hR, hF, hFL, by omega⟩)
      · refine r_iconst hx hb dX12_isLeaf_243 (by decide) (fun z10 ez10 => ?_)
        refine lv_goto (tgt := 263) hx hb dX12_isLeaf_244 (by decide) ?_
        exact r_zret hx hb hr hK hP hS hk (by omega) dX12_isLeaf_263 (show P_X12_isLeaf σ0 τ0 a1 a2 a3 a4 z10 σ τ0 from ⟨hR, hF, hFL, by omega⟩)
  · refine lv_iload hx hb dX12_isLeaf_215 (lv_at hl 0 rfl) ?_
    refine lv_iload hx hb dX12_isLeaf_217 (lv_at hl 5 rfl) ?_
    refine r_icmp_ge (tgt := 226) hx hb dX12_isLeaf_219 (by decide) (fun c11 => ?_) (fun c11 => ?_)
    · refine r_iconst hx hb dX12_isLeaf_226 (by decide) (fun z12 ez12 => ?_)
      refine lv_goto (tgt := 263) hx hb dX12_isLeaf_227 (by decide) ?_
      exact r_zret hx hb hr hK hP hS hk (by omega) dX12_isLeaf_263 (show P_X12_isLeaf σ0 τ0 a1 a2 a3 a4 z12 σ τ0 from ⟨hR, hF, hFL, by omega⟩)
    · refine r_iconst hx hb dX12_isLeaf_222 (by decide) (fun z13 ez13 => ?_)
      refine lv_goto (tgt := 263) hx hb dX12_isLeaf_223 (by decide) ?_
      exact r_zret hx hb hr hK hP hS hk (by omega) dX12_isLeaf_263 (show P_X12_isLeaf σ0 τ0 a1 a2 a3 a4 z13 σ τ0 from ⟨hR, hF, hFL, by omega⟩)
theorem A_X12_isLeaf (p : Program) (l : Launch) (e : Env) (s : State) (m : MethodId) (args : Array Value) (below : List Frame) (meth : Method) (c : Code) (D : va_G) (cA : Nat → ClassId) (ad : Nat → Nat) (σ0 : Nat → Nat → Int32) (τ0 : Nat → Nat → Int64) (a1 : Int32) (a2 : Int32) (a3 : Int32) (a4 : Int32) (C : Cy p s m args meth c cX12_isLeaf 6 wsX12_isLeaf RX12 D cA ad (some .boolean)) (ha1 : 0 ≤ a1.toInt ∧ a1.toInt ≤ 7) : ∀ n : Nat, J_X12_isLeaf_207 p l e s m args below meth c D cA ad σ0 τ0 a1 a2 a3 a4 n := by
  intro n
  induction n with
  | zero =>
    exact (by intro σ τ H locs w0 ls hR hF hFL hP hS hl hm; exfalso; omega)
  | succ n ih =>
    exact B_X12_isLeaf_207 p l e s m args below meth c D cA ad σ0 τ0 a1 a2 a3 a4 n C ha1 ih
set_option maxHeartbeats 4000000 in
theorem c_X12_isLeaf (l : Launch) (D : va_G) (cA : Nat → ClassId) (ad : Nat → Nat) (hI : Inj ad) (σ0 : Nat → Nat → Int32) (τ0 : Nat → Nat → Int64) (hR : Rg σ0) (a1 : Int32) (a2 : Int32) (a3 : Int32) (a4 : Int32) (ha1 : 0 ≤ a1.toInt ∧ a1.toInt ≤ 7) : Met l yX12_isLeaf wsX12_isLeaf ({ frames := 4, cells := 0, slots := 0, locals := 92 } : Room) (WQc D cA ad [.ref (ad 387), .int a1, .int a2, .int a3, .int a4] σ0 τ0) (va_Qi (fun (r : Int32) (u : SS) => P_X12_isLeaf σ0 τ0 a1 a2 a3 a4 r u.1 u.2) (WB D cA ad) (AA ad)) 0 0 (AA ad) := by
  refine Met.ofW (cc := cX12_isLeaf) (maxL := 6) (ret := (some .boolean)) (by decide) rfl ?_
  intro p e s m args below meth c s₁ B hml hv
  obtain ⟨rfl, hP, hK, hN⟩ := hv
  have C : Cy p s m _ meth c cX12_isLeaf 6 wsX12_isLeaf RX12 D cA ad (some .boolean) := ⟨B.exec, B.bytes, hml, findClass_of_methodNamed B.named, atoms_spec (ws := wsX12_isLeaf) B.pre, hK, B.notSynchronized, B.returns, hI, hN⟩
  have hl := lv_entry ([.ref (ad 387), .int a1, .int a2, .int a3, .int a4]) (n := 6) (Nat.le_of_ble_eq_true rfl)
  rw [lg_entry_eq]
  generalize (lg_sl ([.ref (ad 387), .int a1, .int a2, .int a3, .int a4]) ++ List.replicate (6 - (lg_sl ([.ref (ad 387), .int a1, .int a2, .int a3, .int a4])).length) Slot.unset).toArray = ls at hl ⊢
  have hl : lv_has ls 6 [(0, .ref (ad 387)), (1, .int a1), (2, .int a2), (3, .int a3), (4, .int a4)] := hl
  have hS : va_S (AA ad) s.heap s.heap [] := va_S.rf
  have hF : Fr L_X12_isLeaf σ0 σ0 := Fr.rf
  have hFL : FrL LL_X12_isLeaf τ0 τ0 := FrL.rf
  have hA := A_X12_isLeaf p l e s m _ below meth c D cA ad σ0 τ0 a1 a2 a3 a4 C ha1 6
  have K207 := hA
  clear hA
  obtain ⟨hx, hb, _, hown, hts, _, hk, hr, _, _⟩ := C
  refine lv_iload_n hx hb dX12_isLeaf_0 rfl (lv_at hl 2 rfl) ?_
  by_cases c1 : a2.toInt = 0
  · refine lv_tableIn (off := 39) (tgt := 40) hx hb dX12_isLeaf_1 (by omega) (by omega) (by rw [c1]; rfl) (by decide) ?_
    refine lv_aload_n hx hb dX12_isLeaf_40 rfl (lv_at hl 0 rfl) ?_
    refine fg_12_6 (k := 387) hx hb hts in_X12_isLeaf_12 hown hK hP (by decide) (by decide) (hts _ lk_X12_isLeaf_33) dX12_isLeaf_41 ?_
    refine r_bipush hx hb dX12_isLeaf_44 (by decide) (fun z2 ez2 => ?_)
    refine lv_iload_n hx hb dX12_isLeaf_46 rfl (lv_at hl 1 rfl) ?_
    refine r_iadd hx hb dX12_isLeaf_47 (by omega) (fun z3 ez3 => ?_)
    obtain ⟨j4, ej4⟩ : ∃ j : Nat, z3.toInt = (j : Int) := ⟨_, ti_nat (by omega)⟩
    refine ad_ms (k := 389) (j := j4) hx hb hK hP (by decide) (by decide) ej4 (by omega) dX12_isLeaf_48 ?_
    refine r_iconst hx hb dX12_isLeaf_49 (by decide) (fun z5 ez5 => ?_)
    refine r_icmp_ne (tgt := 57) hx hb dX12_isLeaf_50 (by decide) (fun c6 => ?_) (fun c6 => ?_)
    · refine r_iconst hx hb dX12_isLeaf_57 (by decide) (fun z7 ez7 => ?_)
      exact r_zret hx hb hr hK hP hS hk (by omega) dX12_isLeaf_58 (show P_X12_isLeaf σ0 τ0 a1 a2 a3 a4 z7 σ0 τ0 from ⟨hR, hF, hFL, by omega⟩)
    · refine r_iconst hx hb dX12_isLeaf_53 (by decide) (fun z8 ez8 => ?_)
      refine lv_goto (tgt := 58) hx hb dX12_isLeaf_54 (by decide) ?_
      exact r_zret hx hb hr hK hP hS hk (by omega) dX12_isLeaf_58 (show P_X12_isLeaf σ0 τ0 a1 a2 a3 a4 z8 σ0 τ0 from ⟨hR, hF, hFL, by omega⟩)
  by_cases c9 : a2.toInt = 1
  · refine lv_tableIn (off := 58) (tgt := 59) hx hb dX12_isLeaf_1 (by omega) (by omega) (by rw [c9]; rfl) (by decide) ?_
    refine lv_aload_n hx hb dX12_isLeaf_59 rfl (lv_at hl 0 rfl) ?_
    refine fg_12_6 (k := 387) hx hb hts in_X12_isLeaf_12 hown hK hP (by decide) (by decide) (hts _ lk_X12_isLeaf_33) dX12_isLeaf_60 ?_
    refine r_bipush hx hb dX12_isLeaf_63 (by decide) (fun z10 ez10 => ?_)
    refine lv_iload_n hx hb dX12_isLeaf_65 rfl (lv_at hl 1 rfl) ?_
    refine r_iadd hx hb dX12_isLeaf_66 (by omega) (fun z11 ez11 => ?_)
    obtain ⟨j12, ej12⟩ : ∃ j : Nat, z11.toInt = (j : Int) := ⟨_, ti_nat (by omega)⟩
    refine ad_ms (k := 389) (j := j12) hx hb hK hP (by decide) (by decide) ej12 (by omega) dX12_isLeaf_67 ?_
    have hr13 := ra_ms_3 hR (k := 389) (j := j12) (by decide) (by decide) (by omega) (by omega)
    refine r_if_le (tgt := 75) hx hb dX12_isLeaf_68 (by decide) (fun c14 => ?_) (fun c14 => ?_)
    · refine r_iconst hx hb dX12_isLeaf_75 (by decide) (fun z15 ez15 => ?_)
      exact r_zret hx hb hr hK hP hS hk (by omega) dX12_isLeaf_76 (show P_X12_isLeaf σ0 τ0 a1 a2 a3 a4 z15 σ0 τ0 from ⟨hR, hF, hFL, by omega⟩)
    · refine r_iconst hx hb dX12_isLeaf_71 (by decide) (fun z16 ez16 => ?_)
      refine lv_goto (tgt := 76) hx hb dX12_isLeaf_72 (by decide) ?_
      exact r_zret hx hb hr hK hP hS hk (by omega) dX12_isLeaf_76 (show P_X12_isLeaf σ0 τ0 a1 a2 a3 a4 z16 σ0 τ0 from ⟨hR, hF, hFL, by omega⟩)
  by_cases c17 : a2.toInt = 2
  · refine lv_tableIn (off := 76) (tgt := 77) hx hb dX12_isLeaf_1 (by omega) (by omega) (by rw [c17]; rfl) (by decide) ?_
    refine lv_aload_n hx hb dX12_isLeaf_77 rfl (lv_at hl 0 rfl) ?_
    refine fg_12_6 (k := 387) hx hb hts in_X12_isLeaf_12 hown hK hP (by decide) (by decide) (hts _ lk_X12_isLeaf_33) dX12_isLeaf_78 ?_
    refine r_sipush hx hb dX12_isLeaf_81 (by decide) (fun z18 ez18 => ?_)
    refine lv_iload_n hx hb dX12_isLeaf_84 rfl (lv_at hl 1 rfl) ?_
    refine r_iadd hx hb dX12_isLeaf_85 (by omega) (fun z19 ez19 => ?_)
    obtain ⟨j20, ej20⟩ : ∃ j : Nat, z19.toInt = (j : Int) := ⟨_, ti_nat (by omega)⟩
    refine ad_ms (k := 389) (j := j20) hx hb hK hP (by decide) (by decide) ej20 (by omega) dX12_isLeaf_86 ?_
    have hr21 := ra_ms_7 hR (k := 389) (j := j20) (by decide) (by decide) (by omega) (by omega)
    refine r_if_le (tgt := 94) hx hb dX12_isLeaf_87 (by decide) (fun c22 => ?_) (fun c22 => ?_)
    · refine r_iconst hx hb dX12_isLeaf_94 (by decide) (fun z23 ez23 => ?_)
      exact r_zret hx hb hr hK hP hS hk (by omega) dX12_isLeaf_95 (show P_X12_isLeaf σ0 τ0 a1 a2 a3 a4 z23 σ0 τ0 from ⟨hR, hF, hFL, by omega⟩)
    · refine r_iconst hx hb dX12_isLeaf_90 (by decide) (fun z24 ez24 => ?_)
      refine lv_goto (tgt := 95) hx hb dX12_isLeaf_91 (by decide) ?_
      exact r_zret hx hb hr hK hP hS hk (by omega) dX12_isLeaf_95 (show P_X12_isLeaf σ0 τ0 a1 a2 a3 a4 z24 σ0 τ0 from ⟨hR, hF, hFL, by omega⟩)
  by_cases c25 : a2.toInt = 3
  · refine lv_tableIn (off := 95) (tgt := 96) hx hb dX12_isLeaf_1 (by omega) (by omega) (by rw [c25]; rfl) (by decide) ?_
    refine lv_aload_n hx hb dX12_isLeaf_96 rfl (lv_at hl 0 rfl) ?_
    refine fg_12_6 (k := 387) hx hb hts in_X12_isLeaf_12 hown hK hP (by decide) (by decide) (hts _ lk_X12_isLeaf_33) dX12_isLeaf_97 ?_
    refine r_sipush hx hb dX12_isLeaf_100 (by decide) (fun z26 ez26 => ?_)
    refine lv_iload_n hx hb dX12_isLeaf_103 rfl (lv_at hl 1 rfl) ?_
    refine r_iadd hx hb dX12_isLeaf_104 (by omega) (fun z27 ez27 => ?_)
    obtain ⟨j28, ej28⟩ : ∃ j : Nat, z27.toInt = (j : Int) := ⟨_, ti_nat (by omega)⟩
    refine ad_ms (k := 389) (j := j28) hx hb hK hP (by decide) (by decide) ej28 (by omega) dX12_isLeaf_105 ?_
    have hr29 := ra_ms_7 hR (k := 389) (j := j28) (by decide) (by decide) (by omega) (by omega)
    refine r_if_le (tgt := 121) hx hb dX12_isLeaf_106 (by decide) (fun c30 => ?_) (fun c30 => ?_)
    · refine r_iconst hx hb dX12_isLeaf_121 (by decide) (fun z31 ez31 => ?_)
      exact r_zret hx hb hr hK hP hS hk (by omega) dX12_isLeaf_122 (show P_X12_isLeaf σ0 τ0 a1 a2 a3 a4 z31 σ0 τ0 from ⟨hR, hF, hFL, by omega⟩)
    · refine lv_aload_n hx hb dX12_isLeaf_109 rfl (lv_at hl 0 rfl) ?_
      refine lv_iload_n hx hb dX12_isLeaf_110 rfl (lv_at hl 1 rfl) ?_
      refine r_cVi (k := 387) (As := [.int a1]) (rest := []) ⟨hx, hb, hml, hown, hts⟩ hK hP hN hS (c_X12_isTrue l D cA ad hI σ0 τ0 hR a1 (by omega)) (cwV 1 hts gX12_isLeaf_X12_isTrue rfl rfl rfl (by decide +kernel) ⟨by decide, by decide⟩) (rv_M hK hP (by decide) (by decide)) rfl hl.1 rfl (Nat.le_of_ble_eq_true rfl) dX12_isLeaf_111 (Nat.zero_le _) (Nat.zero_le _) (fun r32 u32 H32 locs32 hp32 hP hS => ?_)
      obtain ⟨σ32, τ32⟩ := u32
      obtain ⟨hR, f32, fL32, hq32⟩ : P_X12_isTrue σ0 τ0 a1 r32 σ32 τ32 := hp32
      have hP : va_P D vwCl (gw cA ad σ32 τ32) H32 := hP
      obtain rfl := FrL.nil fL32
      have hF := hF.step f32 (by decide)
      refine r_if_ne (tgt := 121) hx hb dX12_isLeaf_114 (by decide) (fun c33 => ?_) (fun c33 => ?_)
      · refine r_iconst hx hb dX12_isLeaf_121 (by decide) (fun z34 ez34 => ?_)
        exact r_zret hx hb hr hK hP hS hk (by omega) dX12_isLeaf_122 (show P_X12_isLeaf σ0 τ0 a1 a2 a3 a4 z34 σ32 τ0 from ⟨hR, hF, hFL, by omega⟩)
      · refine r_iconst hx hb dX12_isLeaf_117 (by decide) (fun z35 ez35 => ?_)
        refine lv_goto (tgt := 122) hx hb dX12_isLeaf_118 (by decide) ?_
        exact r_zret hx hb hr hK hP hS hk (by omega) dX12_isLeaf_122 (show P_X12_isLeaf σ0 τ0 a1 a2 a3 a4 z35 σ32 τ0 from ⟨hR, hF, hFL, by omega⟩)
  by_cases c36 : a2.toInt = 4
  · refine lv_tableIn (off := 122) (tgt := 123) hx hb dX12_isLeaf_1 (by omega) (by omega) (by rw [c36]; rfl) (by decide) ?_
    refine lv_aload_n hx hb dX12_isLeaf_123 rfl (lv_at hl 0 rfl) ?_
    refine lv_iload_n hx hb dX12_isLeaf_124 rfl (lv_at hl 1 rfl) ?_
    refine r_cVi (k := 387) (As := [.int a1]) (rest := []) ⟨hx, hb, hml, hown, hts⟩ hK hP hN hS (c_X12_hasHeard l D cA ad hI σ0 τ0 hR a1 (by omega)) (cwV 1 hts gX12_isLeaf_X12_hasHeard rfl rfl rfl (by decide +kernel) ⟨by decide, by decide⟩) (rv_M hK hP (by decide) (by decide)) rfl hl.1 rfl (Nat.le_of_ble_eq_true rfl) dX12_isLeaf_125 (Nat.zero_le _) (Nat.zero_le _) (fun r37 u37 H37 locs37 hp37 hP hS => ?_)
    obtain ⟨σ37, τ37⟩ := u37
    obtain ⟨hR, f37, fL37, hq37⟩ : P_X12_hasHeard σ0 τ0 a1 r37 σ37 τ37 := hp37
    have hP : va_P D vwCl (gw cA ad σ37 τ37) H37 := hP
    obtain rfl := FrL.nil fL37
    have hF := hF.step f37 (by decide)
    exact r_zret hx hb hr hK hP hS hk (by omega) dX12_isLeaf_128 (show P_X12_isLeaf σ0 τ0 a1 a2 a3 a4 r37 σ37 τ0 from ⟨hR, hF, hFL, by omega⟩)
  by_cases c38 : a2.toInt = 5
  · refine lv_tableIn (off := 128) (tgt := 129) hx hb dX12_isLeaf_1 (by omega) (by omega) (by rw [c38]; rfl) (by decide) ?_
    refine lv_aload_n hx hb dX12_isLeaf_129 rfl (lv_at hl 0 rfl) ?_
    refine fg_12_6 (k := 387) hx hb hts in_X12_isLeaf_12 hown hK hP (by decide) (by decide) (hts _ lk_X12_isLeaf_33) dX12_isLeaf_130 ?_
    refine r_sipush hx hb dX12_isLeaf_133 (by decide) (fun z39 ez39 => ?_)
    refine lv_iload_n hx hb dX12_isLeaf_136 rfl (lv_at hl 1 rfl) ?_
    refine r_iadd hx hb dX12_isLeaf_137 (by omega) (fun z40 ez40 => ?_)
    obtain ⟨j41, ej41⟩ : ∃ j : Nat, z40.toInt = (j : Int) := ⟨_, ti_nat (by omega)⟩
    refine ad_ms (k := 389) (j := j41) hx hb hK hP (by decide) (by decide) ej41 (by omega) dX12_isLeaf_138 ?_
    have hr42 := ra_ms_6 hR (k := 389) (j := j41) (by decide) (by decide) (by omega) (by omega)
    refine lv_iload hx hb dX12_isLeaf_139 (lv_at hl 4 rfl) ?_
    refine r_icmp_ne (tgt := 148) hx hb dX12_isLeaf_141 (by decide) (fun c43 => ?_) (fun c43 => ?_)
    · refine r_iconst hx hb dX12_isLeaf_148 (by decide) (fun z44 ez44 => ?_)
      exact r_zret hx hb hr hK hP hS hk (by omega) dX12_isLeaf_149 (show P_X12_isLeaf σ0 τ0 a1 a2 a3 a4 z44 σ0 τ0 from ⟨hR, hF, hFL, by omega⟩)
    · refine r_iconst hx hb dX12_isLeaf_144 (by decide) (fun z45 ez45 => ?_)
      refine lv_goto (tgt := 149) hx hb dX12_isLeaf_145 (by decide) ?_
      exact r_zret hx hb hr hK hP hS hk (by omega) dX12_isLeaf_149 (show P_X12_isLeaf σ0 τ0 a1 a2 a3 a4 z45 σ0 τ0 from ⟨hR, hF, hFL, by omega⟩)
  refine lv_tableOut (tgt := 150) hx hb dX12_isLeaf_1 (by omega) (by decide) ?_
  refine lv_iload_n hx hb dX12_isLeaf_150 rfl (lv_at hl 2 rfl) ?_
  refine r_bipush hx hb dX12_isLeaf_151 (by decide) (fun z46 ez46 => ?_)
  refine r_icmp_ne (tgt := 169) hx hb dX12_isLeaf_153 (by decide) (fun c47 => ?_) (fun c47 => ?_)
  · refine lv_iload_n hx hb dX12_isLeaf_169 rfl (lv_at hl 2 rfl) ?_
    refine r_bipush hx hb dX12_isLeaf_170 (by decide) (fun z48 ez48 => ?_)
    refine r_icmp_ne (tgt := 188) hx hb dX12_isLeaf_172 (by decide) (fun c49 => ?_) (fun c49 => ?_)
    · refine lv_iload_n hx hb dX12_isLeaf_188 rfl (lv_at hl 2 rfl) ?_
      refine r_bipush hx hb dX12_isLeaf_189 (by decide) (fun z50 ez50 => ?_)
      refine r_icmp_ne (tgt := 206) hx hb dX12_isLeaf_191 (by decide) (fun c51 => ?_) (fun c51 => ?_)
      · refine lv_iload_n hx hb dX12_isLeaf_206 rfl (lv_at hl 1 rfl) ?_
        exact K207 σ0 τ0 s.heap [] a1 ls hR hF hFL hP hS  (lv_sub hl [0, 1, 2, 3, 4] rfl) (by omega)
      · refine lv_aload_n hx hb dX12_isLeaf_194 rfl (lv_at hl 0 rfl) ?_
        refine fg_12_6 (k := 387) hx hb hts in_X12_isLeaf_12 hown hK hP (by decide) (by decide) (hts _ lk_X12_isLeaf_33) dX12_isLeaf_195 ?_
        refine r_bipush hx hb dX12_isLeaf_198 (by decide) (fun z52 ez52 => ?_)
        refine lv_iload_n hx hb dX12_isLeaf_200 rfl (lv_at hl 1 rfl) ?_
        refine r_iadd hx hb dX12_isLeaf_201 (by omega) (fun z53 ez53 => ?_)
        obtain ⟨j54, ej54⟩ : ∃ j : Nat, z53.toInt = (j : Int) := ⟨_, ti_nat (by omega)⟩
        refine ad_ms (k := 389) (j := j54) hx hb hK hP (by decide) (by decide) ej54 (by omega) dX12_isLeaf_202 ?_
        refine lv_goto (tgt := 207) hx hb dX12_isLeaf_203 (by decide) ?_
        exact K207 σ0 τ0 s.heap [] (σ0 389 j54) ls hR hF hFL hP hS  (lv_sub hl [0, 1, 2, 3, 4] rfl) (by omega)
    · refine lv_aload_n hx hb dX12_isLeaf_175 rfl (lv_at hl 0 rfl) ?_
      refine fg_12_6 (k := 387) hx hb hts in_X12_isLeaf_12 hown hK hP (by decide) (by decide) (hts _ lk_X12_isLeaf_33) dX12_isLeaf_176 ?_
      refine r_sipush hx hb dX12_isLeaf_179 (by decide) (fun z55 ez55 => ?_)
      refine lv_iload_n hx hb dX12_isLeaf_182 rfl (lv_at hl 1 rfl) ?_
      refine r_iadd hx hb dX12_isLeaf_183 (by omega) (fun z56 ez56 => ?_)
      obtain ⟨j57, ej57⟩ : ∃ j : Nat, z56.toInt = (j : Int) := ⟨_, ti_nat (by omega)⟩
      refine ad_ms (k := 389) (j := j57) hx hb hK hP (by decide) (by decide) ej57 (by omega) dX12_isLeaf_184 ?_
      refine lv_goto (tgt := 207) hx hb dX12_isLeaf_185 (by decide) ?_
      exact K207 σ0 τ0 s.heap [] (σ0 389 j57) ls hR hF hFL hP hS  (lv_sub hl [0, 1, 2, 3, 4] rfl) (by omega)
  · refine lv_aload_n hx hb dX12_isLeaf_156 rfl (lv_at hl 0 rfl) ?_
    refine fg_12_6 (k := 387) hx hb hts in_X12_isLeaf_12 hown hK hP (by decide) (by decide) (hts _ lk_X12_isLeaf_33) dX12_isLeaf_157 ?_
    refine r_sipush hx hb dX12_isLeaf_160 (by decide) (fun z58 ez58 => ?_)
    refine lv_iload_n hx hb dX12_isLeaf_163 rfl (lv_at hl 1 rfl) ?_
    refine r_iadd hx hb dX12_isLeaf_164 (by omega) (fun z59 ez59 => ?_)
    obtain ⟨j60, ej60⟩ : ∃ j : Nat, z59.toInt = (j : Int) := ⟨_, ti_nat (by omega)⟩
    refine ad_ms (k := 389) (j := j60) hx hb hK hP (by decide) (by decide) ej60 (by omega) dX12_isLeaf_165 ?_
    refine lv_goto (tgt := 207) hx hb dX12_isLeaf_166 (by decide) ?_
    exact K207 σ0 τ0 s.heap [] (σ0 389 j60) ls hR hF hFL hP hS  (lv_sub hl [0, 1, 2, 3, 4] rfl) (by omega)
