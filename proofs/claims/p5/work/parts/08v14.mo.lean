theorem in_X12_isBetter_12 : ∀ w ∈ u_ws RX12 TX12 47, w ∈ wsX12_isBetter := by decide +kernel
theorem lk_X12_isBetter_33 : Cond.fieldLink RX12 33 "CuckooSharesModel" "s" "[I" ∈ wsX12_isBetter := by decide +kernel
abbrev L_X12_isBetter : List Rc := [(394, 394, 0, 7), (395, 395, 0, 7), (396, 396, 0, 7), (387, 387, 26, 26), (397, 397, 0, 7)]
abbrev LL_X12_isBetter : List Rc := []
def P_X12_isBetter (σ0 : Nat → Nat → Int32) (τ0 : Nat → Nat → Int64) (a1 : Int32) (a2 : Int32) (r : Int32) (σ : Nat → Nat → Int32) (τ : Nat → Nat → Int64) : Prop := Rg σ ∧ Fr L_X12_isBetter σ0 σ ∧ FrL LL_X12_isBetter τ0 τ ∧ (0 ≤ r.toInt ∧ r.toInt ≤ 1)
set_option maxHeartbeats 4000000 in
theorem c_X12_isBetter (l : Launch) (D : va_G) (cA : Nat → ClassId) (ad : Nat → Nat) (hI : Inj ad) (σ0 : Nat → Nat → Int32) (τ0 : Nat → Nat → Int64) (hR : Rg σ0) (a1 : Int32) (a2 : Int32) (ha1 : 0 ≤ a1.toInt ∧ a1.toInt ≤ 7) (ha2 : 1 ≤ a2.toInt ∧ a2.toInt ≤ 7) : Met l yX12_isBetter wsX12_isBetter ({ frames := 7, cells := 0, slots := 0, locals := 163 } : Room) (WQc D cA ad [.ref (ad 387), .int a1, .int a2] σ0 τ0) (va_Qi (fun (r : Int32) (u : SS) => P_X12_isBetter σ0 τ0 a1 a2 r u.1 u.2) (WB D cA ad) (AA ad)) 0 0 (AA ad) := by
  refine Met.ofW (cc := cX12_isBetter) (maxL := 5) (ret := (some .boolean)) (by decide) rfl ?_
  intro p e s m args below meth c s₁ B hml hv
  obtain ⟨rfl, hP, hK, hN⟩ := hv
  have C : Cy p s m _ meth c cX12_isBetter 5 wsX12_isBetter RX12 D cA ad (some .boolean) := ⟨B.exec, B.bytes, hml, findClass_of_methodNamed B.named, atoms_spec (ws := wsX12_isBetter) B.pre, hK, B.notSynchronized, B.returns, hI, hN⟩
  have hl := lv_entry ([.ref (ad 387), .int a1, .int a2]) (n := 5) (Nat.le_of_ble_eq_true rfl)
  rw [lg_entry_eq]
  generalize (lg_sl ([.ref (ad 387), .int a1, .int a2]) ++ List.replicate (5 - (lg_sl ([.ref (ad 387), .int a1, .int a2])).length) Slot.unset).toArray = ls at hl ⊢
  have hl : lv_has ls 5 [(0, .ref (ad 387)), (1, .int a1), (2, .int a2)] := hl
  have hS : va_S (AA ad) s.heap s.heap [] := va_S.rf
  have hF : Fr L_X12_isBetter σ0 σ0 := Fr.rf
  have hFL : FrL LL_X12_isBetter τ0 τ0 := FrL.rf
  obtain ⟨hx, hb, _, hown, hts, _, hk, hr, _, _⟩ := C
  refine lv_aload_n hx hb dX12_isBetter_0 rfl (lv_at hl 0 rfl) ?_
  refine r_cVv (k := 387) (As := []) (rest := []) ⟨hx, hb, hml, hown, hts⟩ hK hP hN hS (c_X12_asNow l D cA ad hI σ0 τ0 hR) (cwV 0 hts gX12_isBetter_X12_asNow rfl rfl rfl (by decide +kernel) ⟨by decide, by decide⟩) (rv_M hK hP (by decide) (by decide)) rfl hl.1 rfl (Nat.le_of_ble_eq_true rfl) dX12_isBetter_1 (Nat.zero_le _) (Nat.zero_le _) (fun u1 H1 locs1 hp1 hP hS => ?_)
  obtain ⟨σ1, τ1⟩ := u1
  obtain ⟨hR, f1, fL1⟩ : P_X12_asNow σ0 τ0 σ1 τ1 := hp1
  have hP : va_P D vwCl (gw cA ad σ1 τ1) H1 := hP
  obtain rfl := FrL.nil fL1
  have hF := hF.step f1 (by decide)
  refine lv_aload_n hx hb dX12_isBetter_4 rfl (lv_at hl 0 rfl) ?_
  refine lv_iload_n hx hb dX12_isBetter_5 rfl (lv_at hl 1 rfl) ?_
  refine r_cVi (k := 387) (As := [.int a1]) (rest := []) ⟨hx, hb, hml, hown, hts⟩ hK hP hN hS (c_X12_meanOf l D cA ad hI σ1 τ0 hR a1 (by omega)) (cwV 1 hts gX12_isBetter_X12_meanOf rfl rfl rfl (by decide +kernel) ⟨by decide, by decide⟩) (rv_M hK hP (by decide) (by decide)) rfl hl.1 rfl (Nat.le_of_ble_eq_true rfl) dX12_isBetter_6 (Nat.zero_le _) (Nat.zero_le _) (fun r2 u2 H2 locs2 hp2 hP hS => ?_)
  obtain ⟨σ2, τ2⟩ := u2
  obtain ⟨hR, f2, fL2⟩ : P_X12_meanOf σ1 τ0 a1 r2 σ2 τ2 := hp2
  have hP : va_P D vwCl (gw cA ad σ2 τ2) H2 := hP
  obtain rfl := FrL.nil fL2
  have hF := hF.step f2 (by decide)
  refine lv_istore_n (lv' := [(3, .int r2), (0, .ref (ad 387)), (1, .int a1), (2, .int a2)]) hx hb dX12_isBetter_9 rfl hl (by decide) rfl (fun ls hl => ?_)
  refine lv_aload_n hx hb dX12_isBetter_10 rfl (lv_at hl 1 rfl) ?_
  refine lv_iload_n hx hb dX12_isBetter_11 rfl (lv_at hl 3 rfl) ?_
  refine r_cVi (k := 387) (As := [.int a2]) (rest := []) ⟨hx, hb, hml, hown, hts⟩ hK hP hN hS (c_X12_meanOf l D cA ad hI σ2 τ0 hR a2 (by omega)) (cwV 1 hts gX12_isBetter_X12_meanOf rfl rfl rfl (by decide +kernel) ⟨by decide, by decide⟩) (rv_M hK hP (by decide) (by decide)) rfl hl.1 rfl (Nat.le_of_ble_eq_true rfl) dX12_isBetter_12 (Nat.zero_le _) (Nat.zero_le _) (fun r3 u3 H3 locs3 hp3 hP hS => ?_)
  obtain ⟨σ3, τ3⟩ := u3
  obtain ⟨hR, f3, fL3⟩ : P_X12_meanOf σ2 τ0 a2 r3 σ3 τ3 := hp3
  have hP : va_P D vwCl (gw cA ad σ3 τ3) H3 := hP
  obtain rfl := FrL.nil fL3
  have hF := hF.step f3 (by decide)
  refine lv_istore (lv' := [(4, .int r3), (3, .int r2), (0, .ref (ad 387)), (1, .int a1), (2, .int a2)]) hx hb dX12_isBetter_15 hl (by decide) rfl (fun ls hl => ?_)
  refine lv_aload_n hx hb dX12_isBetter_17 rfl (lv_at hl 2 rfl) ?_
  refine lv_iload_n hx hb dX12_isBetter_18 rfl (lv_at hl 3 rfl) ?_
  refine lv_aload_n hx hb dX12_isBetter_19 rfl (lv_at hl 2 rfl) ?_
  refine fg_12_6 (k := 387) hx hb hts in_X12_isBetter_12 hown hK hP (by decide) (by decide) (hts _ lk_X12_isBetter_33) dX12_isBetter_20 ?_
  refine r_sipush hx hb dX12_isBetter_23 (by decide) (fun z4 ez4 => ?_)
  refine lv_iload_n hx hb dX12_isBetter_26 rfl (lv_at hl 4 rfl) ?_
  refine r_iadd hx hb dX12_isBetter_27 (by omega) (fun z5 ez5 => ?_)
  obtain ⟨j6, ej6⟩ : ∃ j : Nat, z5.toInt = (j : Int) := ⟨_, ti_nat (by omega)⟩
  refine ad_ms (k := 389) (j := j6) hx hb hK hP (by decide) (by decide) ej6 (by omega) dX12_isBetter_28 ?_
  have hr7 := ra_ms_6 hR (k := 389) (j := j6) (by decide) (by decide) (by omega) (by omega)
  refine r_cVv (k := 387) (As := [.int a1, .int (σ3 389 j6)]) (rest := []) ⟨hx, hb, hml, hown, hts⟩ hK hP hN hS (c_X12_stands l D cA ad hI σ3 τ0 hR a1 (σ3 389 j6) (by omega) (by omega)) (cwV 2 hts gX12_isBetter_X12_stands rfl rfl rfl (by decide +kernel) ⟨by decide, by decide⟩) (rv_M hK hP (by decide) (by decide)) rfl hl.1 rfl (Nat.le_of_ble_eq_true rfl) dX12_isBetter_29 (Nat.zero_le _) (Nat.zero_le _) (fun u8 H8 locs8 hp8 hP hS => ?_)
  obtain ⟨σ8, τ8⟩ := u8
  obtain ⟨hR, f8, fL8⟩ : P_X12_stands σ3 τ0 a1 (σ3 389 j6) σ8 τ8 := hp8
  have hP : va_P D vwCl (gw cA ad σ8 τ8) H8 := hP
  obtain rfl := FrL.nil fL8
  have hF := hF.step f8 (by decide)
  refine lv_aload_n hx hb dX12_isBetter_32 rfl (lv_at hl 2 rfl) ?_
  refine lv_iload_n hx hb dX12_isBetter_33 rfl (lv_at hl 4 rfl) ?_
  refine lv_aload_n hx hb dX12_isBetter_34 rfl (lv_at hl 2 rfl) ?_
  refine fg_12_6 (k := 387) hx hb hts in_X12_isBetter_12 hown hK hP (by decide) (by decide) (hts _ lk_X12_isBetter_33) dX12_isBetter_35 ?_
  refine r_sipush hx hb dX12_isBetter_38 (by decide) (fun z9 ez9 => ?_)
  refine lv_iload_n hx hb dX12_isBetter_41 rfl (lv_at hl 3 rfl) ?_
  refine r_iadd hx hb dX12_isBetter_42 (by omega) (fun z10 ez10 => ?_)
  obtain ⟨j11, ej11⟩ : ∃ j : Nat, z10.toInt = (j : Int) := ⟨_, ti_nat (by omega)⟩
  refine ad_ms (k := 389) (j := j11) hx hb hK hP (by decide) (by decide) ej11 (by omega) dX12_isBetter_43 ?_
  have hr12 := ra_ms_6 hR (k := 389) (j := j11) (by decide) (by decide) (by omega) (by omega)
  refine r_cVv (k := 387) (As := [.int a2, .int (σ8 389 j11)]) (rest := []) ⟨hx, hb, hml, hown, hts⟩ hK hP hN hS (c_X12_stands l D cA ad hI σ8 τ0 hR a2 (σ8 389 j11) (by omega) (by omega)) (cwV 2 hts gX12_isBetter_X12_stands rfl rfl rfl (by decide +kernel) ⟨by decide, by decide⟩) (rv_M hK hP (by decide) (by decide)) rfl hl.1 rfl (Nat.le_of_ble_eq_true rfl) dX12_isBetter_44 (Nat.zero_le _) (Nat.zero_le _) (fun u13 H13 locs13 hp13 hP hS => ?_)
  obtain ⟨σ13, τ13⟩ := u13
  obtain ⟨hR, f13, fL13⟩ : P_X12_stands σ8 τ0 a2 (σ8 389 j11) σ13 τ13 := hp13
  have hP : va_P D vwCl (gw cA ad σ13 τ13) H13 := hP
  obtain rfl := FrL.nil fL13
  have hF := hF.step f13 (by decide)
  refine lv_aload_n hx hb dX12_isBetter_47 rfl (lv_at hl 2 rfl) ?_
  refine lv_iload_n hx hb dX12_isBetter_48 rfl (lv_at hl 3 rfl) ?_
  refine r_cVi (k := 387) (As := [.int a1]) (rest := []) ⟨hx, hb, hml, hown, hts⟩ hK hP hN hS (c_X12_meanOf l D cA ad hI σ13 τ0 hR a1 (by omega)) (cwV 1 hts gX12_isBetter_X12_meanOf rfl rfl rfl (by decide +kernel) ⟨by decide, by decide⟩) (rv_M hK hP (by decide) (by decide)) rfl hl.1 rfl (Nat.le_of_ble_eq_true rfl) dX12_isBetter_49 (Nat.zero_le _) (Nat.zero_le _) (fun r14 u14 H14 locs14 hp14 hP hS => ?_)
  obtain ⟨σ14, τ14⟩ := u14
  obtain ⟨hR, f14, fL14⟩ : P_X12_meanOf σ13 τ0 a1 r14 σ14 τ14 := hp14
  have hP : va_P D vwCl (gw cA ad σ14 τ14) H14 := hP
  obtain rfl := FrL.nil fL14
  have hF := hF.step f14 (by decide)
  refine lv_iload_n hx hb dX12_isBetter_52 rfl (lv_at hl 1 rfl) ?_
  refine r_icmp_le (tgt := 70) hx hb dX12_isBetter_53 (by decide) (fun c15 => ?_) (fun c15 => ?_)
  · refine r_iconst hx hb dX12_isBetter_70 (by decide) (fun z16 ez16 => ?_)
    exact r_zret hx hb hr hK hP hS hk (by omega) dX12_isBetter_71 (show P_X12_isBetter σ0 τ0 a1 a2 z16 σ14 τ0 from ⟨hR, hF, hFL, by omega⟩)
  · refine lv_aload_n hx hb dX12_isBetter_56 rfl (lv_at hl 2 rfl) ?_
    refine lv_iload_n hx hb dX12_isBetter_57 rfl (lv_at hl 4 rfl) ?_
    refine r_cVi (k := 387) (As := [.int a2]) (rest := []) ⟨hx, hb, hml, hown, hts⟩ hK hP hN hS (c_X12_meanOf l D cA ad hI σ14 τ0 hR a2 (by omega)) (cwV 1 hts gX12_isBetter_X12_meanOf rfl rfl rfl (by decide +kernel) ⟨by decide, by decide⟩) (rv_M hK hP (by decide) (by decide)) rfl hl.1 rfl (Nat.le_of_ble_eq_true rfl) dX12_isBetter_58 (Nat.zero_le _) (Nat.zero_le _) (fun r17 u17 H17 locs17 hp17 hP hS => ?_)
    obtain ⟨σ17, τ17⟩ := u17
    obtain ⟨hR, f17, fL17⟩ : P_X12_meanOf σ14 τ0 a2 r17 σ17 τ17 := hp17
    have hP : va_P D vwCl (gw cA ad σ17 τ17) H17 := hP
    obtain rfl := FrL.nil fL17
    have hF := hF.step f17 (by decide)
    refine lv_iload hx hb dX12_isBetter_61 (lv_at hl 0 rfl) ?_
    refine r_icmp_le (tgt := 70) hx hb dX12_isBetter_63 (by decide) (fun c18 => ?_) (fun c18 => ?_)
    · refine r_iconst hx hb dX12_isBetter_70 (by decide) (fun z19 ez19 => ?_)
      exact r_zret hx hb hr hK hP hS hk (by omega) dX12_isBetter_71 (show P_X12_isBetter σ0 τ0 a1 a2 z19 σ17 τ0 from ⟨hR, hF, hFL, by omega⟩)
    · refine r_iconst hx hb dX12_isBetter_66 (by decide) (fun z20 ez20 => ?_)
      refine lv_goto (tgt := 71) hx hb dX12_isBetter_67 (by decide) ?_
      exact r_zret hx hb hr hK hP hS hk (by omega) dX12_isBetter_71 (show P_X12_isBetter σ0 τ0 a1 a2 z20 σ17 τ0 from ⟨hR, hF, hFL, by omega⟩)
theorem in_X12_swaps_12 : ∀ w ∈ u_ws RX12 TX12 47, w ∈ wsX12_swaps := by decide +kernel
theorem lk_X12_swaps_1 : Cond.fieldLink RX12 1 "CuckooSharesModel" "thrown" "I" ∈ wsX12_swaps := by decide +kernel
theorem lk_X12_swaps_33 : Cond.fieldLink RX12 33 "CuckooSharesModel" "s" "[I" ∈ wsX12_swaps := by decide +kernel
abbrev L_X12_swaps : List Rc := [(387, 387, 0, 0), (394, 394, 0, 7), (395, 395, 0, 7), (396, 396, 0, 7), (387, 387, 26, 26), (397, 397, 0, 7)]
abbrev LL_X12_swaps : List Rc := []
def P_X12_swaps (σ0 : Nat → Nat → Int32) (τ0 : Nat → Nat → Int64) (a1 : Int32) (r : Int32) (σ : Nat → Nat → Int32) (τ : Nat → Nat → Int64) : Prop := Rg σ ∧ Fr L_X12_swaps σ0 σ ∧ FrL LL_X12_swaps τ0 τ
def J_X12_swaps_25 (p : Program) (l : Launch) (e : Env) (s : State) (m : MethodId) (args : Array Value) (below : List Frame) (meth : Method) (c : Code) (D : va_G) (cA : Nat → ClassId) (ad : Nat → Nat) (σ0 : Nat → Nat → Int32) (τ0 : Nat → Nat → Int64) (a1 : Int32) (n : Nat) : Prop := ∀ (σ : Nat → Nat → Int32) (τ : Nat → Nat → Int64) (H : Heap) (locs : List Loc) (x2 : Int32) (x3 : Int32) (ls : Array Slot), Rg σ → Fr L_X12_swaps σ0 σ → FrL LL_X12_swaps τ0 τ → va_P D vwCl (gw cA ad σ τ) H → va_S (AA ad) s.heap H locs → (-1 ≤ a1.toInt) → (0 ≤ x3.toInt ∧ x3.toInt ≤ 8) → lv_has ls 5 [(0, .ref (ad 387)), (1, .int a1), (2, .int x2), (3, .int x3)] → 19 * (8 - x3.toInt) + 18 < (n : Int) → W p l e ({ frames := 8, cells := 0, slots := 0, locals := 187 } : Room) s m args below meth c H locs 0 0 (MQ below (va_Qi (fun (r : Int32) (u : SS) => P_X12_swaps σ0 τ0 a1 r u.1 u.2) (WB D cA ad) (AA ad)) args s 0 0 (AA ad)) (F0 m 25 ls [])
def J_X12_swaps_40 (p : Program) (l : Launch) (e : Env) (s : State) (m : MethodId) (args : Array Value) (below : List Frame) (meth : Method) (c : Code) (D : va_G) (cA : Nat → ClassId) (ad : Nat → Nat) (σ0 : Nat → Nat → Int32) (τ0 : Nat → Nat → Int64) (a1 : Int32) (n : Nat) : Prop := ∀ (σ : Nat → Nat → Int32) (τ : Nat → Nat → Int64) (H : Heap) (locs : List Loc) (x2 : Int32) (x3 : Int32) (x4 : Int32) (ls : Array Slot), Rg σ → Fr L_X12_swaps σ0 σ → FrL LL_X12_swaps τ0 τ → va_P D vwCl (gw cA ad σ τ) H → va_S (AA ad) s.heap H locs → (-1 ≤ a1.toInt) → (0 ≤ x3.toInt ∧ x3.toInt ≤ 7) → (1 ≤ x4.toInt ∧ x4.toInt ≤ 8) → lv_has ls 5 [(0, .ref (ad 387)), (1, .int a1), (2, .int x2), (3, .int x3), (4, .int x4)] → 2 * (8 - x4.toInt) + 19 * (8 - x3.toInt) + 1 < (n : Int) → W p l e ({ frames := 8, cells := 0, slots := 0, locals := 187 } : Room) s m args below meth c H locs 0 0 (MQ below (va_Qi (fun (r : Int32) (u : SS) => P_X12_swaps σ0 τ0 a1 r u.1 u.2) (WB D cA ad) (AA ad)) args s 0 0 (AA ad)) (F0 m 40 ls [])
set_option maxHeartbeats 4000000 in
theorem B_X12_swaps_25 (p : Program) (l : Launch) (e : Env) (s : State) (m : MethodId) (args : Array Value) (below : List Frame) (meth : Method) (c : Code) (D : va_G) (cA : Nat → ClassId) (ad : Nat → Nat) (σ0 : Nat → Nat → Int32) (τ0 : Nat → Nat → Int64) (a1 : Int32) (n : Nat) (C : Cy p s m args meth c cX12_swaps 5 wsX12_swaps RX12 D cA ad (some .int))  (K25 : J_X12_swaps_25 p l e s m args below meth c D cA ad σ0 τ0 a1 n) (K40 : J_X12_swaps_40 p l e s m args below meth c D cA ad σ0 τ0 a1 n) : J_X12_swaps_25 p l e s m args below meth c D cA ad σ0 τ0 a1 (n + 1) := by
  obtain ⟨hx, hb, hml, hown, hts, hK, hk, hr, hI, hN⟩ := C
  intro σ τ H locs x2 x3 ls hR hF hFL hP hS hc0 hc1 hl hm
  obtain rfl := FrL.nil hFL
  refine lv_iload_n hx hb dX12_swaps_25 rfl (lv_at hl 3 rfl) ?_
  refine lv_aload_n hx hb dX12_swaps_26 rfl (lv_at hl 0 rfl) ?_
  refine fg_12_6 (k := 387) hx hb hts in_X12_swaps_12 hown hK hP (by decide) (by decide) (hts _ lk_X12_swaps_33) dX12_swaps_27 ?_
  refine r_iconst hx hb dX12_swaps_30 (by decide) (fun z1 ez1 => ?_)
  refine ad_ms (k := 389) (j := 1) hx hb hK hP (by decide) (by decide) (by omega) (by omega) dX12_swaps_31 ?_
  have hr2 := ra_ms_0 hR (k := 389) (j := 1) (by decide) (by decide) (by decide) (by decide)
  refine r_icmp_ge (tgt := 92) hx hb dX12_swaps_32 (by decide) (fun c3 => ?_) (fun c3 => ?_)
  · refine lv_iload_n hx hb dX12_swaps_92 rfl (lv_at hl 1 rfl) ?_
    refine r_iconst hx hb dX12_swaps_93 (by decide) (fun z4 ez4 => ?_)
    refine r_icmp_ne (tgt := 101) hx hb dX12_swaps_94 (by decide) (fun c5 => ?_) (fun c5 => ?_)
    · refine r_iconst hx hb dX12_swaps_101 (by decide) (fun z6 ez6 => ?_)
      exact r_iret hx hb hr hK hP hS hk dX12_swaps_102 (show P_X12_swaps σ0 τ0 a1 z6 σ τ0 from ⟨hR, hF, hFL⟩)
    · refine lv_iload_n hx hb dX12_swaps_97 rfl (lv_at hl 2 rfl) ?_
      refine lv_goto (tgt := 102) hx hb dX12_swaps_98 (by decide) ?_
      exact r_iret hx hb hr hK hP hS hk dX12_swaps_102 (show P_X12_swaps σ0 τ0 a1 x2 σ τ0 from ⟨hR, hF, hFL⟩)
  · refine lv_iload_n hx hb dX12_swaps_35 rfl (lv_at hl 3 rfl) ?_
    refine r_iconst hx hb dX12_swaps_36 (by decide) (fun z7 ez7 => ?_)
    refine r_iadd hx hb dX12_swaps_37 (by omega) (fun z8 ez8 => ?_)
    refine lv_istore (lv' := [(4, .int z8), (0, .ref (ad 387)), (1, .int a1), (2, .int x2), (3, .int x3)]) hx hb dX12_swaps_38 hl (by decide) rfl (fun ls hl => ?_)
    exact K40 σ τ0 H locs x2 x3 z8 ls hR hF hFL hP hS (by omega) (by omega) (by omega) (lv_sub hl [1, 2, 3, 4, 0] rfl) (by omega)
set_option maxHeartbeats 4000000 in
theorem B_X12_swaps_40 (p : Program) (l : Launch) (e : Env) (s : State) (m : MethodId) (args : Array Value) (below : List Frame) (meth : Method) (c : Code) (D : va_G) (cA : Nat → ClassId) (ad : Nat → Nat) (σ0 : Nat → Nat → Int32) (τ0 : Nat → Nat → Int64) (a1 : Int32) (n : Nat) (C : Cy p s m args meth c cX12_swaps 5 wsX12_swaps RX12 D cA ad (some .int))  (K25 : J_X12_swaps_25 p l e s m args below meth c D cA ad σ0 τ0 a1 n) (K40 : J_X12_swaps_40 p l e s m args below meth c D cA ad σ0 τ0 a1 n) : J_X12_swaps_40 p l e s m args below meth c D cA ad σ0 τ0 a1 (n + 1) := by
  obtain ⟨hx, hb, hml, hown, hts, hK, hk, hr, hI, hN⟩ := C
  intro σ τ H locs x2 x3 x4 ls hR hF hFL hP hS hc0 hc1 hc2 hl hm
  obtain rfl := FrL.nil hFL
  refine lv_iload hx hb dX12_swaps_40 (lv_at hl 4 rfl) ?_
  refine lv_aload_n hx hb dX12_swaps_42 rfl (lv_at hl 0 rfl) ?_
  refine fg_12_6 (k := 387) hx hb hts in_X12_swaps_12 hown hK hP (by decide) (by decide) (hts _ lk_X12_swaps_33) dX12_swaps_43 ?_
  refine r_iconst hx hb dX12_swaps_46 (by decide) (fun z1 ez1 => ?_)
  refine ad_ms (k := 389) (j := 1) hx hb hK hP (by decide) (by decide) (by omega) (by omega) dX12_swaps_47 ?_
  have hr2 := ra_ms_0 hR (k := 389) (j := 1) (by decide) (by decide) (by decide) (by decide)
  refine r_icmp_ge (tgt := 86) hx hb dX12_swaps_48 (by decide) (fun c3 => ?_) (fun c3 => ?_)
  · refine r_iinc (k := 3) (lv1 := fun z4 => [(3, .int z4), (0, .ref (ad 387)), (1, .int a1), (2, .int x2), (4, .int x4)]) hx hb dX12_swaps_86 hl rfl (by decide) (fun _ => rfl) (by decide) (by omega) (fun z4 ls ez4 hl => ?_)
    refine lv_goto (tgt := 25) hx hb dX12_swaps_89 (by decide) ?_
    exact K25 σ τ0 H locs x2 z4 ls hR hF hFL hP hS (by omega) (by omega) (lv_sub hl [1, 2, 3, 0] rfl) (by omega)
  · refine lv_aload_n hx hb dX12_swaps_51 rfl (lv_at hl 0 rfl) ?_
    refine lv_iload_n hx hb dX12_swaps_52 rfl (lv_at hl 3 rfl) ?_
    refine lv_iload hx hb dX12_swaps_53 (lv_at hl 4 rfl) ?_
    refine r_cVi (k := 387) (As := [.int x3, .int x4]) (rest := []) ⟨hx, hb, hml, hown, hts⟩ hK hP hN hS (c_X12_isBetter l D cA ad hI σ τ0 hR x3 x4 (by omega) (by omega)) (cwV 2 hts gX12_swaps_X12_isBetter rfl rfl rfl (by decide +kernel) ⟨by decide, by decide⟩) (rv_M hK hP (by decide) (by decide)) rfl hl.1 rfl (Nat.le_of_ble_eq_true rfl) dX12_swaps_55 (Nat.zero_le _) (Nat.zero_le _) (fun r5 u5 H5 locs5 hp5 hP hS => ?_)
    obtain ⟨σ5, τ5⟩ := u5
    obtain ⟨hR, f5, fL5, hq5⟩ : P_X12_isBetter σ τ0 x3 x4 r5 σ5 τ5 := hp5
    have hP : va_P D vwCl (gw cA ad σ5 τ5) H5 := hP
    obtain rfl := FrL.nil fL5
    have hF := hF.step f5 (by decide)
    refine r_if_ne (tgt := 64) hx hb dX12_swaps_58 (by decide) (fun c6 => ?_) (fun c6 => ?_)
    · refine lv_iload_n hx hb dX12_swaps_64 rfl (lv_at hl 2 rfl) ?_
      refine lv_iload_n hx hb dX12_swaps_65 rfl (lv_at hl 1 rfl) ?_
      refine r_icmp_ne (tgt := 77) hx hb dX12_swaps_66 (by decide) (fun c7 => ?_) (fun c7 => ?_)
      · refine r_iincU (k := 2) (lv1 := fun z8 => [(2, .int z8), (0, .ref (ad 387)), (1, .int a1), (3, .int x3), (4, .int x4)]) hx hb dX12_swaps_77 hl rfl (by decide) (fun _ => rfl) (fun z8 ls hl => ?_)
        refine r_iinc (k := 4) (lv1 := fun z9 => [(4, .int z9), (2, .int z8), (0, .ref (ad 387)), (1, .int a1), (3, .int x3)]) hx hb dX12_swaps_80 hl rfl (by decide) (fun _ => rfl) (by decide) (by omega) (fun z9 ls ez9 hl => ?_)
        refine lv_goto (tgt := 40) hx hb dX12_swaps_83 (by decide) ?_
        exact K40 σ5 τ0 H5 locs5 z8 x3 z9 ls hR hF hFL hP hS (by omega) (by omega) (by omega) (lv_sub hl [2, 3, 1, 4, 0] rfl) (by omega)
      · refine r_bipush hx hb dX12_swaps_69 (by decide) (fun z10 ez10 => ?_)
        refine lv_iload_n hx hb dX12_swaps_71 rfl (lv_at hl 3 rfl) ?_
        refine r_imulL (n := 10) hx hb dX12_swaps_72 (by omega) (by omega) (fun z11 ez11 => ?_)
        refine lv_iload hx hb dX12_swaps_73 (lv_at hl 4 rfl) ?_
        refine r_iadd hx hb dX12_swaps_75 (by omega) (fun z12 ez12 => ?_)
        exact r_iret hx hb hr hK hP hS hk dX12_swaps_76 (show P_X12_swaps σ0 τ0 a1 z12 σ5 τ0 from ⟨hR, hF, hFL⟩)
    · refine lv_goto (tgt := 80) hx hb dX12_swaps_61 (by decide) ?_
      refine r_iinc (k := 4) (lv1 := fun z13 => [(4, .int z13), (0, .ref (ad 387)), (1, .int a1), (2, .int x2), (3, .int x3)]) hx hb dX12_swaps_80 hl rfl (by decide) (fun _ => rfl) (by decide) (by omega) (fun z13 ls ez13 hl => ?_)
      refine lv_goto (tgt := 40) hx hb dX12_swaps_83 (by decide) ?_
      exact K40 σ5 τ0 H5 locs5 x2 x3 z13 ls hR hF hFL hP hS (by omega) (by omega) (by omega) (lv_sub hl [1, 2, 3, 4, 0] rfl) (by omega)
theorem A_X12_swaps (p : Program) (l : Launch) (e : Env) (s : State) (m : MethodId) (args : Array Value) (below : List Frame) (meth : Method) (c : Code) (D : va_G) (cA : Nat → ClassId) (ad : Nat → Nat) (σ0 : Nat → Nat → Int32) (τ0 : Nat → Nat → Int64) (a1 : Int32) (C : Cy p s m args meth c cX12_swaps 5 wsX12_swaps RX12 D cA ad (some .int))  : ∀ n : Nat, J_X12_swaps_25 p l e s m args below meth c D cA ad σ0 τ0 a1 n ∧ J_X12_swaps_40 p l e s m args below meth c D cA ad σ0 τ0 a1 n := by
  intro n
  induction n with
  | zero =>
    exact ⟨(by intro σ τ H locs x2 x3 ls hR hF hFL hP hS hc0 hc1 hl hm; exfalso; omega), (by intro σ τ H locs x2 x3 x4 ls hR hF hFL hP hS hc0 hc1 hc2 hl hm; exfalso; omega)⟩
  | succ n ih =>
    exact ⟨B_X12_swaps_25 p l e s m args below meth c D cA ad σ0 τ0 a1 n C  ih.1 ih.2, B_X12_swaps_40 p l e s m args below meth c D cA ad σ0 τ0 a1 n C  ih.1 ih.2⟩
set_option maxHeartbeats 4000000 in
theorem c_X12_swaps (l : Launch) (D : va_G) (cA : Nat → ClassId) (ad : Nat → Nat) (hI : Inj ad) (σ0 : Nat → Nat → Int32) (τ0 : Nat → Nat → Int64) (hR : Rg σ0) (a1 : Int32)  : Met l yX12_swaps wsX12_swaps ({ frames := 8, cells := 0, slots := 0, locals := 187 } : Room) (WQc D cA ad [.ref (ad 387), .int a1] σ0 τ0) (va_Qi (fun (r : Int32) (u : SS) => P_X12_swaps σ0 τ0 a1 r u.1 u.2) (WB D cA ad) (AA ad)) 0 0 (AA ad) := by
  refine Met.ofW (cc := cX12_swaps) (maxL := 5) (ret := (some .int)) (by decide) rfl ?_
  intro p e s m args below meth c s₁ B hml hv
  obtain ⟨rfl, hP, hK, hN⟩ := hv
  have C : Cy p s m _ meth c cX12_swaps 5 wsX12_swaps RX12 D cA ad (some .int) := ⟨B.exec, B.bytes, hml, findClass_of_methodNamed B.named, atoms_spec (ws := wsX12_swaps) B.pre, hK, B.notSynchronized, B.returns, hI, hN⟩
  have hl := lv_entry ([.ref (ad 387), .int a1]) (n := 5) (Nat.le_of_ble_eq_true rfl)
  rw [lg_entry_eq]
  generalize (lg_sl ([.ref (ad 387), .int a1]) ++ List.replicate (5 - (lg_sl ([.ref (ad 387), .int a1])).length) Slot.unset).toArray = ls at hl ⊢
  have hl : lv_has ls 5 [(0, .ref (ad 387)), (1, .int a1)] := hl
  have hS : va_S (AA ad) s.heap s.heap [] := va_S.rf
  have hF : Fr L_X12_swaps σ0 σ0 := Fr.rf
  have hFL : FrL LL_X12_swaps τ0 τ0 := FrL.rf
  have hA := A_X12_swaps p l e s m _ below meth c D cA ad σ0 τ0 a1 C  381
  have K25 := hA.1
  have K40 := hA.2
  clear hA
  obtain ⟨hx, hb, _, hown, hts, _, hk, hr, _, _⟩ := C
  refine lv_aload_n hx hb dX12_swaps_0 rfl (lv_at hl 0 rfl) ?_
  refine r_iconst hx hb dX12_swaps_1 (by decide) (fun z1 ez1 => ?_)
  refine fp_12_0 (k := 387) hx hb hts in_X12_swaps_12 hown hK hP (by decide) (by decide) (hts _ lk_X12_swaps_1) hI hR hS (by omega) dX12_swaps_2 (fun σ2 H2 locs2 u2 v2 hR hP hS => ?_)
  have hF := hF.puts u2 0 rfl (by decide) (by decide) (by decide) (by decide)
  refine lv_aload_n hx hb dX12_swaps_5 rfl (lv_at hl 0 rfl) ?_
  refine fg_12_6 (k := 387) hx hb hts in_X12_swaps_12 hown hK hP (by decide) (by decide) (hts _ lk_X12_swaps_33) dX12_swaps_6 ?_
  refine r_iconst hx hb dX12_swaps_9 (by decide) (fun z3 ez3 => ?_)
  refine ad_ms (k := 389) (j := 2) hx hb hK hP (by decide) (by decide) (by omega) (by omega) dX12_swaps_10 ?_
  have hr4 := ra_ms_1 hR (k := 389) (j := 2) (by decide) (by decide) (by decide) (by decide)
  refine r_if_eq (tgt := 19) hx hb dX12_swaps_11 (by decide) (fun c5 => ?_) (fun c5 => ?_)
  · refine r_iconst hx hb dX12_swaps_19 (by decide) (fun z6 ez6 => ?_)
    exact r_iret hx hb hr hK hP hS hk dX12_swaps_20 (show P_X12_swaps σ0 τ0 a1 z6 σ2 τ0 from ⟨hR, hF, hFL⟩)
  · refine lv_iload_n hx hb dX12_swaps_14 rfl (lv_at hl 1 rfl) ?_
    refine r_iconst hx hb dX12_swaps_15 (by decide) (fun z7 ez7 => ?_)
    refine r_icmp_ge (tgt := 21) hx hb dX12_swaps_16 (by decide) (fun c8 => ?_) (fun c8 => ?_)
    · refine r_iconst hx hb dX12_swaps_21 (by decide) (fun z9 ez9 => ?_)
      refine lv_istore_n (lv' := [(2, .int z9), (0, .ref (ad 387)), (1, .int a1)]) hx hb dX12_swaps_22 rfl hl (by decide) rfl (fun ls hl => ?_)
      refine r_iconst hx hb dX12_swaps_23 (by decide) (fun z10 ez10 => ?_)
      refine lv_istore_n (lv' := [(3, .int z10), (2, .int z9), (0, .ref (ad 387)), (1, .int a1)]) hx hb dX12_swaps_24 rfl hl (by decide) rfl (fun ls hl => ?_)
      exact K25 σ2 τ0 H2 locs2 z9 z10 ls hR hF hFL hP hS (by omega) (by omega) (lv_sub hl [2, 3, 1, 0] rfl) (by omega)
    · refine r_iconst hx hb dX12_swaps_19 (by decide) (fun z11 ez11 => ?_)
      exact r_iret hx hb hr hK hP hS hk dX12_swaps_20 (show P_X12_swaps σ0 τ0 a1 z11 σ2 τ0 from ⟨hR, hF, hFL⟩)
theorem in_X12_draw_12 : ∀ w ∈ u_ws RX12 TX12 47, w ∈ wsX12_draw := by decide +kernel
theorem lk_X12_draw_400 : Cond.fieldLink RX12 400 "CuckooSharesModel" "seed" "I" ∈ wsX12_draw := by decide +kernel
theorem lk_X12_draw_403 : Cond.constant RX12 403 (1103515245) ∈ wsX12_draw := by decide +kernel
abbrev L_X12_draw : List Rc := [(387, 387, 33, 33)]
abbrev LL_X12_draw : List Rc := []
def P_X12_draw (σ0 : Nat → Nat → Int32) (τ0 : Nat → Nat → Int64) (a1 : Int32) (r : Int32) (σ : Nat → Nat → Int32) (τ : Nat → Nat → Int64) : Prop := Rg σ ∧ Fr L_X12_draw σ0 σ ∧ FrL LL_X12_draw τ0 τ ∧ (0 ≤ r.toInt) ∧ (0 ≤ r.toInt ∧ r.toInt < a1.toInt)
set_option maxHeartbeats 4000000 in
theorem c_X12_draw (l : Launch) (D : va_G) (cA : Nat → ClassId) (ad : Nat → Nat) (hI : Inj ad) (σ0 : Nat → Nat → Int32) (τ0 : Nat → Nat → Int64) (hR : Rg σ0) (a1 : Int32) (ha1 : 1 ≤ a1.toInt) : Met l yX12_draw wsX12_draw ({ frames := 0, cells := 0, slots := 0, locals := 0 } : Room) (WQc D cA ad [.ref (ad 387), .int a1] σ0 τ0) (va_Qi (fun (r : Int32) (u : SS) => P_X12_draw σ0 τ0 a1 r u.1 u.2) (WB D cA ad) (AA ad)) 0 0 (AA ad) := by
  refine Met.ofW (cc := cX12_draw) (maxL := 2) (ret := (some .int)) (by decide) rfl ?_
  intro p e s m args below meth c s₁ B hml hv
  obtain ⟨rfl, hP, hK, hN⟩ := hv
  have C : Cy p s m _ meth c cX12_draw 2 wsX12_draw RX12 D cA ad (some .int) := ⟨B.exec, B.bytes, hml, findClass_of_methodNamed B.named, atoms_spec (ws := wsX12_draw) B.pre, hK, B.notSynchronized, B.returns, hI, hN⟩
  have hl := lv_entry ([.ref (ad 387), .int a1]) (n := 2) (Nat.le_of_ble_eq_true rfl)
  rw [lg_entry_eq]
  generalize (lg_sl ([.ref (ad 387), .int a1]) ++ List.replicate (2 - (lg_sl ([.ref (ad 387), .int a1])).length) Slot.unset).toArray = ls at hl ⊢
  have hl : lv_has ls 2 [(0, .ref (ad 387)), (1, .int a1)] := hl
  have hS : va_S (AA ad) s.heap s.heap [] := va_S.rf
  have hF : Fr L_X12_draw σ0 σ0 := Fr.rf
  have hFL : FrL LL_X12_draw τ0 τ0 := FrL.rf
  obtain ⟨hx, hb, _, hown, hts, _, hk, hr, _, _⟩ := C
  refine lv_aload_n hx hb dX12_draw_0 rfl (lv_at hl 0 rfl) ?_
  refine lv_aload_n hx hb dX12_draw_1 rfl (lv_at hl 0 rfl) ?_
  refine fg_12_33 (k := 387) hx hb hts in_X12_draw_12 hown hK hP (by decide) (by decide) (hts _ lk_X12_draw_400) dX12_draw_2 ?_
  refine r_ldcw (v := 1103515245) (n := 1103515245) hx hb hown (hts _ lk_X12_draw_403) dX12_draw_5 (by decide) (fun z1 ez1 => ?_)
  refine r_imulU hx hb dX12_draw_8 (fun z2 => ?_)
  refine r_sipush hx hb dX12_draw_9 (by decide) (fun z3 ez3 => ?_)
  refine r_iaddU hx hb dX12_draw_12 (fun z4 => ?_)
  refine fp_12_33 (k := 387) hx hb hts in_X12_draw_12 hown hK hP (by decide) (by decide) (hts _ lk_X12_draw_400) hI hR hS dX12_draw_13 (fun σ5 H5 locs5 u5 v5 hR hP hS => ?_)
  have hF := hF.puts u5 0 rfl (by decide) (by decide) (by decide) (by decide)
  refine lv_aload_n hx hb dX12_draw_16 rfl (lv_at hl 0 rfl) ?_
  refine fg_12_33 (k := 387) hx hb hts in_X12_draw_12 hown hK hP (by decide) (by decide) (hts _ lk_X12_draw_400) dX12_draw_17 ?_
  refine r_bipush hx hb dX12_draw_20 (by decide) (fun z6 ez6 => ?_)
  refine r_iushr8 hx hb dX12_draw_22 (by omega) (fun z7 ez7 => ?_)
  refine lv_iload_n hx hb dX12_draw_23 rfl (lv_at hl 1 rfl) ?_
  refine r_irem hx hb dX12_draw_24 (by omega) (fun z8 ez8 => ?_)
  have fz8 := ti_tm (a := z7.toInt) (b := a1.toInt) (by omega)
  exact r_iret hx hb hr hK hP hS hk dX12_draw_25 (show P_X12_draw σ0 τ0 a1 z8 σ5 τ0 from ⟨hR, hF, hFL, by omega, by omega⟩)
theorem in_X12_draws_12 : ∀ w ∈ u_ws RX12 TX12 47, w ∈ wsX12_draws := by decide +kernel
theorem lk_X12_draws_33 : Cond.fieldLink RX12 33 "CuckooSharesModel" "s" "[I" ∈ wsX12_draws := by decide +kernel
theorem lk_X12_draws_400 : Cond.fieldLink RX12 400 "CuckooSharesModel" "seed" "I" ∈ wsX12_draws := by decide +kernel
abbrev L_X12_draws : List Rc := [(387, 387, 33, 33), (394, 394, 0, 7), (395, 395, 0, 7), (396, 396, 0, 7), (387, 387, 26, 26), (397, 397, 0, 7), (389, 389, 211, 221), (389, 389, 230, 245)]
abbrev LL_X12_draws : List Rc := []
def P_X12_draws (σ0 : Nat → Nat → Int32) (τ0 : Nat → Nat → Int64) (a1 : Int32) (a2 : Int32) (r : Int32) (σ : Nat → Nat → Int32) (τ : Nat → Nat → Int64) : Prop := Rg σ ∧ Fr L_X12_draws σ0 σ ∧ FrL LL_X12_draws τ0 τ ∧ (0 ≤ r.toInt ∧ r.toInt ≤ 40)
def J_X12_draws_7 (p : Program) (l : Launch) (e : Env) (s : State) (m : MethodId) (args : Array Value) (below : List Frame) (meth : Method) (c : Code) (D : va_G) (cA : Nat → ClassId) (ad : Nat → Nat) (σ0 : Nat → Nat → Int32) (τ0 : Nat → Nat → Int64) (a1 : Int32) (a2 : Int32) (n : Nat) : Prop := ∀ (σ : Nat → Nat → Int32) (τ : Nat → Nat → Int64) (H : Heap) (locs : List Loc) (x3 : Int32) (ls : Array Slot), Rg σ → Fr L_X12_draws σ0 σ → FrL LL_X12_draws τ0 τ → va_P D vwCl (gw cA ad σ τ) H → va_S (AA ad) s.heap H locs → (0 ≤ x3.toInt ∧ x3.toInt ≤ 40) → (SI σ) → lv_has ls 6 [(0, .ref (ad 387)), (1, .int a1), (2, .int a2), (3, .int x3)] → 131 * (40 - x3.toInt) + 130 < (n : Int) → W p l e ({ frames := 6, cells := 0, slots := 0, locals := 140 } : Room) s m args below meth c H locs 0 0 (MQ below (va_Qi (fun (r : Int32) (u : SS) => P_X12_draws σ0 τ0 a1 a2 r u.1 u.2) (WB D cA ad) (AA ad)) args s 0 0 (AA ad)) (F0 m 7 ls [])
def J_X12_draws_28 (p : Program) (l : Launch) (e : Env) (s : State) (m : MethodId) (args : Array Value) (below : List Frame) (meth : Method) (c : Code) (D : va_G) (cA : Nat → ClassId) (ad : Nat → Nat) (σ0 : Nat → Nat → Int32) (τ0 : Nat → Nat → Int64) (a1 : Int32) (a2 : Int32) (n : Nat) : Prop := ∀ (σ : Nat → Nat → Int32) (τ : Nat → Nat → Int64) (H : Heap) (locs : List Loc) (x3 : Int32) (x4 : Int32) (ls : Array Slot), Rg σ → Fr L_X12_draws σ0 σ → FrL LL_X12_draws τ0 τ → va_P D vwCl (gw cA ad σ τ) H → va_S (AA ad) s.heap H locs → (0 ≤ x3.toInt ∧ x3.toInt ≤ 39) → (0 ≤ x4.toInt ∧ x4.toInt ≤ 8) → ((σ 389 211).toInt ≤ 98) → (SI σ) → lv_has ls 6 [(0, .ref (ad 387)), (1, .int a1), (2, .int a2), (3, .int x3), (4, .int x4)] → 13 * (8 - x4.toInt) + 131 * (40 - x3.toInt) + 12 < (n : Int) → W p l e ({ frames := 6, cells := 0, slots := 0, locals := 140 } : Room) s m args below meth c H locs 0 0 (MQ below (va_Qi (fun (r : Int32) (u : SS) => P_X12_draws σ0 τ0 a1 a2 r u.1 u.2) (WB D cA ad) (AA ad)) args s 0 0 (AA ad)) (F0 m 28 ls [])
def J_X12_draws_105 (p : Program) (l : Launch) (e : Env) (s : State) (m : MethodId) (args : Array Value) (below : List Frame) (meth : Method) (c : Code) (D : va_G) (cA : Nat → ClassId) (ad : Nat → Nat) (σ0 : Nat → Nat → Int32) (τ0 : Nat → Nat → Int64) (a1 : Int32) (a2 : Int32) (n : Nat) : Prop := ∀ (σ : Nat → Nat → Int32) (τ : Nat → Nat → Int64) (H : Heap) (locs : List Loc) (x3 : Int32) (x4 : Int32) (x5 : Int32) (ls : Array Slot), Rg σ → Fr L_X12_draws σ0 σ → FrL LL_X12_draws τ0 τ → va_P D vwCl (gw cA ad σ τ) H → va_S (AA ad) s.heap H locs → (0 ≤ x3.toInt ∧ x3.toInt ≤ 39) → (-9 ≤ x4.toInt) → (0 ≤ x5.toInt ∧ x5.toInt ≤ 4) → ((σ 389 211).toInt ≤ 98) → (0 ≤ (σ 389 1).toInt ∧ (σ 389 1).toInt ≤ 8) → (0 ≤ x4.toInt) → (x4.toInt + PSm σ x5.toInt.toNat < PF σ) → (x5.toInt ≤ (σ 389 2).toInt) → (SI σ) → lv_has ls 6 [(0, .ref (ad 387)), (1, .int a1), (2, .int a2), (3, .int x3), (4, .int x4), (5, .int x5)] → 2 * (4 - x5.toInt) + 131 * (40 - x3.toInt) + 1 < (n : Int) → W p l e ({ frames := 6, cells := 0, slots := 0, locals := 140 } : Room) s m args below meth c H locs 0 0 (MQ below (va_Qi (fun (r : Int32) (u : SS) => P_X12_draws σ0 τ0 a1 a2 r u.1 u.2) (WB D cA ad) (AA ad)) args s 0 0 (AA ad)) (F0 m 105 ls [])
set_option maxHeartbeats 4000000 in
theorem B_X12_draws_7 (p : Program) (l : Launch) (e : Env) (s : State) (m : MethodId) (args : Array Value) (below : List Frame) (meth : Method) (c : Code) (D : va_G) (cA : Nat → ClassId) (ad : Nat → Nat) (σ0 : Nat → Nat → Int32) (τ0 : Nat → Nat → Int64) (a1 : Int32) (a2 : Int32) (n : Nat) (C : Cy p s m args meth c cX12_draws 6 wsX12_draws RX12 D cA ad (some .int)) (ha1 : 1 ≤ a1.toInt ∧ a1.toInt ≤ 40) (hpre0 : 1 ≤ (σ0 389 2).toInt) (gSI0 : SI σ0) (K7 : J_X12_draws_7 p l e s m args below meth c D cA ad σ0 τ0 a1 a2 n) (K28 : J_X12_draws_28 p l e s m args below meth c D cA ad σ0 τ0 a1 a2 n) (K105 : J_X12_draws_105 p l e s m args below meth c D cA ad σ0 τ0 a1 a2 n) : J_X12_draws_7 p l e s m args below meth c D cA ad σ0 τ0 a1 a2 (n + 1) := by
  obtain ⟨hx, hb, hml, hown, hts, hK, hk, hr, hI, hN⟩ := C
  intro σ τ H locs x3 ls hR hF hFL hP hS hc0 gSI hl hm
  obtain rfl := FrL.nil hFL
  refine lv_iload_n hx hb dX12_draws_7 rfl (lv_at hl 3 rfl) ?_
  refine lv_iload_n hx hb dX12_draws_8 rfl (lv_at hl 1 rfl) ?_
  refine r_icmp_ge (tgt := 167) hx hb dX12_draws_9 (by decide) (fun c1 => ?_) (fun c1 => ?_)
  · refine lv_iload_n hx hb dX12_draws_167 rfl (lv_at hl 3 rfl) ?_
    exact r_iret hx hb hr hK hP hS hk dX12_draws_168 (show P_X12_draws σ0 τ0 a1 a2 x3 σ τ0 from ⟨hR, hF, hFL, by omega⟩)
  · refine lv_aload_n hx hb dX12_draws_12 rfl (lv_at hl 0 rfl) ?_
    refine fg_12_6 (k := 387) hx hb hts in_X12_draws_12 hown hK hP (by decide) (by decide) (hts _ lk_X12_draws_33) dX12_draws_13 ?_
    refine r_sipush hx hb dX12_draws_16 (by decide) (fun z2 ez2 => ?_)
    refine ad_ms (k := 389) (j := 211) hx hb hK hP (by decide) (by decide) (by omega) (by omega) dX12_draws_19 ?_
    refine r_bipush hx hb dX12_draws_20 (by decide) (fun z3 ez3 => ?_)
    refine r_icmp_ge (tgt := 167) hx hb dX12_draws_22 (by decide) (fun c4 => ?_) (fun c4 => ?_)
    · refine lv_iload_n hx hb dX12_draws_167 rfl (lv_at hl 3 rfl) ?_
      exact r_iret hx hb hr hK hP hS hk dX12_draws_168 (show P_X12_draws σ0 τ0 a1 a2 x3 σ τ0 from ⟨hR, hF, hFL, by omega⟩)
    · refine r_iconst hx hb dX12_draws_25 (by decide) (fun z5 ez5 => ?_)
      refine lv_istore (lv' := [(4, .int z5), (0, .ref (ad 387)), (1, .int a1), (2, .int a2), (3, .int x3)]) hx hb dX12_draws_26 hl (by decide) rfl (fun ls hl => ?_)
      exact K28 σ τ0 H locs x3 z5 ls hR hF hFL hP hS (by omega) (by omega) (by omega) gSI (lv_sub hl [1, 2, 3, 4, 0] rfl) (by omega)
set_option maxHeartbeats 4000000 in
theorem B_X12_draws_28 (p : Program) (l : Launch) (e : Env) (s : State) (m : MethodId) (args : Array Value) (below : List Frame) (meth : Method) (c : Code) (D : va_G) (cA : Nat → ClassId) (ad : Nat → Nat) (σ0 : Nat → Nat → Int32) (τ0 : Nat → Nat → Int64) (a1 : Int32) (a2 : Int32) (n : Nat) (C : Cy p s m args meth c cX12_draws 6 wsX12_draws RX12 D cA ad (some .int)) (ha1 : 1 ≤ a1.toInt ∧ a1.toInt ≤ 40) (hpre0 : 1 ≤ (σ0 389 2).toInt) (gSI0 : SI σ0) (K7 : J_X12_draws_7 p l e s m args below meth c D cA ad σ0 τ0 a1 a2 n) (K28 : J_X12_draws_28 p l e s m args below meth c D cA ad σ0 τ0 a1 a2 n) (K105 : J_X12_draws_105 p l e s m args below meth c D cA ad σ0 τ0 a1 a2 n) : J_X12_draws_28 p l e s m args below meth c D cA ad σ0 τ0 a1 a2 (n + 1) := by
  obtain ⟨hx, hb, hml, hown, hts, hK, hk, hr, hI, hN⟩ := C
  intro σ τ H locs x3 x4 ls hR hF hFL hP hS hc0 hc1 hc2 gSI hl hm
  obtain rfl := FrL.nil hFL
  refine lv_iload hx hb dX12_draws_28 (lv_at hl 4 rfl) ?_
  refine lv_aload_n hx hb dX12_draws_30 rfl (lv_at hl 0 rfl) ?_
  refine fg_12_6 (k := 387) hx hb hts in_X12_draws_12 hown hK hP (by decide) (by decide) (hts _ lk_X12_draws_33) dX12_draws_31 ?_
  refine r_iconst hx hb dX12_draws_34 (by decide) (fun z1 ez1 => ?_)
  refine ad_ms (k := 389) (j := 1) hx hb hK hP (by decide) (by decide) (by omega) (by omega) dX12_draws_35 ?_
  have hr2 := ra_ms_0 hR (k := 389) (j := 1) (by decide) (by decide) (by decide) (by decide)
  refine r_icmp_ge (tgt := 92) hx hb dX12_draws_36 (by decide) (fun c3 => ?_) (fun c3 => ?_)
  · refine lv_aload_n hx hb dX12_draws_92 rfl (lv_at hl 0 rfl) ?_
    refine lv_aload_n hx hb dX12_draws_93 rfl (lv_at hl 0 rfl) ?_
    refine r_cVi (k := 387) (As := []) (rest := [.ref (ad 387)]) ⟨hx, hb, hml, hown, hts⟩ hK hP hN hS (c_X12_chances l D cA ad hI σ τ0 hR gSI) (cwV 0 hts gX12_draws_X12_chances rfl rfl rfl (by decide +kernel) ⟨by decide, by decide⟩) (rv_M hK hP (by decide) (by decide)) rfl hl.1 rfl (Nat.le_of_ble_eq_true rfl) dX12_draws_94 (Nat.zero_le _) (Nat.zero_le _) (fun r4 u4 H4 locs4 hp4 hP hS => ?_)
    obtain ⟨σ4, τ4⟩ := u4
    obtain ⟨hR, f4, fL4, hq4, hp4_0, hp4_1⟩ : P_X12_chances σ τ0 r4 σ4 τ4 := hp4
    have hch := hp4_0
    have hcp := hp4_1
    have hP : va_P D vwCl (gw cA ad σ4 τ4) H4 := hP
    obtain rfl := FrL.nil fL4
    obtain rfl := Fr.nil f4
    have h2e := congrArg Int32.toInt (hF.at 389 2 (by decide))
    refine r_cVi (k := 387) (As := [.int r4]) (rest := []) ⟨hx, hb, hml, hown, hts⟩ hK hP hN hS (c_X12_draw l D cA ad hI σ τ0 hR r4 (by omega)) (cwV 1 hts gX12_draws_X12_draw rfl rfl rfl (by decide +kernel) ⟨by decide, by decide⟩) (rv_M hK hP (by decide) (by decide)) rfl hl.1 rfl (Nat.le_of_ble_eq_true rfl) dX12_draws_97 (Nat.zero_le _) (Nat.zero_le _) (fun r5 u5 H5 locs5 hp5 hP hS => ?_)
    obtain ⟨σ5, τ5⟩ := u5
    obtain ⟨hR, f5, fL5, hq5, hp5_0⟩ : P_X12_draw σ τ0 r4 r5 σ5 τ5 := hp5
    have hP : va_P D vwCl (gw cA ad σ5 τ5) H5 := hP
    obtain rfl := FrL.nil fL5
    have hF := hF.step f5 (by decide)
    have gSI := SI.fr gSI hR f5 (by decide)
    have fn6 : PF σ5 = PF σ := PF_fr hR f5 (by decide)
    have t7 : (σ5 389 211).toInt = (σ 389 211).toInt := congrArg Int32.toInt (f5.at 389 211 (by decide))
    have t8 : (σ5 389 1).toInt = (σ 389 1).toInt := congrArg Int32.toInt (f5.at 389 1 (by decide))
    refine lv_istore (lv' := [(4, .int r5), (0, .ref (ad 387)), (1, .int a1), (2, .int a2), (3, .int x3)]) hx hb dX12_draws_100 hl (by decide) rfl (fun ls hl => ?_)
    refine r_iconst hx hb dX12_draws_102 (by decide) (fun z9 ez9 => ?_)
    refine lv_istore (lv' := [(5, .int z9), (4, .int r5), (0, .ref (ad 387)), (1, .int a1), (2, .int a2), (3, .int x3)]) hx hb dX12_draws_103 hl (by decide) rfl (fun ls hl => ?_)
    have h2r := ra_ms_1 hR (k := 389) (j := 2) (by decide) (by decide) (by decide) (by decide)
    exact K105 σ5 τ0 H5 locs5 x3 r5 z9 ls hR hF hFL hP hS (by omega) (by omega) (by omega) (by omega) (by omega) (by omega) (by first | (have e1 : z9.toInt.toNat = (x5.toInt + 1).toNat := (by omega); rw [e1]; omega) | (have e0 : z9.toInt.toNat = 0 := (by omega); rw [e0]; show r5.toInt + 0 < _; omega)) (by omega) gSI (lv_sub hl [2, 3, 4, 5, 1, 0] rfl) (by omega)
  · refine lv_aload_n hx hb dX12_draws_39 rfl (lv_at hl 0 rfl) ?_
    refine r_iconst hx hb dX12_draws_40 (by decide) (fun z10 ez10 => ?_)
    refine r_cVi (k := 387) (As := [.int z10]) (rest := []) ⟨hx, hb, hml, hown, hts⟩ hK hP hN hS (c_X12_draw l D cA ad hI σ τ0 hR z10 (by omega)) (cwV 1 hts gX12_draws_X12_draw rfl rfl rfl (by decide +kernel) ⟨by decide, by decide⟩) (rv_M hK hP (by decide) (by decide)) rfl hl.1 rfl (Nat.le_of_ble_eq_true rfl) dX12_draws_41 (Nat.zero_le _) (Nat.zero_le _) (fun r11 u11 H11 locs11 hp11 hP hS => ?_)
    obtain ⟨σ11, τ11⟩ := u11
    obtain ⟨hR, f11, fL11, hq11, hp11_0⟩ : P_X12_draw σ τ0 z10 r11 σ11 τ11 := hp11
    have hP : va_P D vwCl (gw cA ad σ11 τ11) H11 := hP
    obtain rfl := FrL.nil fL11
    have hF := hF.step f11 (by decide)
    have gSI := SI.fr gSI hR f11 (by decide)
    have fn12 : PF σ11 = PF σ := PF_fr hR f11 (by decide)
    have t13 : (σ11 389 211).toInt = (σ 389 211).toInt := congrArg Int32.toInt (f11.at 389 211 (by decide))
    have t14 : (σ11 389 1).toInt = (σ 389 1).toInt := congrArg Int32.toInt (f11.at 389 1 (by decide))
    refine r_if_le (tgt := 50) hx hb dX12_draws_44 (by decide) (fun c15 => ?_) (fun c15 => ?_)
    · refine lv_aload_n hx hb dX12_draws_50 rfl (lv_at hl 0 rfl) ?_
      refine lv_aload_n hx hb dX12_draws_51 rfl (lv_at hl 0 rfl) ?_
      refine fg_12_6 (k := 387) hx hb hts in_X12_draws_12 hown hK hP (by decide) (by decide) (hts _ lk_X12_draws_33) dX12_draws_52 ?_
      refine r_iconst hx hb dX12_draws_55 (by decide) (fun z16 ez16 => ?_)
      refine ad_ms (k := 389) (j := 0) hx hb hK hP (by decide) (by decide) (by omega) (by omega) dX12_draws_56 ?_
      have hr17 := ra_ms_0 hR (k := 389) (j := 0) (by decide) (by decide) (by decide) (by decide)
      have h1e := gSI.2.2
      refine r_cVi (k := 387) (As := [.int (σ11 389 0)]) (rest := []) ⟨hx, hb, hml, hown, hts⟩ hK hP hN hS (c_X12_draw l D cA ad hI σ11 τ0 hR (σ11 389 0) (by omega)) (cwV 1 hts gX12_draws_X12_draw rfl rfl rfl (by decide +kernel) ⟨by decide, by decide⟩) (rv_M hK hP (by decide) (by decide)) rfl hl.1 rfl (Nat.le_of_ble_eq_true rfl) dX12_draws_57 (Nat.zero_le _) (Nat.zero_le _) (fun r18 u18 H18 locs18 hp18 hP hS => ?_)
      obtain ⟨σ18, τ18⟩ := u18
      obtain ⟨hR, f18, fL18, hq18, hp18_0⟩ : P_X12_draw σ11 τ0 (σ11 389 0) r18 σ18 τ18 := hp18
      have hP : va_P D vwCl (gw cA ad σ18 τ18) H18 := hP
      obtain rfl := FrL.nil fL18
      have hF := hF.step f18 (by decide)
      have gSI := SI.fr gSI hR f18 (by decide)
      have fn19 : PF σ18 = PF σ11 := PF_fr hR f18 (by decide)
      have t20 : (σ18 389 211).toInt = (σ11 389 211).toInt := congrArg Int32.toInt (f18.at 389 211 (by decide))
      have t21 : (σ18 389 1).toInt = (σ11 389 1).toInt := congrArg Int32.toInt (f18.at 389 1 (by decide))
      have t22 : (σ18 389 0).toInt = (σ11 389 0).toInt := congrArg Int32.toInt (f18.at 389 0 (by decide))
      refine lv_istore (lv' := [(5, .int r18), (0, .ref (ad 387)), (1, .int a1), (2, .int a2), (3, .int x3), (4, .int x4)]) hx hb dX12_draws_60 hl (by decide) rfl (fun ls hl => ?_)
      refine lv_aload_n hx hb dX12_draws_62 rfl (lv_at hl 1 rfl) ?_
      refine lv_iload hx hb dX12_draws_63 (lv_at hl 5 rfl) ?_
      refine lv_iload hx hb dX12_draws_65 (lv_at hl 0 rfl) ?_
      refine r_cVi (k := 387) (As := [.int x4, .int r18]) (rest := []) ⟨hx, hb, hml, hown, hts⟩ hK hP hN hS (c_X12_whyMove l D cA ad hI σ18 τ0 hR x4 r18 (by omega)) (cwV 2 hts gX12_draws_X12_whyMove rfl rfl rfl (by decide +kernel) ⟨by decide, by decide⟩) (rv_M hK hP (by decide) (by decide)) rfl hl.1 rfl (Nat.le_of_ble_eq_true rfl) dX12_draws_67 (Nat.zero_le _) (Nat.zero_le _) (fun r23 u23 H23 locs23 hp23 hP hS => ?_)
      obtain ⟨σ23, τ23⟩ := u23
      obtain ⟨hR, f23, fL23, hq23⟩ : P_X12_whyMove σ18 τ0 x4 r18 r23 σ23 τ23 := hp23
      have hP : va_P D vwCl (gw cA ad σ23 τ23) H23 := hP
      obtain rfl := FrL.nil fL23
      obtain rfl := Fr.nil f23
      refine r_if_ne (tgt := 86) hx hb dX12_draws_70 (by decide) (fun c24 => ?_) (fun c24 => ?_)
      · refine r_iinc (k := 5) (lv1 := fun z25 => [(4, .int z25), (5, .int r18), (0, .ref (ad 387)), (1, .int a1), (2, .int a2), (3, .int x3)]) hx hb dX12_draws_86 hl rfl (by decide) (fun _ => rfl) (by decide) (by omega) (fun z25 ls ez25 hl => ?_)
        refine lv_goto (tgt := 28) hx hb dX12_draws_89 (by decide) ?_
        exact K28 σ18 τ0 H23 locs23 x3 z25 ls hR hF hFL hP hS (by omega) (by omega) (by omega) gSI (lv_sub hl [2, 3, 4, 5, 0] rfl) (by omega)
      · refine lv_aload_n hx hb dX12_draws_73 rfl (lv_at hl 1 rfl) ?_
        refine fg_12_6 (k := 387) hx hb hts in_X12_draws_12 hown hK hP (by decide) (by decide) (hts _ lk_X12_draws_33) dX12_draws_74 ?_
        refine r_sipush hx hb dX12_draws_77 (by decide) (fun z26 ez26 => ?_)
        refine lv_iload hx hb dX12_draws_80 (lv_at hl 5 rfl) ?_
        refine r_iadd hx hb dX12_draws_82 (by omega) (fun z27 ez27 => ?_)
        refine lv_iload hx hb dX12_draws_83 (lv_at hl 0 rfl) ?_
        obtain ⟨j28, ej28⟩ : ∃ j : Nat, z27.toInt = (j : Int) := ⟨_, ti_nat (by omega)⟩
        refine as_ms (k := 389) (j := j28) hx hb hK hP hI hR hS (by decide) (by decide) ej28 (by omega) (rw_ms_6 (by decide) (by decide) (by omega) (by omega) (by omega)) dX12_draws_85 (fun σ29 H29 locs29 u29 v29 hR hP hS => ?_)
        have hF := hF.puts u29 6 rfl (by decide) (by decide) (by omega) (by omega)
        have gSI := SI.putV gSI hR u29 (by intro q hq; simp only [Gd_SI, List.mem_cons, List.not_mem_nil, or_false] at hq; rcases hq with rfl | rfl | rfl <;> dsimp only [inRc] <;> omega)
        have fn30 : PF σ29 = PF σ18 := PF_putV hR u29 (by intro q hq; simp only [Gd_PF, List.mem_cons, List.not_mem_nil, or_false] at hq; rcases hq with rfl | rfl <;> dsimp only [inRc] <;> omega)
        have t31 : (σ29 389 211).toInt = (σ18 389 211).toInt := congrArg Int32.toInt (u29 389 211 (by omega))
        have t32 : (σ29 389 1).toInt = (σ18 389 1).toInt := congrArg Int32.toInt (u29 389 1 (by omega))
        have t33 : (σ29 389 0).toInt = (σ18 389 0).toInt := congrArg Int32.toInt (u29 389 0 (by omega))
        refine r_iinc (k := 5) (lv1 := fun z34 => [(4, .int z34), (5, .int r18), (0, .ref (ad 387)), (1, .int a1), (2, .int a2), (3, .int x3)]) hx hb dX12_draws_86 hl rfl (by decide) (fun _ => rfl) (by decide) (by omega) (fun z34 ls ez34 hl => ?_)
        refine lv_goto (tgt := 28) hx hb dX12_draws_89 (by decide) ?_
        exact K28 σ29 τ0 H29 locs29 x3 z34 ls hR hF hFL hP hS (by omega) (by omega) (by omega) gSI (lv_sub hl [2, 3, 4, 5, 0] rfl) (by omega)
    · refine lv_goto (tgt := 86) hx hb dX12_draws_47 (by decide) ?_
      refine r_iinc (k := 4) (lv1 := fun z35 => [(4, .int z35), (0, .ref (ad 387)), (1, .int a1), (2, .int a2), (3, .int x3)]) hx hb dX12_draws_86 hl rfl (by decide) (fun _ => rfl) (by decide) (by omega) (fun z35 ls ez35 hl => ?_)
      refine lv_goto (tgt := 28) hx hb dX12_draws_89 (by decide) ?_
      exact K28 σ11 τ0 H11 locs11 x3 z35 ls hR hF hFL hP hS (by omega) (by omega) (by omega) gSI (lv_sub hl [1, 2, 3, 4, 0] rfl) (by omega)
set_option maxHeartbeats 4000000 in
theorem B_X12_draws_105 (p : Program) (l : Launch) (e : Env) (s : State) (m : MethodId) (args : Array Value) (below : List Frame) (meth : Method) (c : Code) (D : va_G) (cA : Nat → ClassId) (ad : Nat → Nat) (σ0 : Nat → Nat → Int32) (τ0 : Nat → Nat → Int64) (a1 : Int32) (a2 : Int32) (n : Nat) (C : Cy p s m args meth c cX12_draws 6 wsX12_draws RX12 D cA ad (some .int)) (ha1 : 1 ≤ a1.toInt ∧ a1.toInt ≤ 40) (hpre0 : 1 ≤ (σ0 389 2).toInt) (gSI0 : SI σ0) (K7 : J_X12_draws_7 p l e s m args below meth c D cA ad σ0 τ0 a1 a2 n) (K28 : J_X12_draws_28 p l e s m args below meth c D cA ad σ0 τ0 a1 a2 n) (K105 : J_X12_draws_105 p l e s m args below meth c D cA ad σ0 τ0 a1 a2 n) : J_X12_draws_105 p l e s m args below meth c D cA ad σ0 τ0 a1 a2 (n + 1) := by
  obtain ⟨hx, hb, hml, hown, hts, hK, hk, hr, hI, hN⟩ := C
  intro σ τ H locs x3 x4 x5 ls hR hF hFL hP hS hc0 hc1 hc2 hc3 hc4 hi0 hi1 hi2 gSI hl hm
  obtain rfl := FrL.nil hFL
  have h2r := ra_ms_1 hR (k := 389) (j := 2) (by decide) (by decide) (by decide) (by decide)
  have hlt := PF_lt hi0 (by omega) (by omega) hi1
  refine lv_iload hx hb dX12_draws_105 (lv_at hl 4 rfl) ?_
  refine lv_aload_n hx hb dX12_draws_107 rfl (lv_at hl 0 rfl) ?_
  refine fg_12_6 (k := 387) hx hb hts in_X12_draws_12 hown hK hP (by decide) (by decide) (hts _ lk_X12_draws_33) dX12_draws_108 ?_
  refine r_bipush hx hb dX12_draws_111 (by decide) (fun z1 ez1 => ?_)
  refine lv_iload hx hb dX12_draws_113 (lv_at hl 5 rfl) ?_
  refine r_iadd hx hb dX12_draws_115 (by omega) (fun z2 ez2 => ?_)
  obtain ⟨j3, ej3⟩ : ∃ j : Nat, z2.toInt = (j : Int) := ⟨_, ti_nat (by omega)⟩
  refine ad_ms (k := 389) (j := j3) hx hb hK hP (by decide) (by decide) ej3 (by omega) dX12_draws_116 ?_
  have hz := gSI.ch (x := x5) (j := j3) (by omega) (by omega) (by omega)
  refine r_icmp_lt (tgt := 141) hx hb dX12_draws_117 (by decide) (fun c4 => ?_) (fun c4 => ?_)
  · refine lv_aload_n hx hb dX12_draws_141 rfl (lv_at hl 0 rfl) ?_
    refine r_cVv (k := 387) (As := []) (rest := []) ⟨hx, hb, hml, hown, hts⟩ hK hP hN hS (c_X12_asNow l D cA ad hI σ τ0 hR) (cwV 0 hts gX12_draws_X12_asNow rfl rfl rfl (by decide +kernel) ⟨by decide, by decide⟩) (rv_M hK hP (by decide) (by decide)) rfl hl.1 rfl (Nat.le_of_ble_eq_true rfl) dX12_draws_142 (Nat.zero_le _) (Nat.zero_le _) (fun u5 H5 locs5 hp5 hP hS => ?_)
    obtain ⟨σ5, τ5⟩ := u5
    obtain ⟨hR, f5, fL5⟩ : P_X12_asNow σ τ0 σ5 τ5 := hp5
    have hP : va_P D vwCl (gw cA ad σ5 τ5) H5 := hP
    obtain rfl := FrL.nil fL5
    have hF := hF.step f5 (by decide)
    have gSI := SI.fr gSI hR f5 (by decide)
    have fn6 : PF σ5 = PF σ := PF_fr hR f5 (by decide)
    have t7 : (σ5 389 211).toInt = (σ 389 211).toInt := congrArg Int32.toInt (f5.at 389 211 (by decide))
    have t8 : (σ5 389 1).toInt = (σ 389 1).toInt := congrArg Int32.toInt (f5.at 389 1 (by decide))
    have t9 : (σ5 389 j3).toInt = (σ 389 j3).toInt := congrArg Int32.toInt (f5.atV 389 j3 (by intro q hq; simp only [L_X12_asNow, List.mem_cons, List.not_mem_nil, or_false] at hq; rcases hq with rfl | rfl | rfl <;> dsimp only <;> omega))
    refine lv_aload_n hx hb dX12_draws_145 rfl (lv_at hl 0 rfl) ?_
    refine lv_iload hx hb dX12_draws_146 (lv_at hl 5 rfl) ?_
    refine lv_aload_n hx hb dX12_draws_148 rfl (lv_at hl 0 rfl) ?_
    refine fg_12_6 (k := 387) hx hb hts in_X12_draws_12 hown hK hP (by decide) (by decide) (hts _ lk_X12_draws_33) dX12_draws_149 ?_
    refine r_iconst hx hb dX12_draws_152 (by decide) (fun z10 ez10 => ?_)
    refine ad_ms (k := 389) (j := 4) hx hb hK hP (by decide) (by decide) (by omega) (by omega) dX12_draws_153 ?_
    refine r_cVv (k := 387) (As := [.int x5, .int (σ5 389 4)]) (rest := []) ⟨hx, hb, hml, hown, hts⟩ hK hP hN hS (c_X12_sharesBy l D cA ad hI σ5 τ0 hR x5 (σ5 389 4) (by omega)) (cwV 2 hts gX12_draws_X12_sharesBy rfl rfl rfl (by decide +kernel) ⟨by decide, by decide⟩) (rv_M hK hP (by decide) (by decide)) rfl hl.1 rfl (Nat.le_of_ble_eq_true rfl) dX12_draws_154 (Nat.zero_le _) (Nat.zero_le _) (fun u11 H11 locs11 hp11 hP hS => ?_)
    obtain ⟨σ11, τ11⟩ := u11
    obtain ⟨hR, f11, fL11⟩ : P_X12_sharesBy σ5 τ0 x5 (σ5 389 4) σ11 τ11 := hp11
    have hP : va_P D vwCl (gw cA ad σ11 τ11) H11 := hP
    obtain rfl := FrL.nil fL11
    have hF := hF.step f11 (by decide)
    have gSI := SI.fr gSI hR f11 (by decide)
    have fn12 : PF σ11 = PF σ5 := PF_fr hR f11 (by decide)
    have t13 : (σ11 389 211).toInt = (σ5 389 211).toInt := congrArg Int32.toInt (f11.at 389 211 (by decide))
    have t14 : (σ11 389 1).toInt = (σ5 389 1).toInt := congrArg Int32.toInt (f11.at 389 1 (by decide))
    have t15 : (σ11 389 j3).toInt = (σ5 389 j3).toInt := congrArg Int32.toInt (f11.atV 389 j3 (by intro q hq; simp only [L_X12_sharesBy, List.mem_cons, List.not_mem_nil, or_false] at hq; rcases hq with rfl | rfl <;> dsimp only <;> omega))
    have t16 : (σ11 389 4).toInt = (σ5 389 4).toInt := congrArg Int32.toInt (f11.at 389 4 (by decide))
    refine lv_aload_n hx hb dX12_draws_157 rfl (lv_at hl 0 rfl) ?_
    refine r_cVv (k := 387) (As := []) (rest := []) ⟨hx, hb, hml, hown, hts⟩ hK hP hN hS (c_X12_ends l D cA ad hI σ11 τ0 hR) (cwV 0 hts gX12_draws_X12_ends rfl rfl rfl (by decide +kernel) ⟨by decide, by decide⟩) (rv_M hK hP (by decide) (by decide)) rfl hl.1 rfl (Nat.le_of_ble_eq_true rfl) dX12_draws_158 (Nat.zero_le _) (Nat.zero_le _) (fun u17 H17 locs17 hp17 hP hS => ?_)
    obtain ⟨σ17, τ17⟩ := u17
    obtain ⟨hR, f17, fL17⟩ : P_X12_ends σ11 τ0 σ17 τ17 := hp17
    have hP : va_P D vwCl (gw cA ad σ17 τ17) H17 := hP
    obtain rfl := FrL.nil fL17
    have hF := hF.step f17 (by decide)
    have gSI := SI.fr gSI hR f17 (by decide)
    have fn18 : PF σ17 = PF σ11 := PF_fr hR f17 (by decide)
    have t19 : (σ17 389 1).toInt = (σ11 389 1).toInt := congrArg Int32.toInt (f17.at 389 1 (by decide))
    have t20 : (σ17 389 j3).toInt = (σ11 389 j3).toInt := congrArg Int32.toInt (f17.atV 389 j3 (by intro q hq; simp only [L_X12_ends, List.mem_cons, List.not_mem_nil, or_false] at hq; rcases hq with rfl | rfl <;> dsimp only <;> omega))
    have t21 : (σ17 389 4).toInt = (σ11 389 4).toInt := congrArg Int32.toInt (f17.at 389 4 (by decide))
    refine r_iinc (k := 3) (lv1 := fun z22 => [(3, .int z22), (0, .ref (ad 387)), (1, .int a1), (2, .int a2), (4, .int x4), (5, .int x5)]) hx hb dX12_draws_161 hl rfl (by decide) (fun _ => rfl) (by decide) (by omega) (fun z22 ls ez22 hl => ?_)
    refine lv_goto (tgt := 7) hx hb dX12_draws_164 (by decide) ?_
    exact K7 σ17 τ0 H17 locs17 z22 ls hR hF hFL hP hS (by omega) gSI (lv_sub hl [1, 2, 3, 0] rfl) (by omega)
  · refine lv_iload hx hb dX12_draws_120 (lv_at hl 4 rfl) ?_
    refine lv_aload_n hx hb dX12_draws_122 rfl (lv_at hl 0 rfl) ?_
    refine fg_12_6 (k := 387) hx hb hts in_X12_draws_12 hown hK hP (by decide) (by decide) (hts _ lk_X12_draws_33) dX12_draws_123 ?_
    refine r_bipush hx hb dX12_draws_126 (by decide) (fun z23 ez23 => ?_)
    refine lv_iload hx hb dX12_draws_128 (lv_at hl 5 rfl) ?_
    refine r_iadd hx hb dX12_draws_130 (by omega) (fun z24 ez24 => ?_)
    refine ad_ms (k := 389) (j := j3) hx hb hK hP (by decide) (by decide) (by omega) (by omega) dX12_draws_131 ?_
    have b26 := And.intro (ti_lo x4) (ti_hi x4)
    refine r_isub hx hb dX12_draws_132 (by omega) (fun z25 ez25 => ?_)
    refine lv_istore (lv' := [(4, .int z25), (0, .ref (ad 387)), (1, .int a1), (2, .int a2), (3, .int x3), (5, .int x5)]) hx hb dX12_draws_133 hl (by decide) rfl (fun ls hl => ?_)
    refine r_iinc (k := 5) (lv1 := fun z27 => [(5, .int z27), (4, .int z25), (0, .ref (ad 387)), (1, .int a1), (2, .int a2), (3, .int x3)]) hx hb dX12_draws_135 hl rfl (by decide) (fun _ => rfl) (by decide) (by omega) (fun z27 ls ez27 hl => ?_)
    refine lv_goto (tgt := 105) hx hb dX12_draws_138 (by decide) ?_
    have h2r := ra_ms_1 hR (k := 389) (j := 2) (by decide) (by decide) (by decide) (by decide)
    exact K105 σ τ0 H locs x3 z25 z27 ls hR hF hFL hP hS (by omega) (by omega) (by omega) (by omega) (by omega) (by omega) (by first | (have e1 : z27.toInt.toNat = (x5.toInt + 1).toNat := (by omega); rw [e1]; omega) | (have e0 : z27.toInt.toNat = 0 := (by omega); rw [e0]; show z25.toInt + 0 < _; omega)) (by omega) gSI (lv_sub hl [2, 3, 4, 5, 1, 0] rfl) (by omega)
theorem A_X12_draws (p : Program) (l : Launch) (e : Env) (s : State) (m : MethodId) (args : Array Value) (below : List Frame) (meth : Method) (c : Code) (D : va_G) (cA : Nat → ClassId) (ad : Nat → Nat) (σ0 : Nat → Nat → Int32) (τ0 : Nat → Nat → Int64) (a1 : Int32) (a2 : Int32) (C : Cy p s m args meth c cX12_draws 6 wsX12_draws RX12 D cA ad (some .int)) (ha1 : 1 ≤ a1.toInt ∧ a1.toInt ≤ 40) (hpre0 : 1 ≤ (σ0 389 2).toInt) (gSI0 : SI σ0) : ∀ n : Nat, J_X12_draws_7 p l e s m args below meth c D cA ad σ0 τ0 a1 a2 n ∧ J_X12_draws_28 p l e s m args below meth c D cA ad σ0 τ0 a1 a2 n ∧ J_X12_draws_105 p l e s m args below meth c D cA ad σ0 τ0 a1 a2 n := by
  intro n
  induction n with
  | zero =>
    exact ⟨(by intro σ τ H locs x3 ls hR hF hFL hP hS hc0 gSI hl hm; exfalso; omega), (by intro σ τ H locs x3 x4 ls hR hF hFL hP hS hc0 hc1 hc2 gSI hl hm; exfalso; omega), (by intro σ τ H locs x3 x4 x5 ls hR hF hFL hP hS hc0 hc1 hc2 hc3 hc4 hi0 hi1 hi2 gSI hl hm; exfalso; omega)⟩
  | succ n ih =>
    exact ⟨B_X12_draws_7 p l e s m args below meth c D cA ad σ0 τ0 a1 a2 n C ha1 hpre0 gSI0 ih.1 ih.2.1 ih.2.2, B_X12_draws_28 p l e s m args below meth c D cA ad σ0 τ0 a1 a2 n C ha1 hpre0 gSI0 ih.1 ih.2.1 ih.2.2, B_X12_draws_105 p l e s m args below meth c D cA ad σ0 τ0 a1 a2 n C ha1 hpre0 gSI0 ih.1 ih.2.1 ih.2.2⟩
set_option maxHeartbeats 4000000 in
theorem c_X12_draws (l : Launch) (D : va_G) (cA : Nat → ClassId) (ad : Nat → Nat) (hI : Inj ad) (σ0 : Nat → Nat → Int32) (τ0 : Nat → Nat → Int64) (hR : Rg σ0) (a1 : Int32) (a2 : Int32) (ha1 : 1 ≤ a1.toInt ∧ a1.toInt ≤ 40) (hpre0 : 1 ≤ (σ0 389 2).toInt) (gSI0 : SI σ0) : Met l yX12_draws wsX12_draws ({ frames := 6, cells := 0, slots := 0, locals := 140 } : Room) (WQc D cA ad [.ref (ad 387), .int a1, .int a2] σ0 τ0) (va_Qi (fun (r : Int32) (u : SS) => P_X12_draws σ0 τ0 a1 a2 r u.1 u.2) (WB D cA ad) (AA ad)) 0 0 (AA ad) := by
  refine Met.ofW (cc := cX12_draws) (maxL := 6) (ret := (some .int)) (by decide) rfl ?_
  intro p e s m args below meth c s₁ B hml hv
  obtain ⟨rfl, hP, hK, hN⟩ := hv
  have C : Cy p s m _ meth c cX12_draws 6 wsX12_draws RX12 D cA ad (some .int) := ⟨B.exec, B.bytes, hml, findClass_of_methodNamed B.named, atoms_spec (ws := wsX12_draws) B.pre, hK, B.notSynchronized, B.returns, hI, hN⟩
  have hl := lv_entry ([.ref (ad 387), .int a1, .int a2]) (n := 6) (Nat.le_of_ble_eq_true rfl)
  rw [lg_entry_eq]
  generalize (lg_sl ([.ref (ad 387), .int a1, .int a2]) ++ List.replicate (6 - (lg_sl ([.ref (ad 387), .int a1, .int a2])).length) Slot.unset).toArray = ls at hl ⊢
  have hl : lv_has ls 6 [(0, .ref (ad 387)), (1, .int a1), (2, .int a2)] := hl
  have hS : va_S (AA ad) s.heap s.heap [] := va_S.rf
  have hF : Fr L_X12_draws σ0 σ0 := Fr.rf
  have hFL : FrL LL_X12_draws τ0 τ0 := FrL.rf
  have gSI := gSI0
  have hA := A_X12_draws p l e s m _ below meth c D cA ad σ0 τ0 a1 a2 C ha1 hpre0 gSI0 11004
  have K7 := hA.1
  have K28 := hA.2.1
  have K105 := hA.2.2
  clear hA
  obtain ⟨hx, hb, _, hown, hts, _, hk, hr, _, _⟩ := C
  refine lv_aload_n hx hb dX12_draws_0 rfl (lv_at hl 0 rfl) ?_
  refine lv_iload_n hx hb dX12_draws_1 rfl (lv_at hl 2 rfl) ?_
  refine fp_12_33 (k := 387) hx hb hts in_X12_draws_12 hown hK hP (by decide) (by decide) (hts _ lk_X12_draws_400) hI hR hS dX12_draws_2 (fun σ1 H1 locs1 u1 v1 hR hP hS => ?_)
  have hF := hF.puts u1 0 rfl (by decide) (by decide) (by decide) (by decide)
  have gSI := SI.put gSI hR u1 (by decide)
  have fn2 : PF σ1 = PF σ0 := PF_put hR u1 (by decide)
  refine r_iconst hx hb dX12_draws_5 (by decide) (fun z3 ez3 => ?_)
  refine lv_istore_n (lv' := [(3, .int z3), (0, .ref (ad 387)), (1, .int a1), (2, .int a2)]) hx hb dX12_draws_6 rfl hl (by decide) rfl (fun ls hl => ?_)
  exact K7 σ1 τ0 H1 locs1 z3 ls hR hF hFL hP hS (by omega) gSI (lv_sub hl [1, 2, 3, 0] rfl) (by omega)
