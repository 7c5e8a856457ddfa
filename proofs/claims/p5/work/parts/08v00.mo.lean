theorem in_X12_four_12 : ∀ w ∈ u_ws RX12 TX12 47, w ∈ wsX12_four := by decide +kernel
theorem lk_X12_four_14 : Cond.fieldLink RX12 14 "CuckooSharesModel" "tape" "[B" ∈ wsX12_four := by decide +kernel
theorem lk_X12_four_7 : Cond.fieldLink RX12 7 "CuckooSharesModel" "length" "I" ∈ wsX12_four := by decide +kernel
abbrev L_X12_four : List Rc := [(388, 388, 0, 939), (387, 387, 2, 2)]
abbrev LL_X12_four : List Rc := []
def P_X12_four (σ0 : Nat → Nat → Int32) (τ0 : Nat → Nat → Int64) (a1 : Int32) (σ : Nat → Nat → Int32) (τ : Nat → Nat → Int64) : Prop := Rg σ ∧ Fr L_X12_four σ0 σ ∧ FrL LL_X12_four τ0 τ ∧ ((σ 387 2).toInt = (σ0 387 2).toInt + 4) ∧ (B4 σ0 σ 388 (σ0 387 2).toInt.toNat a1)
def J_X12_four_3 (p : Program) (l : Launch) (e : Env) (s : State) (m : MethodId) (args : Array Value) (below : List Frame) (meth : Method) (c : Code) (D : va_G) (cA : Nat → ClassId) (ad : Nat → Nat) (σ0 : Nat → Nat → Int32) (τ0 : Nat → Nat → Int64) (a1 : Int32) (n : Nat) : Prop := ∀ (σ : Nat → Nat → Int32) (τ : Nat → Nat → Int64) (H : Heap) (locs : List Loc) (x2 : Int32) (ls : Array Slot), Rg σ → Fr L_X12_four σ0 σ → FrL LL_X12_four τ0 τ → va_P D vwCl (gw cA ad σ τ) H → va_S (AA ad) s.heap H locs → (-8 ≤ x2.toInt ∧ x2.toInt ≤ 24) → (0 ≤ (σ 387 2).toInt ∧ (σ 387 2).toInt ≤ 940) → (8 * (σ 387 2).toInt = 8 * (σ0 387 2).toInt + 24 - x2.toInt) → (∀ i : Nat, 8 * (i : Int) < 24 - x2.toInt → σ 388 ((σ0 387 2).toInt.toNat + i) = bt a1 (sh i)) → (∀ i : Nat, i < (σ0 387 2).toInt.toNat → σ 388 i = σ0 388 i) → lv_has ls 3 [(0, .ref (ad 387)), (1, .int a1), (2, .int x2)] → 2 * (x2.toInt - -8) + 1 < (n : Int) → W p l e ({ frames := 0, cells := 0, slots := 0, locals := 0 } : Room) s m args below meth c H locs 0 0 (MQ below (va_Qv (fun u : SS => P_X12_four σ0 τ0 a1 u.1 u.2) (WB D cA ad) (AA ad)) args s 0 0 (AA ad)) (F0 m 3 ls [])
set_option maxHeartbeats 4000000 in
theorem B_X12_four_3 (p : Program) (l : Launch) (e : Env) (s : State) (m : MethodId) (args : Array Value) (below : List Frame) (meth : Method) (c : Code) (D : va_G) (cA : Nat → ClassId) (ad : Nat → Nat) (σ0 : Nat → Nat → Int32) (τ0 : Nat → Nat → Int64) (a1 : Int32) (n : Nat) (C : Cy p s m args meth c cX12_four 3 wsX12_four RX12 D cA ad none) (hpre0 : 0 ≤ (σ0 387 2).toInt ∧ (σ0 387 2).toInt ≤ 936) (K3 : J_X12_four_3 p l e s m args below meth c D cA ad σ0 τ0 a1 n) : J_X12_four_3 p l e s m args below meth c D cA ad σ0 τ0 a1 (n + 1) := by
  obtain ⟨hx, hb, hml, hown, hts, hK, hk, hr, hI, hN⟩ := C
  intro σ τ H locs x2 ls hR hF hFL hP hS hc0 hc1 hi0 hi1 hi2 hl hm
  obtain rfl := FrL.nil hFL
  refine lv_iload_n hx hb dX12_four_3 rfl (lv_at hl 2 rfl) ?_
  refine r_if_lt (tgt := 36) hx hb dX12_four_4 (by decide) (fun c1 => ?_) (fun c1 => ?_)
  · exact r_vret hx hb hr hK hP hS hk dX12_four_36 (show P_X12_four σ0 τ0 a1 σ τ0 from ⟨hR, hF, hFL, by omega, ⟨fun i hi => hi1 i (by omega), hi2⟩⟩)
  · refine lv_aload_n hx hb dX12_four_7 rfl (lv_at hl 0 rfl) ?_
    refine fg_12_1 (k := 387) hx hb hts in_X12_four_12 hown hK hP (by decide) (by decide) (hts _ lk_X12_four_14) dX12_four_8 ?_
    refine lv_aload_n hx hb dX12_four_11 rfl (lv_at hl 0 rfl) ?_
    refine fg_12_2 (k := 387) hx hb hts in_X12_four_12 hown hK hP (by decide) (by decide) (hts _ lk_X12_four_7) dX12_four_12 ?_
    refine lv_iload_n hx hb dX12_four_15 rfl (lv_at hl 1 rfl) ?_
    refine lv_iload_n hx hb dX12_four_16 rfl (lv_at hl 2 rfl) ?_
    refine lv_ishr hx hb dX12_four_17 ?_
    refine lv_i2b (v := ((a1 >>> (x2 &&& 31)).toInt8.toInt32)) hx hb dX12_four_18 rfl ?_
    obtain ⟨j2, ej2⟩ : ∃ j : Nat, (σ 387 2).toInt = (j : Int) := ⟨_, ti_nat (by omega)⟩
    refine as_mtapeE (k := 388) (j := j2) hx hb hK hP hI hR hS (by decide) (by decide) ej2 (by omega) dX12_four_19 (fun σ3 H3 locs3 u3 v3 hR hP hS => ?_)
    have ub := u3
    have wb := v3
    have hF := hF.puts u3 0 rfl (by decide) (by decide) (by omega) (by omega)
    have t4 : (σ3 387 2).toInt = (σ 387 2).toInt := congrArg Int32.toInt (u3 387 2 (by omega))
    refine lv_aload_n hx hb dX12_four_20 rfl (lv_at hl 0 rfl) ?_
    refine lv_dup hx hb dX12_four_21 rfl ?_
    refine fg_12_2 (k := 387) hx hb hts in_X12_four_12 hown hK hP (by decide) (by decide) (hts _ lk_X12_four_7) dX12_four_22 ?_
    refine r_iconst hx hb dX12_four_25 (by decide) (fun z5 ez5 => ?_)
    refine r_iadd hx hb dX12_four_26 (by omega) (fun z6 ez6 => ?_)
    refine fp_12_2 (k := 387) hx hb hts in_X12_four_12 hown hK hP (by decide) (by decide) (hts _ lk_X12_four_7) hI hR hS (by omega) dX12_four_27 (fun σ7 H7 locs7 u7 v7 hR hP hS => ?_)
    have us := u7
    have vs := v7
    have hF := hF.puts u7 1 rfl (by decide) (by decide) (by decide) (by decide)
    refine r_iinc (k := 2) (lv1 := fun z8 => [(2, .int z8), (0, .ref (ad 387)), (1, .int a1)]) hx hb dX12_four_30 hl rfl (by decide) (fun _ => rfl) (by decide) (by omega) (fun z8 ls ez8 hl => ?_)
    refine lv_goto (tgt := 3) hx hb dX12_four_33 (by decide) ?_
    exact K3 σ7 τ0 H7 locs7 z8 ls hR hF hFL hP hS (by omega) (by omega) (by omega) (by first | exact (fun i hi => absurd hi (by omega)) | exact BYs hi1 ub wb us (by decide) (by omega) (by omega) (by omega) | (exfalso; omega)) (by first | exact (fun _ _ => rfl) | exact BYk hi2 ub us (by decide) (by omega) | (exfalso; omega)) (lv_sub hl [1, 2, 0] rfl) (by omega)
theorem A_X12_four (p : Program) (l : Launch) (e : Env) (s : State) (m : MethodId) (args : Array Value) (below : List Frame) (meth : Method) (c : Code) (D : va_G) (cA : Nat → ClassId) (ad : Nat → Nat) (σ0 : Nat → Nat → Int32) (τ0 : Nat → Nat → Int64) (a1 : Int32) (C : Cy p s m args meth c cX12_four 3 wsX12_four RX12 D cA ad none) (hpre0 : 0 ≤ (σ0 387 2).toInt ∧ (σ0 387 2).toInt ≤ 936) : ∀ n : Nat, J_X12_four_3 p l e s m args below meth c D cA ad σ0 τ0 a1 n := by
  intro n
  induction n with
  | zero =>
    exact (by intro σ τ H locs x2 ls hR hF hFL hP hS hc0 hc1 hi0 hi1 hi2 hl hm; exfalso; omega)
  | succ n ih =>
    exact B_X12_four_3 p l e s m args below meth c D cA ad σ0 τ0 a1 n C hpre0 ih
set_option maxHeartbeats 4000000 in
theorem c_X12_four (l : Launch) (D : va_G) (cA : Nat → ClassId) (ad : Nat → Nat) (hI : Inj ad) (σ0 : Nat → Nat → Int32) (τ0 : Nat → Nat → Int64) (hR : Rg σ0) (a1 : Int32) (hpre0 : 0 ≤ (σ0 387 2).toInt ∧ (σ0 387 2).toInt ≤ 936) : Met l yX12_four wsX12_four ({ frames := 0, cells := 0, slots := 0, locals := 0 } : Room) (WQc D cA ad [.ref (ad 387), .int a1] σ0 τ0) (va_Qv (fun u : SS => P_X12_four σ0 τ0 a1 u.1 u.2) (WB D cA ad) (AA ad)) 0 0 (AA ad) := by
  refine Met.ofW (cc := cX12_four) (maxL := 3) (ret := none) (by decide) rfl ?_
  intro p e s m args below meth c s₁ B hml hv
  obtain ⟨rfl, hP, hK, hN⟩ := hv
  have C : Cy p s m _ meth c cX12_four 3 wsX12_four RX12 D cA ad none := ⟨B.exec, B.bytes, hml, findClass_of_methodNamed B.named, atoms_spec (ws := wsX12_four) B.pre, hK, B.notSynchronized, B.returns, hI, hN⟩
  have hl := lv_entry ([.ref (ad 387), .int a1]) (n := 3) (Nat.le_of_ble_eq_true rfl)
  rw [lg_entry_eq]
  generalize (lg_sl ([.ref (ad 387), .int a1]) ++ List.replicate (3 - (lg_sl ([.ref (ad 387), .int a1])).length) Slot.unset).toArray = ls at hl ⊢
  have hl : lv_has ls 3 [(0, .ref (ad 387)), (1, .int a1)] := hl
  have hS : va_S (AA ad) s.heap s.heap [] := va_S.rf
  have hF : Fr L_X12_four σ0 σ0 := Fr.rf
  have hFL : FrL LL_X12_four τ0 τ0 := FrL.rf
  have hA := A_X12_four p l e s m _ below meth c D cA ad σ0 τ0 a1 C hpre0 138
  have K3 := hA
  clear hA
  obtain ⟨hx, hb, _, hown, hts, _, hk, hr, _, _⟩ := C
  have hrt2 := rg_12_2 hR (k := 387) (by decide) (by decide)
  refine r_bipush hx hb dX12_four_0 (by decide) (fun z1 ez1 => ?_)
  refine lv_istore_n (lv' := [(2, .int z1), (0, .ref (ad 387)), (1, .int a1)]) hx hb dX12_four_2 rfl hl (by decide) rfl (fun ls hl => ?_)
  exact K3 σ0 τ0 s.heap [] z1 ls hR hF hFL hP hS (by omega) (by omega) (by omega) (by first | exact (fun i hi => absurd hi (by omega)) | exact BYs hi1 ub wb us (by decide) (by omega) (by omega) (by omega) | (exfalso; omega)) (by first | exact (fun _ _ => rfl) | exact BYk hi2 ub us (by decide) (by omega) | (exfalso; omega)) (lv_sub hl [1, 2, 0] rfl) (by omega)
theorem in_X12_feed_12 : ∀ w ∈ u_ws RX12 TX12 47, w ∈ wsX12_feed := by decide +kernel
theorem lk_X12_feed_1 : Cond.fieldLink RX12 1 "CuckooSharesModel" "thrown" "I" ∈ wsX12_feed := by decide +kernel
theorem lk_X12_feed_7 : Cond.fieldLink RX12 7 "CuckooSharesModel" "length" "I" ∈ wsX12_feed := by decide +kernel
abbrev L_X12_feed : List Rc := [(387, 387, 0, 0), (388, 388, 0, 939), (387, 387, 2, 2)]
abbrev LL_X12_feed : List Rc := []
def P_X12_feed (σ0 : Nat → Nat → Int32) (τ0 : Nat → Nat → Int64) (a1 : Int32) (a2 : Int32) (a3 : Int32) (a4 : Int32) (a5 : Int32) (r : Int32) (σ : Nat → Nat → Int32) (τ : Nat → Nat → Int64) : Prop := Rg σ ∧ Fr L_X12_feed σ0 σ ∧ FrL LL_X12_feed τ0 τ ∧ (-1 ≤ r.toInt ∧ r.toInt ≤ 940) ∧ ((r.toInt = -1 ∧ (σ 387 2).toInt = (σ0 387 2).toInt ∧ 920 < (σ0 387 2).toInt) ∨ (r.toInt = (σ 387 2).toInt ∧ (σ 387 2).toInt = (σ0 387 2).toInt + 20 ∧ (σ0 387 2).toInt ≤ 920)) ∧ ((r.toInt = -1 ∧ ∀ j : Nat, σ 388 j = σ0 388 j) ∨ (r.toInt ≠ -1 ∧ B20 σ0 σ 388 (σ0 387 2).toInt.toNat a1 a2 a3 a4 a5))
set_option maxHeartbeats 4000000 in
theorem c_X12_feed (l : Launch) (D : va_G) (cA : Nat → ClassId) (ad : Nat → Nat) (hI : Inj ad) (σ0 : Nat → Nat → Int32) (τ0 : Nat → Nat → Int64) (hR : Rg σ0) (a1 : Int32) (a2 : Int32) (a3 : Int32) (a4 : Int32) (a5 : Int32)  : Met l yX12_feed wsX12_feed ({ frames := 1, cells := 0, slots := 0, locals := 22 } : Room) (WQc D cA ad [.ref (ad 387), .int a1, .int a2, .int a3, .int a4, .int a5] σ0 τ0) (va_Qi (fun (r : Int32) (u : SS) => P_X12_feed σ0 τ0 a1 a2 a3 a4 a5 r u.1 u.2) (WB D cA ad) (AA ad)) 0 0 (AA ad) := by
  refine Met.ofW (cc := cX12_feed) (maxL := 6) (ret := (some .int)) (by decide) rfl ?_
  intro p e s m args below meth c s₁ B hml hv
  obtain ⟨rfl, hP, hK, hN⟩ := hv
  have C : Cy p s m _ meth c cX12_feed 6 wsX12_feed RX12 D cA ad (some .int) := ⟨B.exec, B.bytes, hml, findClass_of_methodNamed B.named, atoms_spec (ws := wsX12_feed) B.pre, hK, B.notSynchronized, B.returns, hI, hN⟩
  have hl := lv_entry ([.ref (ad 387), .int a1, .int a2, .int a3, .int a4, .int a5]) (n := 6) (Nat.le_of_ble_eq_true rfl)
  rw [lg_entry_eq]
  generalize (lg_sl ([.ref (ad 387), .int a1, .int a2, .int a3, .int a4, .int a5]) ++ List.replicate (6 - (lg_sl ([.ref (ad 387), .int a1, .int a2, .int a3, .int a4, .int a5])).length) Slot.unset).toArray = ls at hl ⊢
  have hl : lv_has ls 6 [(0, .ref (ad 387)), (1, .int a1), (2, .int a2), (3, .int a3), (4, .int a4), (5, .int a5)] := hl
  have hS : va_S (AA ad) s.heap s.heap [] := va_S.rf
  have hF : Fr L_X12_feed σ0 σ0 := Fr.rf
  have hFL : FrL LL_X12_feed τ0 τ0 := FrL.rf
  obtain ⟨hx, hb, _, hown, hts, _, hk, hr, _, _⟩ := C
  have hrt2 := rg_12_2 hR (k := 387) (by decide) (by decide)
  refine lv_aload_n hx hb dX12_feed_0 rfl (lv_at hl 0 rfl) ?_
  refine r_iconst hx hb dX12_feed_1 (by decide) (fun z1 ez1 => ?_)
  refine fp_12_0 (k := 387) hx hb hts in_X12_feed_12 hown hK hP (by decide) (by decide) (hts _ lk_X12_feed_1) hI hR hS (by omega) dX12_feed_2 (fun σ2 H2 locs2 u2 v2 hR hP hS => ?_)
  have u0 := u2
  have v0 := v2
  have hF := hF.puts u2 0 rfl (by decide) (by decide) (by decide) (by decide)
  have t3 : (σ2 387 2).toInt = (σ0 387 2).toInt := congrArg Int32.toInt (u2 387 2 (by omega))
  refine lv_aload_n hx hb dX12_feed_5 rfl (lv_at hl 0 rfl) ?_
  refine fg_12_2 (k := 387) hx hb hts in_X12_feed_12 hown hK hP (by decide) (by decide) (hts _ lk_X12_feed_7) dX12_feed_6 ?_
  refine r_bipush hx hb dX12_feed_9 (by decide) (fun z4 ez4 => ?_)
  refine r_iadd hx hb dX12_feed_11 (by omega) (fun z5 ez5 => ?_)
  refine r_sipush hx hb dX12_feed_12 (by decide) (fun z6 ez6 => ?_)
  refine r_icmp_le (tgt := 20) hx hb dX12_feed_15 (by decide) (fun c7 => ?_) (fun c7 => ?_)
  · refine lv_aload_n hx hb dX12_feed_20 rfl (lv_at hl 0 rfl) ?_
    refine lv_iload_n hx hb dX12_feed_21 rfl (lv_at hl 1 rfl) ?_
    refine r_cVv (k := 387) (As := [.int a1]) (rest := []) ⟨hx, hb, hml, hown, hts⟩ hK hP hN hS (c_X12_four l D cA ad hI σ2 τ0 hR a1 (by omega)) (cwV 1 hts gX12_feed_X12_four rfl rfl rfl (by decide +kernel) ⟨by decide, by decide⟩) (rv_M hK hP (by decide) (by decide)) rfl hl.1 rfl (Nat.le_of_ble_eq_true rfl) dX12_feed_22 (Nat.zero_le _) (Nat.zero_le _) (fun u8 H8 locs8 hp8 hP hS => ?_)
    obtain ⟨σ8, τ8⟩ := u8
    obtain ⟨hR, f8, fL8, hp8_0, hp8_1⟩ : P_X12_four σ2 τ0 a1 σ8 τ8 := hp8
    have hb0 := hp8_1
    have hP : va_P D vwCl (gw cA ad σ8 τ8) H8 := hP
    obtain rfl := FrL.nil fL8
    have hF := hF.step f8 (by decide)
    have hr9 := rg_12_2 hR (k := 387) (by decide) (by decide)
    refine lv_aload_n hx hb dX12_feed_25 rfl (lv_at hl 0 rfl) ?_
    refine lv_iload_n hx hb dX12_feed_26 rfl (lv_at hl 2 rfl) ?_
    refine r_cVv (k := 387) (As := [.int a2]) (rest := []) ⟨hx, hb, hml, hown, hts⟩ hK hP hN hS (c_X12_four l D cA ad hI σ8 τ0 hR a2 (by omega)) (cwV 1 hts gX12_feed_X12_four rfl rfl rfl (by decide +kernel) ⟨by decide, by decide⟩) (rv_M hK hP (by decide) (by decide)) rfl hl.1 rfl (Nat.le_of_ble_eq_true rfl) dX12_feed_27 (Nat.zero_le _) (Nat.zero_le _) (fun u10 H10 locs10 hp10 hP hS => ?_)
    obtain ⟨σ10, τ10⟩ := u10
    obtain ⟨hR, f10, fL10, hp10_0, hp10_1⟩ : P_X12_four σ8 τ0 a2 σ10 τ10 := hp10
    have hb1 := hp10_1
    have hP : va_P D vwCl (gw cA ad σ10 τ10) H10 := hP
    obtain rfl := FrL.nil fL10
    have hF := hF.step f10 (by decide)
    have hr11 := rg_12_2 hR (k := 387) (by decide) (by decide)
    refine lv_aload_n hx hb dX12_feed_30 rfl (lv_at hl 0 rfl) ?_
    refine lv_iload_n hx hb dX12_feed_31 rfl (lv_at hl 3 rfl) ?_
    refine r_cVv (k := 387) (As := [.int a3]) (rest := []) ⟨hx, hb, hml, hown, hts⟩ hK hP hN hS (c_X12_four l D cA ad hI σ10 τ0 hR a3 (by omega)) (cwV 1 hts gX12_feed_X12_four rfl rfl rfl (by decide +kernel) ⟨by decide, by decide⟩) (rv_M hK hP (by decide) (by decide)) rfl hl.1 rfl (Nat.le_of_ble_eq_true rfl) dX12_feed_32 (Nat.zero_le _) (Nat.zero_le _) (fun u12 H12 locs12 hp12 hP hS => ?_)
    obtain ⟨σ12, τ12⟩ := u12
    obtain ⟨hR, f12, fL12, hp12_0, hp12_1⟩ : P_X12_four σ10 τ0 a3 σ12 τ12 := hp12
    have hb2 := hp12_1
    have hP : va_P D vwCl (gw cA ad σ12 τ12) H12 := hP
    obtain rfl := FrL.nil fL12
    have hF := hF.step f12 (by decide)
    have hr13 := rg_12_2 hR (k := 387) (by decide) (by decide)
    refine lv_aload_n hx hb dX12_feed_35 rfl (lv_at hl 0 rfl) ?_
    refine lv_iload hx hb dX12_feed_36 (lv_at hl 4 rfl) ?_
    refine r_cVv (k := 387) (As := [.int a4]) (rest := []) ⟨hx, hb, hml, hown, hts⟩ hK hP hN hS (c_X12_four l D cA ad hI σ12 τ0 hR a4 (by omega)) (cwV 1 hts gX12_feed_X12_four rfl rfl rfl (by decide +kernel) ⟨by decide, by decide⟩) (rv_M hK hP (by decide) (by decide)) rfl hl.1 rfl (Nat.le_of_ble_eq_true rfl) dX12_feed_38 (Nat.zero_le _) (Nat.zero_le _) (fun u14 H14 locs14 hp14 hP hS => ?_)
    obtain ⟨σ14, τ14⟩ := u14
    obtain ⟨hR, f14, fL14, hp14_0, hp14_1⟩ : P_X12_four σ12 τ0 a4 σ14 τ14 := hp14
    have hb3 := hp14_1
    have hP : va_P D vwCl (gw cA ad σ14 τ14) H14 := hP
    obtain rfl := FrL.nil fL14
    have hF := hF.step f14 (by decide)
    have hr15 := rg_12_2 hR (k := 387) (by decide) (by decide)
    refine lv_aload_n hx hb dX12_feed_41 rfl (lv_at hl 0 rfl) ?_
    refine lv_iload hx hb dX12_feed_42 (lv_at hl 5 rfl) ?_
    refine r_cVv (k := 387) (As := [.int a5]) (rest := []) ⟨hx, hb, hml, hown, hts⟩ hK hP hN hS (c_X12_four l D cA ad hI σ14 τ0 hR a5 (by omega)) (cwV 1 hts gX12_feed_X12_four rfl rfl rfl (by decide +kernel) ⟨by decide, by decide⟩) (rv_M hK hP (by decide) (by decide)) rfl hl.1 rfl (Nat.le_of_ble_eq_true rfl) dX12_feed_44 (Nat.zero_le _) (Nat.zero_le _) (fun u16 H16 locs16 hp16 hP hS => ?_)
    obtain ⟨σ16, τ16⟩ := u16
    obtain ⟨hR, f16, fL16, hp16_0, hp16_1⟩ : P_X12_four σ14 τ0 a5 σ16 τ16 := hp16
    have hb4 := hp16_1
    have hP : va_P D vwCl (gw cA ad σ16 τ16) H16 := hP
    obtain rfl := FrL.nil fL16
    have hF := hF.step f16 (by decide)
    have hr17 := rg_12_2 hR (k := 387) (by decide) (by decide)
    refine lv_aload_n hx hb dX12_feed_47 rfl (lv_at hl 0 rfl) ?_
    refine fg_12_2 (k := 387) hx hb hts in_X12_feed_12 hown hK hP (by decide) (by decide) (hts _ lk_X12_feed_7) dX12_feed_48 ?_
    exact r_iret hx hb hr hK hP hS hk dX12_feed_51 (show P_X12_feed σ0 τ0 a1 a2 a3 a4 a5 (σ16 387 2) σ16 τ0 from ⟨hR, hF, hFL, by omega, by omega, by first | exact Or.inl ⟨by omega, fun j => u0 388 j (by omega)⟩ | exact Or.inr ⟨by omega, B20.up u0 (by decide) (B20.of hb0 hb1 hb2 hb3 hb4 (by omega) (by omega) (by omega) (by omega)) (by omega)⟩⟩)
  · refine r_iconst hx hb dX12_feed_18 (by decide) (fun z18 ez18 => ?_)
    exact r_iret hx hb hr hK hP hS hk dX12_feed_19 (show P_X12_feed σ0 τ0 a1 a2 a3 a4 a5 z18 σ2 τ0 from ⟨hR, hF, hFL, by omega, by omega, by first | exact Or.inl ⟨by omega, fun j => u0 388 j (by omega)⟩ | exact Or.inr ⟨by omega, B20.up u0 (by decide) (B20.of hb0 hb1 hb2 hb3 hb4 (by omega) (by omega) (by omega) (by omega)) (by omega)⟩⟩)
theorem in_X12_end_12 : ∀ w ∈ u_ws RX12 TX12 47, w ∈ wsX12_end := by decide +kernel
theorem lk_X12_end_1 : Cond.fieldLink RX12 1 "CuckooSharesModel" "thrown" "I" ∈ wsX12_end := by decide +kernel
theorem lk_X12_end_7 : Cond.fieldLink RX12 7 "CuckooSharesModel" "length" "I" ∈ wsX12_end := by decide +kernel
abbrev L_X12_end : List Rc := [(387, 387, 0, 0), (387, 387, 2, 2)]
abbrev LL_X12_end : List Rc := []
def P_X12_end (σ0 : Nat → Nat → Int32) (τ0 : Nat → Nat → Int64) (a1 : Int32) (r : Int32) (σ : Nat → Nat → Int32) (τ : Nat → Nat → Int64) : Prop := Rg σ ∧ Fr L_X12_end σ0 σ ∧ FrL LL_X12_end τ0 τ ∧ (0 ≤ r.toInt ∧ r.toInt ≤ 1) ∧ ((r.toInt = 0 ∧ (σ 387 2).toInt = (σ0 387 2).toInt ∧ (a1.toInt < 0 ∨ (σ0 387 2).toInt < a1.toInt)) ∨ (r.toInt = 1 ∧ (σ 387 2).toInt = a1.toInt ∧ 0 ≤ a1.toInt ∧ a1.toInt ≤ (σ0 387 2).toInt))
set_option maxHeartbeats 4000000 in
theorem c_X12_end (l : Launch) (D : va_G) (cA : Nat → ClassId) (ad : Nat → Nat) (hI : Inj ad) (σ0 : Nat → Nat → Int32) (τ0 : Nat → Nat → Int64) (hR : Rg σ0) (a1 : Int32)  : Met l yX12_end wsX12_end ({ frames := 0, cells := 0, slots := 0, locals := 0 } : Room) (WQc D cA ad [.ref (ad 387), .int a1] σ0 τ0) (va_Qi (fun (r : Int32) (u : SS) => P_X12_end σ0 τ0 a1 r u.1 u.2) (WB D cA ad) (AA ad)) 0 0 (AA ad) := by
  refine Met.ofW (cc := cX12_end) (maxL := 2) (ret := (some .boolean)) (by decide) rfl ?_
  intro p e s m args below meth c s₁ B hml hv
  obtain ⟨rfl, hP, hK, hN⟩ := hv
  have C : Cy p s m _ meth c cX12_end 2 wsX12_end RX12 D cA ad (some .boolean) := ⟨B.exec, B.bytes, hml, findClass_of_methodNamed B.named, atoms_spec (ws := wsX12_end) B.pre, hK, B.notSynchronized, B.returns, hI, hN⟩
  have hl := lv_entry ([.ref (ad 387), .int a1]) (n := 2) (Nat.le_of_ble_eq_true rfl)
  rw [lg_entry_eq]
  generalize (lg_sl ([.ref (ad 387), .int a1]) ++ List.replicate (2 - (lg_sl ([.ref (ad 387), .int a1])).length) Slot.unset).toArray = ls at hl ⊢
  have hl : lv_has ls 2 [(0, .ref (ad 387)), (1, .int a1)] := hl
  have hS : va_S (AA ad) s.heap s.heap [] := va_S.rf
  have hF : Fr L_X12_end σ0 σ0 := Fr.rf
  have hFL : FrL LL_X12_end τ0 τ0 := FrL.rf
  obtain ⟨hx, hb, _, hown, hts, _, hk, hr, _, _⟩ := C
  have hrt2 := rg_12_2 hR (k := 387) (by decide) (by decide)
  refine lv_aload_n hx hb dX12_end_0 rfl (lv_at hl 0 rfl) ?_
  refine r_iconst hx hb dX12_end_1 (by decide) (fun z1 ez1 => ?_)
  refine fp_12_0 (k := 387) hx hb hts in_X12_end_12 hown hK hP (by decide) (by decide) (hts _ lk_X12_end_1) hI hR hS (by omega) dX12_end_2 (fun σ2 H2 locs2 u2 v2 hR hP hS => ?_)
  have hF := hF.puts u2 0 rfl (by decide) (by decide) (by decide) (by decide)
  have t3 : (σ2 387 2).toInt = (σ0 387 2).toInt := congrArg Int32.toInt (u2 387 2 (by omega))
  refine lv_iload_n hx hb dX12_end_5 rfl (lv_at hl 1 rfl) ?_
  refine r_if_lt (tgt := 17) hx hb dX12_end_6 (by decide) (fun c4 => ?_) (fun c4 => ?_)
  · refine r_iconst hx hb dX12_end_17 (by decide) (fun z5 ez5 => ?_)
    exact r_zret hx hb hr hK hP hS hk (by omega) dX12_end_18 (show P_X12_end σ0 τ0 a1 z5 σ2 τ0 from ⟨hR, hF, hFL, by omega, by omega⟩)
  · refine lv_iload_n hx hb dX12_end_9 rfl (lv_at hl 1 rfl) ?_
    refine lv_aload_n hx hb dX12_end_10 rfl (lv_at hl 0 rfl) ?_
    refine fg_12_2 (k := 387) hx hb hts in_X12_end_12 hown hK hP (by decide) (by decide) (hts _ lk_X12_end_7) dX12_end_11 ?_
    refine r_icmp_le (tgt := 19) hx hb dX12_end_14 (by decide) (fun c6 => ?_) (fun c6 => ?_)
    · refine lv_aload_n hx hb dX12_end_19 rfl (lv_at hl 0 rfl) ?_
      refine lv_iload_n hx hb dX12_end_20 rfl (lv_at hl 1 rfl) ?_
      refine fp_12_2 (k := 387) hx hb hts in_X12_end_12 hown hK hP (by decide) (by decide) (hts _ lk_X12_end_7) hI hR hS (by omega) dX12_end_21 (fun σ7 H7 locs7 u7 v7 hR hP hS => ?_)
      have hF := hF.puts u7 1 rfl (by decide) (by decide) (by decide) (by decide)
      refine r_iconst hx hb dX12_end_24 (by decide) (fun z8 ez8 => ?_)
      exact r_zret hx hb hr hK hP hS hk (by omega) dX12_end_25 (show P_X12_end σ0 τ0 a1 z8 σ7 τ0 from ⟨hR, hF, hFL, by omega, by omega⟩)
    · refine r_iconst hx hb dX12_end_17 (by decide) (fun z9 ez9 => ?_)
      exact r_zret hx hb hr hK hP hS hk (by omega) dX12_end_18 (show P_X12_end σ0 τ0 a1 z9 σ2 τ0 from ⟨hR, hF, hFL, by omega, by omega⟩)
theorem in_X12_bad_12 : ∀ w ∈ u_ws RX12 TX12 47, w ∈ wsX12_bad := by decide +kernel
theorem lk_X12_bad_153 : Cond.fieldLink RX12 153 "CuckooSharesModel" "at" "I" ∈ wsX12_bad := by decide +kernel
theorem lk_X12_bad_176 : Cond.fieldLink RX12 176 "CuckooSharesModel" "fault" "I" ∈ wsX12_bad := by decide +kernel
theorem lk_X12_bad_179 : Cond.fieldLink RX12 179 "CuckooSharesModel" "faultAt" "I" ∈ wsX12_bad := by decide +kernel
abbrev L_X12_bad_v : List Rc := [(387, 387, 15, 16)]
abbrev LL_X12_bad_v : List Rc := []
def P_X12_bad_v (σ0 : Nat → Nat → Int32) (τ0 : Nat → Nat → Int64) (a1 : Int32) (b : Nat → Int) (N : Nat) (mo : Nat) (q : Nat) (r : Int32) (σ : Nat → Nat → Int32) (τ : Nat → Nat → Int64) : Prop := Rg σ ∧ Fr L_X12_bad_v σ0 σ ∧ FrL LL_X12_bad_v τ0 τ ∧ (0 ≤ r.toInt ∧ r.toInt ≤ 0) ∧ (r.toInt = 0) ∧ ((σ 387 15).toInt = a1.toInt) ∧ ((σ 387 16).toInt = (q : Int)) ∧ MK σ τ b N mo q
set_option maxHeartbeats 4000000 in
theorem c_X12_bad_v (l : Launch) (D : va_G) (cA : Nat → ClassId) (ad : Nat → Nat) (hI : Inj ad) (σ0 : Nat → Nat → Int32) (τ0 : Nat → Nat → Int64) (hR : Rg σ0) (a1 : Int32) (b : Nat → Int) (N : Nat) (mo : Nat) (q : Nat) (ha1 : 1 ≤ a1.toInt ∧ a1.toInt ≤ 4) (gMK0 : MK σ0 τ0 b N mo q) : Met l yX12_bad wsX12_bad ({ frames := 0, cells := 0, slots := 0, locals := 0 } : Room) (WQc D cA ad [.ref (ad 387), .int a1] σ0 τ0) (va_Qi (fun (r : Int32) (u : SS) => P_X12_bad_v σ0 τ0 a1 b N mo q r u.1 u.2) (WB D cA ad) (AA ad)) 0 0 (AA ad) := by
  refine Met.ofW (cc := cX12_bad) (maxL := 2) (ret := (some .boolean)) (by decide) rfl ?_
  intro p e s m args below meth c s₁ B hml hv
  obtain ⟨rfl, hP, hK, hN⟩ := hv
  have C : Cy p s m _ meth c cX12_bad 2 wsX12_bad RX12 D cA ad (some .boolean) := ⟨B.exec, B.bytes, hml, findClass_of_methodNamed B.named, atoms_spec (ws := wsX12_bad) B.pre, hK, B.notSynchronized, B.returns, hI, hN⟩
  have hl := lv_entry ([.ref (ad 387), .int a1]) (n := 2) (Nat.le_of_ble_eq_true rfl)
  rw [lg_entry_eq]
  generalize (lg_sl ([.ref (ad 387), .int a1]) ++ List.replicate (2 - (lg_sl ([.ref (ad 387), .int a1])).length) Slot.unset).toArray = ls at hl ⊢
  have hl : lv_has ls 2 [(0, .ref (ad 387)), (1, .int a1)] := hl
  have hS : va_S (AA ad) s.heap s.heap [] := va_S.rf
  have hF : Fr L_X12_bad_v σ0 σ0 := Fr.rf
  have hFL : FrL LL_X12_bad_v τ0 τ0 := FrL.rf
  have gMK := gMK0
  obtain ⟨hx, hb, _, hown, hts, _, hk, hr, _, _⟩ := C
  refine lv_aload_n hx hb dX12_bad_0 rfl (lv_at hl 0 rfl) ?_
  refine lv_iload_n hx hb dX12_bad_1 rfl (lv_at hl 1 rfl) ?_
  refine fp_12_15 (k := 387) hx hb hts in_X12_bad_12 hown hK hP (by decide) (by decide) (hts _ lk_X12_bad_176) hI hR hS dX12_bad_2 (fun σ1 H1 locs1 u1 v1 hR hP hS => ?_)
  have hF := hF.puts u1 0 rfl (by decide) (by decide) (by decide) (by decide)
  have gMK := gMK.ag (Agr.put u1 (by decide))
  have t2 : (σ1 387 16).toInt = (σ0 387 16).toInt := congrArg Int32.toInt (u1 387 16 (by omega))
  refine lv_aload_n hx hb dX12_bad_5 rfl (lv_at hl 0 rfl) ?_
  refine lv_aload_n hx hb dX12_bad_6 rfl (lv_at hl 0 rfl) ?_
  refine fg_12_12 (k := 387) hx hb hts in_X12_bad_12 hown hK hP (by decide) (by decide) (hts _ lk_X12_bad_153) dX12_bad_7 ?_
  have hpl := gMK.pl
  refine fp_12_16 (k := 387) hx hb hts in_X12_bad_12 hown hK hP (by decide) (by decide) (hts _ lk_X12_bad_179) hI hR hS dX12_bad_10 (fun σ3 H3 locs3 u3 v3 hR hP hS => ?_)
  have hF := hF.puts u3 0 rfl (by decide) (by decide) (by decide) (by decide)
  have gMK := gMK.ag (Agr.put u3 (by decide))
  have t4 : (σ3 387 15).toInt = (σ1 387 15).toInt := congrArg Int32.toInt (u3 387 15 (by omega))
  refine r_iconst hx hb dX12_bad_13 (by decide) (fun z5 ez5 => ?_)
  exact r_zret hx hb hr hK hP hS hk (by omega) dX12_bad_14 (show P_X12_bad_v σ0 τ0 a1 b N mo q z5 σ3 τ0 from ⟨hR, hF, hFL, by omega, by omega, by omega, by omega, gMK⟩)
abbrev L_X12_bitOf : List Rc := []
abbrev LL_X12_bitOf : List Rc := []
def P_X12_bitOf (σ0 : Nat → Nat → Int32) (τ0 : Nat → Nat → Int64) (a0 : Int32) (a1 : Int32) (r : Int32) (σ : Nat → Nat → Int32) (τ : Nat → Nat → Int64) : Prop := Rg σ ∧ Fr L_X12_bitOf σ0 σ ∧ FrL LL_X12_bitOf τ0 τ ∧ (0 ≤ r.toInt ∧ r.toInt ≤ 1) ∧ (r.toInt = BT a0 a1)
set_option maxHeartbeats 4000000 in
theorem c_X12_bitOf (l : Launch) (D : va_G) (cA : Nat → ClassId) (ad : Nat → Nat) (hI : Inj ad) (σ0 : Nat → Nat → Int32) (τ0 : Nat → Nat → Int64) (hR : Rg σ0) (a0 : Int32) (a1 : Int32) (ha1 : 0 ≤ a1.toInt ∧ a1.toInt ≤ 7) : Met l yX12_bitOf wsX12_bitOf ({ frames := 0, cells := 0, slots := 0, locals := 0 } : Room) (WQc D cA ad [.int a0, .int a1] σ0 τ0) (va_Qi (fun (r : Int32) (u : SS) => P_X12_bitOf σ0 τ0 a0 a1 r u.1 u.2) (WB D cA ad) (AA ad)) 0 0 (AA ad) := by
  refine Met.ofW (cc := cX12_bitOf) (maxL := 2) (ret := (some .boolean)) (by decide) rfl ?_
  intro p e s m args below meth c s₁ B hml hv
  obtain ⟨rfl, hP, hK, hN⟩ := hv
  have C : Cy p s m _ meth c cX12_bitOf 2 wsX12_bitOf RX12 D cA ad (some .boolean) := ⟨B.exec, B.bytes, hml, findClass_of_methodNamed B.named, atoms_spec (ws := wsX12_bitOf) B.pre, hK, B.notSynchronized, B.returns, hI, hN⟩
  have hl := lv_entry ([.int a0, .int a1]) (n := 2) (Nat.le_of_ble_eq_true rfl)
  rw [lg_entry_eq]
  generalize (lg_sl ([.int a0, .int a1]) ++ List.replicate (2 - (lg_sl ([.int a0, .int a1])).length) Slot.unset).toArray = ls at hl ⊢
  have hl : lv_has ls 2 [(0, .int a0), (1, .int a1)] := hl
  have hS : va_S (AA ad) s.heap s.heap [] := va_S.rf
  have hF : Fr L_X12_bitOf σ0 σ0 := Fr.rf
  have hFL : FrL LL_X12_bitOf τ0 τ0 := FrL.rf
  obtain ⟨hx, hb, _, hown, hts, _, hk, hr, _, _⟩ := C
  refine lv_iload_n hx hb dX12_bitOf_0 rfl (lv_at hl 0 rfl) ?_
  refine lv_iload_n hx hb dX12_bitOf_1 rfl (lv_at hl 1 rfl) ?_
  refine lv_ishr hx hb dX12_bitOf_2 ?_
  refine lv_iconst (v := 1) hx hb dX12_bitOf_3 (by decide) ?_
  have kcz1 : (1 : Int32).toInt = 1 := rfl
  refine lv_iand hx hb dX12_bitOf_4 ?_
  refine r_iconst hx hb dX12_bitOf_5 (by decide) (fun z2 ez2 => ?_)
  refine r_icmp_ne (tgt := 13) hx hb dX12_bitOf_6 (by decide) (fun c3 => ?_) (fun c3 => ?_)
  · refine r_iconst hx hb dX12_bitOf_13 (by decide) (fun z4 ez4 => ?_)
    exact r_zret hx hb hr hK hP hS hk (by omega) dX12_bitOf_14 (show P_X12_bitOf σ0 τ0 a0 a1 z4 σ0 τ0 from ⟨hR, hF, hFL, by omega, by unfold BT; first | (rw [if_pos (by omega)]; omega) | (rw [if_neg (by omega)]; omega)⟩)
  · refine r_iconst hx hb dX12_bitOf_9 (by decide) (fun z5 ez5 => ?_)
    refine lv_goto (tgt := 14) hx hb dX12_bitOf_10 (by decide) ?_
    exact r_zret hx hb hr hK hP hS hk (by omega) dX12_bitOf_14 (show P_X12_bitOf σ0 τ0 a0 a1 z5 σ0 τ0 from ⟨hR, hF, hFL, by omega, by unfold BT; first | (rw [if_pos (by omega)]; omega) | (rw [if_neg (by omega)]; omega)⟩)
theorem in_X12_find_12 : ∀ w ∈ u_ws RX12 TX12 47, w ∈ wsX12_find := by decide +kernel
theorem lk_X12_find_172 : Cond.fieldLink RX12 172 "CuckooSharesModel" "word" "J" ∈ wsX12_find := by decide +kernel
theorem lk_X12_find_43 : Cond.fieldLink RX12 43 "CuckooSharesModel" "names" "[J" ∈ wsX12_find := by decide +kernel
abbrev L_X12_find_v : List Rc := []
abbrev LL_X12_find_v : List Rc := []
def P_X12_find_v (σ0 : Nat → Nat → Int32) (τ0 : Nat → Nat → Int64) (a1 : Int32) (a2 : Int32) (r : Int32) (σ : Nat → Nat → Int32) (τ : Nat → Nat → Int64) : Prop := Rg σ ∧ Fr L_X12_find_v σ0 σ ∧ FrL LL_X12_find_v τ0 τ ∧ (-1 ≤ r.toInt ∧ r.toInt ≤ 7) ∧ (r.toInt = -1 ∨ r.toInt < a2.toInt) ∧ (r.toInt = fndq (fun i => τ0 392 (a1.toInt.toNat + i)) (τ0 387 17) a2.toInt.toNat)
def J_X12_find_v_2 (p : Program) (l : Launch) (e : Env) (s : State) (m : MethodId) (args : Array Value) (below : List Frame) (meth : Method) (c : Code) (D : va_G) (cA : Nat → ClassId) (ad : Nat → Nat) (σ0 : Nat → Nat → Int32) (τ0 : Nat → Nat → Int64) (a1 : Int32) (a2 : Int32) (n : Nat) : Prop := ∀ (σ : Nat → Nat → Int32) (τ : Nat → Nat → Int64) (H : Heap) (locs : List Loc) (x3 : Int32) (ls : Array Slot), Rg σ → Fr L_X12_find_v σ0 σ → FrL LL_X12_find_v τ0 τ → va_P D vwCl (gw cA ad σ τ) H → va_S (AA ad) s.heap H locs → (0 ≤ x3.toInt ∧ x3.toInt ≤ 8) → (∀ i : Nat, (i : Int) < x3.toInt → τ0 392 (a1.toInt.toNat + i) ≠ τ0 387 17) → lv_has ls 4 [(0, .ref (ad 387)), (1, .int a1), (2, .int a2), (3, .int x3)] → 2 * (8 - x3.toInt) + 1 < (n : Int) → W p l e ({ frames := 0, cells := 0, slots := 0, locals := 0 } : Room) s m args below meth c H locs 0 0 (MQ below (va_Qi (fun (r : Int32) (u : SS) => P_X12_find_v σ0 τ0 a1 a2 r u.1 u.2) (WB D cA ad) (AA ad)) args s 0 0 (AA ad)) (F0 m 2 ls [])
set_option maxHeartbeats 4000000 in
theorem B_X12_find_v_2 (p : Program) (l : Launch) (e : Env) (s : State) (m : MethodId) (args : Array Value) (below : List Frame) (meth : Method) (c : Code) (D : va_G) (cA : Nat → ClassId) (ad : Nat → Nat) (σ0 : Nat → Nat → Int32) (τ0 : Nat → Nat → Int64) (a1 : Int32) (a2 : Int32) (n : Nat) (C : Cy p s m args meth c cX12_find 4 wsX12_find RX12 D cA ad (some .int)) (ha1 : 16 ≤ a1.toInt ∧ a1.toInt ≤ 24) (ha2 : 0 ≤ a2.toInt ∧ a2.toInt ≤ 8) (K2 : J_X12_find_v_2 p l e s m args below meth c D cA ad σ0 τ0 a1 a2 n) : J_X12_find_v_2 p l e s m args below meth c D cA ad σ0 τ0 a1 a2 (n + 1) := by
  obtain ⟨hx, hb, hml, hown, hts, hK, hk, hr, hI, hN⟩ := C
  intro σ τ H locs x3 ls hR hF hFL hP hS hc0 hi0 hl hm
  obtain rfl := Fr.nil hF
  obtain rfl := FrL.nil hFL
  refine lv_iload_n hx hb dX12_find_2 rfl (lv_at hl 3 rfl) ?_
  refine lv_iload_n hx hb dX12_find_3 rfl (lv_at hl 2 rfl) ?_
  refine r_icmp_ge (tgt := 31) hx hb dX12_find_4 (by decide) (fun c1 => ?_) (fun c1 => ?_)
  · refine r_iconst hx hb dX12_find_31 (by decide) (fun z2 ez2 => ?_)
    exact r_iret hx hb hr hK hP hS hk dX12_find_32 (show P_X12_find_v σ0 τ0 a1 a2 z2 σ0 τ0 from ⟨hR, hF, hFL, by omega, by omega, by first | (rw [fndq_at (i := x3.toInt.toNat) (show τ0 392 (a1.toInt.toNat + x3.toInt.toNat) = τ0 387 17 by rw [← show 0 = a1.toInt.toNat + x3.toInt.toNat by omega]; exact lc.mp (by omega)) (fun j hj => hi0 j (by omega)) (by omega)]; omega) | (rw [fndq_no (fun i hi => hi0 i (by omega))]; omega)⟩)
  · refine lv_aload_n hx hb dX12_find_7 rfl (lv_at hl 0 rfl) ?_
    refine fg_12_9 (k := 387) hx hb hts in_X12_find_12 hown hK hP (by decide) (by decide) (hts _ lk_X12_find_43) dX12_find_8 ?_
    refine lv_iload_n hx hb dX12_find_11 rfl (lv_at hl 1 rfl) ?_
    refine lv_iload_n hx hb dX12_find_12 rfl (lv_at hl 3 rfl) ?_
    refine r_iadd hx hb dX12_find_13 (by omega) (fun z3 ez3 => ?_)
    obtain ⟨j4, ej4⟩ : ∃ j : Nat, z3.toInt = (j : Int) := ⟨_, ti_nat (by omega)⟩
    refine adL_mnames (k := 392) (j := j4) hx hb hK hP (by decide) (by decide) ej4 (by omega) dX12_find_14 ?_
    refine lv_aload_n hx hb dX12_find_15 rfl (lv_at hl 0 rfl) ?_
    refine fg_12_17 (k := 387) hx hb hts in_X12_find_12 hown hK hP (by decide) (by decide) (hts _ lk_X12_find_172) dX12_find_16 ?_
    refine r_lcmpE hx hb dX12_find_19 (fun z5 ez5 => ?_)
    have lc := ez5
    refine r_if_ne (tgt := 25) hx hb dX12_find_20 (by decide) (fun c6 => ?_) (fun c6 => ?_)
    · refine r_iinc (k := 3) (lv1 := fun z7 => [(3, .int z7), (0, .ref (ad 387)), (1, .int a1), (2, .int a2)]) hx hb dX12_find_25 hl rfl (by decide) (fun _ => rfl) (by decide) (by omega) (fun z7 ls ez7 hl => ?_)
      refine lv_goto (tgt := 2) hx hb dX12_find_28 (by decide) ?_
      exact K2 σ0 τ0 H locs z7 ls hR hF hFL hP hS (by omega) (by first | exact (fun i hi => absurd hi (by omega)) | exact allS hi0 (fun g => absurd (lc.mpr (by rw [show j4 = a1.toInt.toNat + x3.toInt.toNat by omega]; exact g)) (by omega)) (by omega) (by omega)) (lv_sub hl [1, 2, 3, 0] rfl) (by omega)
    · refine lv_iload_n hx hb dX12_find_23 rfl (lv_at hl 3 rfl) ?_
      exact r_iret hx hb hr hK hP hS hk dX12_find_24 (show P_X12_find_v σ0 τ0 a1 a2 x3 σ0 τ0 from ⟨hR, hF, hFL, by omega, by omega, by first | (rw [fndq_at (i := x3.toInt.toNat) (show τ0 392 (a1.toInt.toNat + x3.toInt.toNat) = τ0 387 17 by rw [← show j4 = a1.toInt.toNat + x3.toInt.toNat by omega]; exact lc.mp (by omega)) (fun j hj => hi0 j (by omega)) (by omega)]; omega) | (rw [fndq_no (fun i hi => hi0 i (by omega))]; omega)⟩)
theorem A_X12_find_v (p : Program) (l : Launch) (e : Env) (s : State) (m : MethodId) (args : Array Value) (below : List Frame) (meth : Method) (c : Code) (D : va_G) (cA : Nat → ClassId) (ad : Nat → Nat) (σ0 : Nat → Nat → Int32) (τ0 : Nat → Nat → Int64) (a1 : Int32) (a2 : Int32) (C : Cy p s m args meth c cX12_find 4 wsX12_find RX12 D cA ad (some .int)) (ha1 : 16 ≤ a1.toInt ∧ a1.toInt ≤ 24) (ha2 : 0 ≤ a2.toInt ∧ a2.toInt ≤ 8) : ∀ n : Nat, J_X12_find_v_2 p l e s m args below meth c D cA ad σ0 τ0 a1 a2 n := by
  intro n
  induction n with
  | zero =>
    exact (by intro σ τ H locs x3 ls hR hF hFL hP hS hc0 hi0 hl hm; exfalso; omega)
  | succ n ih =>
    exact B_X12_find_v_2 p l e s m args below meth c D cA ad σ0 τ0 a1 a2 n C ha1 ha2 ih
set_option maxHeartbeats 4000000 in
theorem c_X12_find_v (l : Launch) (D : va_G) (cA : Nat → ClassId) (ad : Nat → Nat) (hI : Inj ad) (σ0 : Nat → Nat → Int32) (τ0 : Nat → Nat → Int64) (hR : Rg σ0) (a1 : Int32) (a2 : Int32) (ha1 : 16 ≤ a1.toInt ∧ a1.toInt ≤ 24) (ha2 : 0 ≤ a2.toInt ∧ a2.toInt ≤ 8) : Met l yX12_find wsX12_find ({ frames := 0, cells := 0, slots := 0, locals := 0 } : Room) (WQc D cA ad [.ref (ad 387), .int a1, .int a2] σ0 τ0) (va_Qi (fun (r : Int32) (u : SS) => P_X12_find_v σ0 τ0 a1 a2 r u.1 u.2) (WB D cA ad) (AA ad)) 0 0 (AA ad) := by
  refine Met.ofW (cc := cX12_find) (maxL := 4) (ret := (some .int)) (by decide) rfl ?_
  intro p e s m args below meth c s₁ B hml hv
  obtain ⟨rfl, hP, hK, hN⟩ := hv
  have C : Cy p s m _ meth c cX12_find 4 wsX12_find RX12 D cA ad (some .int) := ⟨B.exec, B.bytes, hml, findClass_of_methodNamed B.named, atoms_spec (ws := wsX12_find) B.pre, hK, B.notSynchronized, B.returns, hI, hN⟩
  have hl := lv_entry ([.ref (ad 387), .int a1, .int a2]) (n := 4) (Nat.le_of_ble_eq_true rfl)
  rw [lg_entry_eq]
  generalize (lg_sl ([.ref (ad 387), .int a1, .int a2]) ++ List.replicate (4 - (lg_sl ([.ref (ad 387), .int a1, .int a2])).length) Slot.unset).toArray = ls at hl ⊢
  have hl : lv_has ls 4 [(0, .ref (ad 387)), (1, .int a1), (2, .int a2)] := hl
  have hS : va_S (AA ad) s.heap s.heap [] := va_S.rf
  have hF : Fr L_X12_find_v σ0 σ0 := Fr.rf
  have hFL : FrL LL_X12_find_v τ0 τ0 := FrL.rf
  have hA := A_X12_find_v p l e s m _ below meth c D cA ad σ0 τ0 a1 a2 C ha1 ha2 42
  have K2 := hA
  clear hA
  obtain ⟨hx, hb, _, hown, hts, _, hk, hr, _, _⟩ := C
  refine r_iconst hx hb dX12_find_0 (by decide) (fun z1 ez1 => ?_)
  refine lv_istore_n (lv' := [(3, .int z1), (0, .ref (ad 387)), (1, .int a1), (2, .int a2)]) hx hb dX12_find_1 rfl hl (by decide) rfl (fun ls hl => ?_)
  exact K2 σ0 τ0 s.heap [] z1 ls hR hF hFL hP hS (by omega) (by first | exact (fun i hi => absurd hi (by omega)) | exact allS hi0 (fun g => absurd (lc.mpr (by rw [show 0 = a1.toInt.toNat + x3.toInt.toNat by omega]; exact g)) (by omega)) (by omega) (by omega)) (lv_sub hl [1, 2, 3, 0] rfl) (by omega)
theorem in_X12_isName_12 : ∀ w ∈ u_ws RX12 TX12 47, w ∈ wsX12_isName := by decide +kernel
theorem lk_X12_isName_159 : Cond.fieldLink RX12 159 "CuckooSharesModel" "token" "I" ∈ wsX12_isName := by decide +kernel
theorem lk_X12_isName_172 : Cond.fieldLink RX12 172 "CuckooSharesModel" "word" "J" ∈ wsX12_isName := by decide +kernel
theorem lk_X12_isName_47 : Cond.fieldLink RX12 47 "CuckooSharesModel" "reserved" "[J" ∈ wsX12_isName := by decide +kernel
abbrev L_X12_isName_v : List Rc := []
abbrev LL_X12_isName_v : List Rc := []
def P_X12_isName_v (σ0 : Nat → Nat → Int32) (τ0 : Nat → Nat → Int64) (b : Nat → Int) (N : Nat) (mo : Nat) (q : Nat) (r : Int32) (σ : Nat → Nat → Int32) (τ : Nat → Nat → Int64) : Prop := Rg σ ∧ Fr L_X12_isName_v σ0 σ ∧ FrL LL_X12_isName_v τ0 τ ∧ (0 ≤ r.toInt ∧ r.toInt ≤ 1) ∧ ((r.toInt = 1 ∧ tkq b N mo q = 47) ∨ (r.toInt = 0 ∧ tkq b N mo q ≠ 47)) ∧ MK σ τ b N mo q ∧ RV τ 
def J_X12_isName_v_16 (p : Program) (l : Launch) (e : Env) (s : State) (m : MethodId) (args : Array Value) (below : List Frame) (meth : Method) (c : Code) (D : va_G) (cA : Nat → ClassId) (ad : Nat → Nat) (σ0 : Nat → Nat → Int32) (τ0 : Nat → Nat → Int64) (b : Nat → Int) (N : Nat) (mo : Nat) (q : Nat) (n : Nat) : Prop := ∀ (σ : Nat → Nat → Int32) (τ : Nat → Nat → Int64) (H : Heap) (locs : List Loc) (x1 : Int32) (x2 : Int32) (ls : Array Slot), Rg σ → Fr L_X12_isName_v σ0 σ → FrL LL_X12_isName_v τ0 τ → va_P D vwCl (gw cA ad σ τ) H → va_S (AA ad) s.heap H locs → (0 ≤ x1.toInt ∧ x1.toInt ≤ 1) → (0 ≤ x2.toInt ∧ x2.toInt ≤ 39) → ((x1.toInt = 1 ∧ (σ0 387 11).toInt = 1 ∧ ∀ i : Nat, (i : Int) < x2.toInt → (τ0 387 17).toInt ≠ RWl.getD i 0) ∨ (x1.toInt = 0 ∧ ((σ0 387 11).toInt ≠ 1 ∨ ∃ i : Nat, i < 31 ∧ (τ0 387 17).toInt = RWl.getD i 0))) → (MK σ τ b N mo q) → (RV τ ) → lv_has ls 3 [(0, .ref (ad 387)), (1, .int x1), (2, .int x2)] → 2 * (39 - x2.toInt) + 1 < (n : Int) → W p l e ({ frames := 0, cells := 0, slots := 0, locals := 0 } : Room) s m args below meth c H locs 0 0 (MQ below (va_Qi (fun (r : Int32) (u : SS) => P_X12_isName_v σ0 τ0 b N mo q r u.1 u.2) (WB D cA ad) (AA ad)) args s 0 0 (AA ad)) (F0 m 16 ls [])
set_option maxHeartbeats 4000000 in
theorem B_X12_isName_v_16 (p : Program) (l : Launch) (e : Env) (s : State) (m : MethodId) (args : Array Value) (below : List Frame) (meth : Method) (c : Code) (D : va_G) (cA : Nat → ClassId) (ad : Nat → Nat) (σ0 : Nat → Nat → Int32) (τ0 : Nat → Nat → Int64) (b : Nat → Int) (N : Nat) (mo : Nat) (q : Nat) (n : Nat) (C : Cy p s m args meth c cX12_isName 3 wsX12_isName RX12 D cA ad (some .boolean)) (gMK0 : MK σ0 τ0 b N mo q) (gRV0 : RV τ0 ) (K16 : J_X12_isName_v_16 p l e s m args below meth c D cA ad σ0 τ0 b N mo q n) : J_X12_isName_v_16 p l e s m args below meth c D cA ad σ0 τ0 b N mo q (n + 1) := by
  obtain ⟨hx, hb, hml, hown, hts, hK, hk, hr, hI, hN⟩ := C
  intro σ τ H locs x1 x2 ls hR hF hFL hP hS hc0 hc1 inm gMK gRV hl hm
  obtain rfl := Fr.nil hF
  obtain rfl := FrL.nil hFL
  refine lv_iload_n hx hb dX12_isName_16 rfl (lv_at hl 2 rfl) ?_
  refine r_bipush hx hb dX12_isName_17 (by decide) (fun z1 ez1 => ?_)
  refine r_icmp_ge (tgt := 52) hx hb dX12_isName_19 (by decide) (fun c2 => ?_) (fun c2 => ?_)
  · refine lv_iload_n hx hb dX12_isName_52 rfl (lv_at hl 1 rfl) ?_
    exact r_zret hx hb hr hK hP hS hk (by omega) dX12_isName_53 (show P_X12_isName_v σ0 τ0 b N mo q x1 σ0 τ0 from ⟨hR, hF, hFL, by omega, inm.elim (fun h => Or.inl ⟨h.1, gMK.nm1 h.2.1 (fun i hi => h.2.2 i (by omega))⟩) (fun h => Or.inr ⟨h.1, gMK.nm0 h.2⟩), gMK, gRV⟩)
  · refine lv_iload_n hx hb dX12_isName_22 rfl (lv_at hl 1 rfl) ?_
    refine r_if_eq (tgt := 44) hx hb dX12_isName_23 (by decide) (fun c3 => ?_) (fun c3 => ?_)
    · refine r_iconst hx hb dX12_isName_44 (by decide) (fun z4 ez4 => ?_)
      refine lv_istore_n (lv' := [(1, .int z4), (0, .ref (ad 387)), (2, .int x2)]) hx hb dX12_isName_45 rfl hl (by decide) rfl (fun ls hl => ?_)
      refine r_iinc (k := 2) (lv1 := fun z5 => [(2, .int z5), (1, .int z4), (0, .ref (ad 387))]) hx hb dX12_isName_46 hl rfl (by decide) (fun _ => rfl) (by decide) (by omega) (fun z5 ls ez5 hl => ?_)
      refine lv_goto (tgt := 16) hx hb dX12_isName_49 (by decide) ?_
      exact K16 σ0 τ0 H locs z4 z5 ls hR hF hFL hP hS (by omega) (by omega) (by first | exact Or.inl ⟨by omega, by omega, fun i hi => absurd hi (by omega)⟩ | exact Or.inr ⟨by omega, Or.inl (by omega)⟩ | exact Or.inr ⟨by omega, (inm.resolve_left (fun c => by omega)).2⟩ | exact Or.inl ⟨by omega, (inm.resolve_right (fun c => by omega)).2.1, allS (inm.resolve_right (fun c => by omega)).2.2 (fun h => absurd (lc.mpr (Int64.toInt_inj.mp (h.trans (by rw [gRV 0 (by omega), show x2.toInt.toNat = 0 by omega])))) (by omega)) (by omega) (by omega)⟩ | exact Or.inr ⟨by omega, Or.inr ⟨0, by omega, by rw [lc.mp (by omega)]; exact gRV 0 (by omega)⟩⟩) gMK gRV (lv_sub hl [2, 1, 0] rfl) (by omega)
    · refine lv_aload_n hx hb dX12_isName_26 rfl (lv_at hl 0 rfl) ?_
      refine fg_12_17 (k := 387) hx hb hts in_X12_isName_12 hown hK hP (by decide) (by decide) (hts _ lk_X12_isName_172) dX12_isName_27 ?_
      refine lv_aload_n hx hb dX12_isName_30 rfl (lv_at hl 0 rfl) ?_
      refine fg_12_10 (k := 387) hx hb hts in_X12_isName_12 hown hK hP (by decide) (by decide) (hts _ lk_X12_isName_47) dX12_isName_31 ?_
      refine lv_iload_n hx hb dX12_isName_34 rfl (lv_at hl 2 rfl) ?_
      obtain ⟨j6, ej6⟩ : ∃ j : Nat, x2.toInt = (j : Int) := ⟨_, ti_nat (by omega)⟩
      refine adL_mreserved (k := 393) (j := j6) hx hb hK hP (by decide) (by decide) ej6 (by omega) dX12_isName_35 ?_
      refine r_lcmpE hx hb dX12_isName_36 (fun z7 ez7 => ?_)
      have lc := ez7
      refine r_if_eq (tgt := 44) hx hb dX12_isName_37 (by decide) (fun c8 => ?_) (fun c8 => ?_)
      · refine r_iconst hx hb dX12_isName_44 (by decide) (fun z9 ez9 => ?_)
        refine lv_istore_n (lv' := [(1, .int z9), (0, .ref (ad 387)), (2, .int x2)]) hx hb dX12_isName_45 rfl hl (by decide) rfl (fun ls hl => ?_)
        refine r_iinc (k := 2) (lv1 := fun z10 => [(2, .int z10), (1, .int z9), (0, .ref (ad 387))]) hx hb dX12_isName_46 hl rfl (by decide) (fun _ => rfl) (by decide) (by omega) (fun z10 ls ez10 hl => ?_)
        refine lv_goto (tgt := 16) hx hb dX12_isName_49 (by decide) ?_
        exact K16 σ0 τ0 H locs z9 z10 ls hR hF hFL hP hS (by omega) (by omega) (by first | exact Or.inl ⟨by omega, by omega, fun i hi => absurd hi (by omega)⟩ | exact Or.inr ⟨by omega, Or.inl (by omega)⟩ | exact Or.inr ⟨by omega, (inm.resolve_left (fun c => by omega)).2⟩ | exact Or.inl ⟨by omega, (inm.resolve_right (fun c => by omega)).2.1, allS (inm.resolve_right (fun c => by omega)).2.2 (fun h => absurd (lc.mpr (Int64.toInt_inj.mp (h.trans (by rw [gRV j6 (by omega), show x2.toInt.toNat = j6 by omega])))) (by omega)) (by omega) (by omega)⟩ | exact Or.inr ⟨by omega, Or.inr ⟨j6, by omega, by rw [lc.mp (by omega)]; exact gRV j6 (by omega)⟩⟩) gMK gRV (lv_sub hl [2, 1, 0] rfl) (by omega)
      · refine r_iconst hx hb dX12_isName_40 (by decide) (fun z11 ez11 => ?_)
        refine lv_goto (tgt := 45) hx hb dX12_isName_41 (by decide) ?_
        refine lv_istore_n (lv' := [(1, .int z11), (0, .ref (ad 387)), (2, .int x2)]) hx hb dX12_isName_45 rfl hl (by decide) rfl (fun ls hl => ?_)
        refine r_iinc (k := 2) (lv1 := fun z12 => [(2, .int z12), (1, .int z11), (0, .ref (ad 387))]) hx hb dX12_isName_46 hl rfl (by decide) (fun _ => rfl) (by decide) (by omega) (fun z12 ls ez12 hl => ?_)
        refine lv_goto (tgt := 16) hx hb dX12_isName_49 (by decide) ?_
        exact K16 σ0 τ0 H locs z11 z12 ls hR hF hFL hP hS (by omega) (by omega) (by first | exact Or.inl ⟨by omega, by omega, fun i hi => absurd hi (by omega)⟩ | exact Or.inr ⟨by omega, Or.inl (by omega)⟩ | exact Or.inr ⟨by omega, (inm.resolve_left (fun c => by omega)).2⟩ | exact Or.inl ⟨by omega, (inm.resolve_right (fun c => by omega)).2.1, allS (inm.resolve_right (fun c => by omega)).2.2 (fun h => absurd (lc.mpr (Int64.toInt_inj.mp (h.trans (by rw [gRV j6 (by omega), show x2.toInt.toNat = j6 by omega])))) (by omega)) (by omega) (by omega)⟩ | exact Or.inr ⟨by omega, Or.inr ⟨j6, by omega, by rw [lc.mp (by omega)]; exact gRV j6 (by omega)⟩⟩) gMK gRV (lv_sub hl [2, 1, 0] rfl) (by omega)
theorem A_X12_isName_v (p : Program) (l : Launch) (e : Env) (s : State) (m : MethodId) (args : Array Value) (below : List Frame) (meth : Method) (c : Code) (D : va_G) (cA : Nat → ClassId) (ad : Nat → Nat) (σ0 : Nat → Nat → Int32) (τ0 : Nat → Nat → Int64) (b : Nat → Int) (N : Nat) (mo : Nat) (q : Nat) (C : Cy p s m args meth c cX12_isName 3 wsX12_isName RX12 D cA ad (some .boolean)) (gMK0 : MK σ0 τ0 b N mo q) (gRV0 : RV τ0 ) : ∀ n : Nat, J_X12_isName_v_16 p l e s m args below meth c D cA ad σ0 τ0 b N mo q n := by
  intro n
  induction n with
  | zero =>
    exact (by intro σ τ H locs x1 x2 ls hR hF hFL hP hS hc0 hc1 inm gMK gRV hl hm; exfalso; omega)
  | succ n ih =>
    exact B_X12_isName_v_16 p l e s m args below meth c D cA ad σ0 τ0 b N mo q n C gMK0 gRV0 ih
set_option maxHeartbeats 4000000 in
theorem c_X12_isName_v (l : Launch) (D : va_G) (cA : Nat → ClassId) (ad : Nat → Nat) (hI : Inj ad) (σ0 : Nat → Nat → Int32) (τ0 : Nat → Nat → Int64) (hR : Rg σ0) (b : Nat → Int) (N : Nat) (mo : Nat) (q : Nat) (gMK0 : MK σ0 τ0 b N mo q) (gRV0 : RV τ0 ) : Met l yX12_isName wsX12_isName ({ frames := 0, cells := 0, slots := 0, locals := 0 } : Room) (WQc D cA ad [.ref (ad 387)] σ0 τ0) (va_Qi (fun (r : Int32) (u : SS) => P_X12_isName_v σ0 τ0 b N mo q r u.1 u.2) (WB D cA ad) (AA ad)) 0 0 (AA ad) := by
  refine Met.ofW (cc := cX12_isName) (maxL := 3) (ret := (some .boolean)) (by decide) rfl ?_
  intro p e s m args below meth c s₁ B hml hv
  obtain ⟨rfl, hP, hK, hN⟩ := hv
  have C : Cy p s m _ meth c cX12_isName 3 wsX12_isName RX12 D cA ad (some .boolean) := ⟨B.exec, B.bytes, hml, findClass_of_methodNamed B.named, atoms_spec (ws := wsX12_isName) B.pre, hK, B.notSynchronized, B.returns, hI, hN⟩
  have hl := lv_entry ([.ref (ad 387)]) (n := 3) (Nat.le_of_ble_eq_true rfl)
  rw [lg_entry_eq]
  generalize (lg_sl ([.ref (ad 387)]) ++ List.replicate (3 - (lg_sl ([.ref (ad 387)])).length) Slot.unset).toArray = ls at hl ⊢
  have hl : lv_has ls 3 [(0, .ref (ad 387))] := hl
  have hS : va_S (AA ad) s.heap s.heap [] := va_S.rf
  have hF : Fr L_X12_isName_v σ0 σ0 := Fr.rf
  have hFL : FrL LL_X12_isName_v τ0 τ0 := FrL.rf
  have gMK := gMK0
  have gRV := gRV0
  have hA := A_X12_isName_v p l e s m _ below meth c D cA ad σ0 τ0 b N mo q C gMK0 gRV0 166
  have K16 := hA
  clear hA
  obtain ⟨hx, hb, _, hown, hts, _, hk, hr, _, _⟩ := C
  refine lv_aload_n hx hb dX12_isName_0 rfl (lv_at hl 0 rfl) ?_
  refine fg_12_11 (k := 387) hx hb hts in_X12_isName_12 hown hK hP (by decide) (by decide) (hts _ lk_X12_isName_159) dX12_isName_1 ?_
  refine r_iconst hx hb dX12_isName_4 (by decide) (fun z1 ez1 => ?_)
  refine r_icmp_ne (tgt := 12) hx hb dX12_isName_5 (by decide) (fun c2 => ?_) (fun c2 => ?_)
  · refine r_iconst hx hb dX12_isName_12 (by decide) (fun z3 ez3 => ?_)
    refine lv_istore_n (lv' := [(1, .int z3), (0, .ref (ad 387))]) hx hb dX12_isName_13 rfl hl (by decide) rfl (fun ls hl => ?_)
    refine r_iconst hx hb dX12_isName_14 (by decide) (fun z4 ez4 => ?_)
    refine lv_istore_n (lv' := [(2, .int z4), (1, .int z3), (0, .ref (ad 387))]) hx hb dX12_isName_15 rfl hl (by decide) rfl (fun ls hl => ?_)
    exact K16 σ0 τ0 s.heap [] z3 z4 ls hR hF hFL hP hS (by omega) (by omega) (by first | exact Or.inl ⟨by omega, by omega, fun i hi => absurd hi (by omega)⟩ | exact Or.inr ⟨by omega, Or.inl (by omega)⟩ | exact Or.inr ⟨by omega, (inm.resolve_left (fun c => by omega)).2⟩ | exact Or.inl ⟨by omega, (inm.resolve_right (fun c => by omega)).2.1, allS (inm.resolve_right (fun c => by omega)).2.2 (fun h => absurd (lc.mpr (Int64.toInt_inj.mp (h.trans (by rw [gRV 0 (by omega), show x2.toInt.toNat = 0 by omega])))) (by omega)) (by omega) (by omega)⟩ | exact Or.inr ⟨by omega, Or.inr ⟨0, by omega, by rw [lc.mp (by omega)]; exact gRV 0 (by omega)⟩⟩) gMK gRV (lv_sub hl [2, 1, 0] rfl) (by omega)
  · refine r_iconst hx hb dX12_isName_8 (by decide) (fun z5 ez5 => ?_)
    refine lv_goto (tgt := 13) hx hb dX12_isName_9 (by decide) ?_
    refine lv_istore_n (lv' := [(1, .int z5), (0, .ref (ad 387))]) hx hb dX12_isName_13 rfl hl (by decide) rfl (fun ls hl => ?_)
    refine r_iconst hx hb dX12_isName_14 (by decide) (fun z6 ez6 => ?_)
    refine lv_istore_n (lv' := [(2, .int z6), (1, .int z5), (0, .ref (ad 387))]) hx hb dX12_isName_15 rfl hl (by decide) rfl (fun ls hl => ?_)
    exact K16 σ0 τ0 s.heap [] z5 z6 ls hR hF hFL hP hS (by omega) (by omega) (by first | exact Or.inl ⟨by omega, by omega, fun i hi => absurd hi (by omega)⟩ | exact Or.inr ⟨by omega, Or.inl (by omega)⟩ | exact Or.inr ⟨by omega, (inm.resolve_left (fun c => by omega)).2⟩ | exact Or.inl ⟨by omega, (inm.resolve_right (fun c => by omega)).2.1, allS (inm.resolve_right (fun c => by omega)).2.2 (fun h => absurd (lc.mpr (Int64.toInt_inj.mp (h.trans (by rw [gRV 0 (by omega), show x2.toInt.toNat = 0 by omega])))) (by omega)) (by omega) (by omega)⟩ | exact Or.inr ⟨by omega, Or.inr ⟨0, by omega, by rw [lc.mp (by omega)]; exact gRV 0 (by omega)⟩⟩) gMK gRV (lv_sub hl [2, 1, 0] rfl) (by omega)
abbrev L_X12_isDigit : List Rc := []
abbrev LL_X12_isDigit : List Rc := []
def P_X12_isDigit (σ0 : Nat → Nat → Int32) (τ0 : Nat → Nat → Int64) (a0 : Int32) (r : Int32) (σ : Nat → Nat → Int32) (τ : Nat → Nat → Int64) : Prop := Rg σ ∧ Fr L_X12_isDigit σ0 σ ∧ FrL LL_X12_isDigit τ0 τ ∧ (0 ≤ r.toInt ∧ r.toInt ≤ 1) ∧ ((r.toInt = 0 ∧ (a0.toInt < 48 ∨ 57 < a0.toInt)) ∨ (r.toInt = 1 ∧ 48 ≤ a0.toInt ∧ a0.toInt ≤ 57))
set_option maxHeartbeats 4000000 in
theorem c_X12_isDigit (l : Launch) (D : va_G) (cA : Nat → ClassId) (ad : Nat → Nat) (hI : Inj ad) (σ0 : Nat → Nat → Int32) (τ0 : Nat → Nat → Int64) (hR : Rg σ0) (a0 : Int32) (ha0 : -1 ≤ a0.toInt ∧ a0.toInt ≤ 255) : Met l yX12_isDigit wsX12_isDigit ({ frames := 0, cells := 0, slots := 0, locals := 0 } : Room) (WQc D cA ad [.int a0] σ0 τ0) (va_Qi (fun (r : Int32) (u : SS) => P_X12_isDigit σ0 τ0 a0 r u.1 u.2) (WB D cA ad) (AA ad)) 0 0 (AA ad) := by
  refine Met.ofW (cc := cX12_isDigit) (maxL := 1) (ret := (some .boolean)) (by decide) rfl ?_
  intro p e s m args below meth c s₁ B hml hv
  obtain ⟨rfl, hP, hK, hN⟩ := hv
  have C : Cy p s m _ meth c cX12_isDigit 1 wsX12_isDigit RX12 D cA ad (some .boolean) := ⟨B.exec, B.bytes, hml, findClass_of_methodNamed B.named, atoms_spec (ws := wsX12_isDigit) B.pre, hK, B.notSynchronized, B.returns, hI, hN⟩
  have hl := lv_entry ([.int a0]) (n := 1) (Nat.le_of_ble_eq_true rfl)
  rw [lg_entry_eq]
  generalize (lg_sl ([.int a0]) ++ List.replicate (1 - (lg_sl ([.int a0])).length) Slot.unset).toArray = ls at hl ⊢
  have hl : lv_has ls 1 [(0, .int a0)] := hl
  have hS : va_S (AA ad) s.heap s.heap [] := va_S.rf
  have hF : Fr L_X12_isDigit σ0 σ0 := Fr.rf
  have hFL : FrL LL_X12_isDigit τ0 τ0 := FrL.rf
  obtain ⟨hx, hb, _, hown, hts, _, hk, hr, _, _⟩ := C
  refine lv_iload_n hx hb dX12_isDigit_0 rfl (lv_at hl 0 rfl) ?_
  refine r_bipush hx hb dX12_isDigit_1 (by decide) (fun z1 ez1 => ?_)
  refine r_icmp_lt (tgt := 16) hx hb dX12_isDigit_3 (by decide) (fun c2 => ?_) (fun c2 => ?_)
  · refine r_iconst hx hb dX12_isDigit_16 (by decide) (fun z3 ez3 => ?_)
    exact r_zret hx hb hr hK hP hS hk (by omega) dX12_isDigit_17 (show P_X12_isDigit σ0 τ0 a0 z3 σ0 τ0 from ⟨hR, hF, hFL, by omega, by omega⟩)
  · refine lv_iload_n hx hb dX12_isDigit_6 rfl (lv_at hl 0 rfl) ?_
    refine r_bipush hx hb dX12_isDigit_7 (by decide) (fun z4 ez4 => ?_)
    refine r_icmp_gt (tgt := 16) hx hb dX12_isDigit_9 (by decide) (fun c5 => ?_) (fun c5 => ?_)
    · refine r_iconst hx hb dX12_isDigit_16 (by decide) (fun z6 ez6 => ?_)
      exact r_zret hx hb hr hK hP hS hk (by omega) dX12_isDigit_17 (show P_X12_isDigit σ0 τ0 a0 z6 σ0 τ0 from ⟨hR, hF, hFL, by omega, by omega⟩)
    · refine r_iconst hx hb dX12_isDigit_12 (by decide) (fun z7 ez7 => ?_)
      refine lv_goto (tgt := 17) hx hb dX12_isDigit_13 (by decide) ?_
      exact r_zret hx hb hr hK hP hS hk (by omega) dX12_isDigit_17 (show P_X12_isDigit σ0 τ0 a0 z7 σ0 τ0 from ⟨hR, hF, hFL, by omega, by omega⟩)
abbrev L_X12_isSmall : List Rc := []
abbrev LL_X12_isSmall : List Rc := []
def P_X12_isSmall (σ0 : Nat → Nat → Int32) (τ0 : Nat → Nat → Int64) (a0 : Int32) (r : Int32) (σ : Nat → Nat → Int32) (τ : Nat → Nat → Int64) : Prop := Rg σ ∧ Fr L_X12_isSmall σ0 σ ∧ FrL LL_X12_isSmall τ0 τ ∧ (0 ≤ r.toInt ∧ r.toInt ≤ 1) ∧ ((r.toInt = 0 ∧ (a0.toInt < 97 ∨ 122 < a0.toInt)) ∨ (r.toInt = 1 ∧ 97 ≤ a0.toInt ∧ a0.toInt ≤ 122))
set_option maxHeartbeats 4000000 in
theorem c_X12_isSmall (l : Launch) (D : va_G) (cA : Nat → ClassId) (ad : Nat → Nat) (hI : Inj ad) (σ0 : Nat → Nat → Int32) (τ0 : Nat → Nat → Int64) (hR : Rg σ0) (a0 : Int32) (ha0 : -1 ≤ a0.toInt ∧ a0.toInt ≤ 255) : Met l yX12_isSmall wsX12_isSmall ({ frames := 0, cells := 0, slots := 0, locals := 0 } : Room) (WQc D cA ad [.int a0] σ0 τ0) (va_Qi (fun (r : Int32) (u : SS) => P_X12_isSmall σ0 τ0 a0 r u.1 u.2) (WB D cA ad) (AA ad)) 0 0 (AA ad) := by
  refine Met.ofW (cc := cX12_isSmall) (maxL := 1) (ret := (some .boolean)) (by decide) rfl ?_
  intro p e s m args below meth c s₁ B hml hv
  obtain ⟨rfl, hP, hK, hN⟩ := hv
  have C : Cy p s m _ meth c cX12_isSmall 1 wsX12_isSmall RX12 D cA ad (some .boolean) := ⟨B.exec, B.bytes, hml, findClass_of_methodNamed B.named, atoms_spec (ws := wsX12_isSmall) B.pre, hK, B.notSynchronized, B.returns, hI, hN⟩
  have hl := lv_entry ([.int a0]) (n := 1) (Nat.le_of_ble_eq_true rfl)
  rw [lg_entry_eq]
  generalize (lg_sl ([.int a0]) ++ List.replicate (1 - (lg_sl ([.int a0])).length) Slot.unset).toArray = ls at hl ⊢
  have hl : lv_has ls 1 [(0, .int a0)] := hl
  have hS : va_S (AA ad) s.heap s.heap [] := va_S.rf
  have hF : Fr L_X12_isSmall σ0 σ0 := Fr.rf
  have hFL : FrL LL_X12_isSmall τ0 τ0 := FrL.rf
  obtain ⟨hx, hb, _, hown, hts, _, hk, hr, _, _⟩ := C
  refine lv_iload_n hx hb dX12_isSmall_0 rfl (lv_at hl 0 rfl) ?_
  refine r_bipush hx hb dX12_isSmall_1 (by decide) (fun z1 ez1 => ?_)
  refine r_icmp_lt (tgt := 16) hx hb dX12_isSmall_3 (by decide) (fun c2 => ?_) (fun c2 => ?_)
  · refine r_iconst hx hb dX12_isSmall_16 (by decide) (fun z3 ez3 => ?_)
    exact r_zret hx hb hr hK hP hS hk (by omega) dX12_isSmall_17 (show P_X12_isSmall σ0 τ0 a0 z3 σ0 τ0 from ⟨hR, hF, hFL, by omega, by omega⟩)
  · refine lv_iload_n hx hb dX12_isSmall_6 rfl (lv_at hl 0 rfl) ?_
    refine r_bipush hx hb dX12_isSmall_7 (by decide) (fun z4 ez4 => ?_)
    refine r_icmp_gt (tgt := 16) hx hb dX12_isSmall_9 (by decide) (fun c5 => ?_) (fun c5 => ?_)
    · refine r_iconst hx hb dX12_isSmall_16 (by decide) (fun z6 ez6 => ?_)
      exact r_zret hx hb hr hK hP hS hk (by omega) dX12_isSmall_17 (show P_X12_isSmall σ0 τ0 a0 z6 σ0 τ0 from ⟨hR, hF, hFL, by omega, by omega⟩)
    · refine r_iconst hx hb dX12_isSmall_12 (by decide) (fun z7 ez7 => ?_)
      refine lv_goto (tgt := 17) hx hb dX12_isSmall_13 (by decide) ?_
      exact r_zret hx hb hr hK hP hS hk (by omega) dX12_isSmall_17 (show P_X12_isSmall σ0 τ0 a0 z7 σ0 τ0 from ⟨hR, hF, hFL, by omega, by omega⟩)
theorem in_X12_peek_12 : ∀ w ∈ u_ws RX12 TX12 47, w ∈ wsX12_peek := by decide +kernel
theorem lk_X12_peek_14 : Cond.fieldLink RX12 14 "CuckooSharesModel" "tape" "[B" ∈ wsX12_peek := by decide +kernel
theorem lk_X12_peek_18 : Cond.fieldLink RX12 18 "CuckooSharesModel" "size" "I" ∈ wsX12_peek := by decide +kernel
theorem lk_X12_peek_21 : Cond.fieldLink RX12 21 "CuckooSharesModel" "p" "I" ∈ wsX12_peek := by decide +kernel
abbrev L_X12_peek_v : List Rc := []
abbrev LL_X12_peek_v : List Rc := []
def P_X12_peek_v (σ0 : Nat → Nat → Int32) (τ0 : Nat → Nat → Int64) (b : Nat → Int) (N : Nat) (mo : Nat) (pp : Nat) (r : Int32) (σ : Nat → Nat → Int32) (τ : Nat → Nat → Int64) : Prop := Rg σ ∧ Fr L_X12_peek_v σ0 σ ∧ FrL LL_X12_peek_v τ0 τ ∧ (-1 ≤ r.toInt ∧ r.toInt ≤ 255) ∧ ((r.toInt = -1 ∧ N ≤ pp) ∨ (r.toInt = b pp ∧ pp < N ∧ 0 ≤ r.toInt ∧ r.toInt ≤ 255)) ∧ MT σ b N mo
set_option maxHeartbeats 4000000 in
theorem c_X12_peek_v (l : Launch) (D : va_G) (cA : Nat → ClassId) (ad : Nat → Nat) (hI : Inj ad) (σ0 : Nat → Nat → Int32) (τ0 : Nat → Nat → Int64) (hR : Rg σ0) (b : Nat → Int) (N : Nat) (mo : Nat) (pp : Nat) (hpre0 : (σ0 387 4).toInt = (pp : Int)) (gMT0 : MT σ0 b N mo) : Met l yX12_peek wsX12_peek ({ frames := 0, cells := 0, slots := 0, locals := 0 } : Room) (WQc D cA ad [.ref (ad 387)] σ0 τ0) (va_Qi (fun (r : Int32) (u : SS) => P_X12_peek_v σ0 τ0 b N mo pp r u.1 u.2) (WB D cA ad) (AA ad)) 0 0 (AA ad) := by
  refine Met.ofW (cc := cX12_peek) (maxL := 1) (ret := (some .int)) (by decide) rfl ?_
  intro p e s m args below meth c s₁ B hml hv
  obtain ⟨rfl, hP, hK, hN⟩ := hv
  have C : Cy p s m _ meth c cX12_peek 1 wsX12_peek RX12 D cA ad (some .int) := ⟨B.exec, B.bytes, hml, findClass_of_methodNamed B.named, atoms_spec (ws := wsX12_peek) B.pre, hK, B.notSynchronized, B.returns, hI, hN⟩
  have hl := lv_entry ([.ref (ad 387)]) (n := 1) (Nat.le_of_ble_eq_true rfl)
  rw [lg_entry_eq]
  generalize (lg_sl ([.ref (ad 387)]) ++ List.replicate (1 - (lg_sl ([.ref (ad 387)])).length) Slot.unset).toArray = ls at hl ⊢
  have hl : lv_has ls 1 [(0, .ref (ad 387))] := hl
  have hS : va_S (AA ad) s.heap s.heap [] := va_S.rf
  have hF : Fr L_X12_peek_v σ0 σ0 := Fr.rf
  have hFL : FrL LL_X12_peek_v τ0 τ0 := FrL.rf
  have gMT := gMT0
  obtain ⟨hx, hb, _, hown, hts, _, hk, hr, _, _⟩ := C
  have hmt := gMT.1
  have hmx := gMT.2.2.1
  refine lv_aload_n hx hb dX12_peek_0 rfl (lv_at hl 0 rfl) ?_
  refine fg_12_4 (k := 387) hx hb hts in_X12_peek_12 hown hK hP (by decide) (by decide) (hts _ lk_X12_peek_21) dX12_peek_1 ?_
  have hr1 := rg_12_4 hR (k := 387) (by decide) (by decide)
  refine lv_aload_n hx hb dX12_peek_4 rfl (lv_at hl 0 rfl) ?_
  refine fg_12_3 (k := 387) hx hb hts in_X12_peek_12 hown hK hP (by decide) (by decide) (hts _ lk_X12_peek_18) dX12_peek_5 ?_
  have hr2 := rg_12_3 hR (k := 387) (by decide) (by decide)
  refine r_icmp_ge (tgt := 27) hx hb dX12_peek_8 (by decide) (fun c3 => ?_) (fun c3 => ?_)
  · refine r_iconst hx hb dX12_peek_27 (by decide) (fun z4 ez4 => ?_)
    exact r_iret hx hb hr hK hP hS hk dX12_peek_28 (show P_X12_peek_v σ0 τ0 b N mo pp z4 σ0 τ0 from ⟨hR, hF, hFL, by first | omega | exact ⟨Int.le_trans (by decide) (ti_and (n := 8) (by decide)).1, (ti_and (n := 8) (by decide)).2⟩, by first | exact Or.inl ⟨by omega, by omega⟩ | exact Or.inr (MT.rd gMT (j := 0) (by omega) (by omega)), gMT⟩)
  · refine lv_aload_n hx hb dX12_peek_11 rfl (lv_at hl 0 rfl) ?_
    refine fg_12_1 (k := 387) hx hb hts in_X12_peek_12 hown hK hP (by decide) (by decide) (hts _ lk_X12_peek_14) dX12_peek_12 ?_
    refine lv_aload_n hx hb dX12_peek_15 rfl (lv_at hl 0 rfl) ?_
    refine fg_12_4 (k := 387) hx hb hts in_X12_peek_12 hown hK hP (by decide) (by decide) (hts _ lk_X12_peek_21) dX12_peek_16 ?_
    obtain ⟨j5, ej5⟩ : ∃ j : Nat, (σ0 387 4).toInt = (j : Int) := ⟨_, ti_nat (by omega)⟩
    refine ad_mtape (k := 388) (j := j5) hx hb hK hP (by decide) (by decide) ej5 (by omega) dX12_peek_19 ?_
    refine lv_sipush (v := 255) hx hb dX12_peek_20 (by decide) ?_
    have kcz6 : (255 : Int32).toInt = 255 := rfl
    refine lv_iand hx hb dX12_peek_23 ?_
    refine lv_goto (tgt := 28) hx hb dX12_peek_24 (by decide) ?_
    exact r_iret hx hb hr hK hP hS hk dX12_peek_28 (show P_X12_peek_v σ0 τ0 b N mo pp ((σ0 388 j5) &&& 255) σ0 τ0 from ⟨hR, hF, hFL, by first | omega | exact ⟨Int.le_trans (by decide) (ti_and (n := 8) (by decide)).1, (ti_and (n := 8) (by decide)).2⟩, by first | exact Or.inl ⟨by omega, by omega⟩ | exact Or.inr (MT.rd gMT (j := j5) (by omega) (by omega)), gMT⟩)
theorem in_X12_next_12 : ∀ w ∈ u_ws RX12 TX12 47, w ∈ wsX12_next := by decide +kernel
theorem lk_X12_next_153 : Cond.fieldLink RX12 153 "CuckooSharesModel" "at" "I" ∈ wsX12_next := by decide +kernel
theorem lk_X12_next_156 : Cond.fieldLink RX12 156 "CuckooSharesModel" "span" "I" ∈ wsX12_next := by decide +kernel
theorem lk_X12_next_159 : Cond.fieldLink RX12 159 "CuckooSharesModel" "token" "I" ∈ wsX12_next := by decide +kernel
theorem lk_X12_next_169 : Cond.fieldLink RX12 169 "CuckooSharesModel" "number" "I" ∈ wsX12_next := by decide +kernel
theorem lk_X12_next_172 : Cond.fieldLink RX12 172 "CuckooSharesModel" "word" "J" ∈ wsX12_next := by decide +kernel
theorem lk_X12_next_18 : Cond.fieldLink RX12 18 "CuckooSharesModel" "size" "I" ∈ wsX12_next := by decide +kernel
theorem lk_X12_next_21 : Cond.fieldLink RX12 21 "CuckooSharesModel" "p" "I" ∈ wsX12_next := by decide +kernel
theorem lk_X12_next_24 : Cond.fieldLink RX12 24 "CuckooSharesModel" "limit" "I" ∈ wsX12_next := by decide +kernel
abbrev L_X12_next_v : List Rc := [(387, 387, 4, 4), (387, 387, 11, 14)]
abbrev LL_X12_next_v : List Rc := [(387, 387, 17, 17)]
def P_X12_next_v (σ0 : Nat → Nat → Int32) (τ0 : Nat → Nat → Int64) (b : Nat → Int) (N : Nat) (mo : Nat) (qn : Nat) (σ : Nat → Nat → Int32) (τ : Nat → Nat → Int64) : Prop := Rg σ ∧ Fr L_X12_next_v σ0 σ ∧ FrL LL_X12_next_v τ0 τ ∧ ((σ0 387 4).toInt ≤ (σ 387 4).toInt) ∧ ((σ 387 11).toInt ≠ 3 ∨ (σ0 387 4).toInt < (σ 387 4).toInt) ∧ (0 ≤ (σ 387 11).toInt ∧ (σ 387 11).toInt ≤ 4) ∧ (MK σ τ b N mo qn) ∧ MT σ b N mo
def J_X12_next_v_0 (p : Program) (l : Launch) (e : Env) (s : State) (m : MethodId) (args : Array Value) (below : List Frame) (meth : Method) (c : Code) (D : va_G) (cA : Nat → ClassId) (ad : Nat → Nat) (σ0 : Nat → Nat → Int32) (τ0 : Nat → Nat → Int64) (b : Nat → Int) (N : Nat) (mo : Nat) (qn : Nat) (n : Nat) : Prop := ∀ (σ : Nat → Nat → Int32) (τ : Nat → Nat → Int64) (H : Heap) (locs : List Loc) (pp : Nat) (ls : Array Slot), Rg σ → Fr L_X12_next_v σ0 σ → FrL LL_X12_next_v τ0 τ → va_P D vwCl (gw cA ad σ τ) H → va_S (AA ad) s.heap H locs → (0 ≤ (σ 387 3).toInt ∧ (σ 387 3).toInt ≤ 940) → (0 ≤ (σ 387 5).toInt ∧ (σ 387 5).toInt ≤ 940) → (0 ≤ (σ 387 4).toInt ∧ (σ 387 4).toInt ≤ 940) → ((σ0 387 4).toInt ≤ (σ 387 4).toInt) → ((σ 387 4).toInt = (pp : Int)) → (pp ≤ N) → (lmq N mo (skpE b N pp) = qn) → (MT σ b N mo) → lv_has ls 4 [(0, .ref (ad 387))] → 3769 * (940 - (σ 387 4).toInt) + 3768 < (n : Int) → W p l e ({ frames := 1, cells := 0, slots := 0, locals := 20 } : Room) s m args below meth c H locs 0 0 (MQ below (va_Qv (fun u : SS => P_X12_next_v σ0 τ0 b N mo qn u.1 u.2) (WB D cA ad) (AA ad)) args s 0 0 (AA ad)) (F0 m 0 ls [])
def J_X12_next_v_181 (p : Program) (l : Launch) (e : Env) (s : State) (m : MethodId) (args : Array Value) (below : List Frame) (meth : Method) (c : Code) (D : va_G) (cA : Nat → ClassId) (ad : Nat → Nat) (σ0 : Nat → Nat → Int32) (τ0 : Nat → Nat → Int64) (b : Nat → Int) (N : Nat) (mo : Nat) (qn : Nat) (n : Nat) : Prop := ∀ (σ : Nat → Nat → Int32) (τ : Nat → Nat → Int64) (H : Heap) (locs : List Loc) (x1 : Int32) (x2 : Int32) (x3 : Int32) (ln : Nat) (ls : Array Slot), Rg σ → Fr L_X12_next_v σ0 σ → FrL LL_X12_next_v τ0 τ → va_P D vwCl (gw cA ad σ τ) H → va_S (AA ad) s.heap H locs → (48 ≤ x1.toInt ∧ x1.toInt ≤ 122) → (0 ≤ x2.toInt ∧ x2.toInt ≤ 1) → (0 ≤ x3.toInt ∧ x3.toInt ≤ 1) → (0 ≤ (σ 387 4).toInt ∧ (σ 387 4).toInt ≤ 940) → (0 ≤ (σ 387 3).toInt ∧ (σ 387 3).toInt ≤ 940) → (0 ≤ (σ 387 5).toInt ∧ (σ 387 5).toInt ≤ 940) → (0 ≤ (σ 387 12).toInt ∧ (σ 387 12).toInt ≤ 940) → (0 ≤ (σ 387 13).toInt ∧ (σ 387 13).toInt ≤ 941) → ((σ0 387 4).toInt ≤ (σ 387 4).toInt) → ((σ 387 4).toInt = (qn : Int) + ln) → (qn + ln ≤ N) → ((σ 387 13).toInt = (ln : Int)) → ((σ 387 12).toInt = (qn : Int)) → ((x2.toInt = 1 ∧ isLt (b qn)) ∨ (x2.toInt = 0 ∧ isDg (b qn))) → (isRn (b qn)) → (¬ endq N mo qn) → (∀ i : Nat, i < ln → isRn (b (qn + i))) → ((x3.toInt = 1 ∧ ((x2.toInt = 1 ∧ dgc b qn ln = 0) ∨ (x2.toInt = 0 ∧ dgc b qn ln = ln))) ∨ (x3.toInt = 0 ∧ dgc b qn ln ≠ 0 ∧ dgc b qn ln ≠ ln)) → (7 < ln ∨ (τ 387 17).toInt = fd 256 0 b qn ln) → (3 < ln ∨ (σ 387 14).toInt = fd 10 48 b qn ln) → (MT σ b N mo) → lv_has ls 4 [(0, .ref (ad 387)), (1, .int x1), (2, .int x2), (3, .int x3)] → 4 * (940 - (σ 387 4).toInt) + 3 < (n : Int) → W p l e ({ frames := 1, cells := 0, slots := 0, locals := 20 } : Room) s m args below meth c H locs 0 0 (MQ below (va_Qv (fun u : SS => P_X12_next_v σ0 τ0 b N mo qn u.1 u.2) (WB D cA ad) (AA ad)) args s 0 0 (AA ad)) (F0 m 181 ls [])
def J_X12_next_v_221 (p : Program) (l : Launch) (e : Env) (s : State) (m : MethodId) (args : Array Value) (below : List Frame) (meth : Method) (c : Code) (D : va_G) (cA : Nat → ClassId) (ad : Nat → Nat) (σ0 : Nat → Nat → Int32) (τ0 : Nat → Nat → Int64) (b : Nat → Int) (N : Nat) (mo : Nat) (qn : Nat) (n : Nat) : Prop := ∀ (σ : Nat → Nat → Int32) (τ : Nat → Nat → Int64) (H : Heap) (locs : List Loc) (x1 : Int32) (x2 : Int32) (x3 : Int32) (w0 : Int32) (ln : Nat) (ls : Array Slot), Rg σ → Fr L_X12_next_v σ0 σ → FrL LL_X12_next_v τ0 τ → va_P D vwCl (gw cA ad σ τ) H → va_S (AA ad) s.heap H locs → (48 ≤ x1.toInt ∧ x1.toInt ≤ 122) → (0 ≤ x2.toInt ∧ x2.toInt ≤ 1) → (0 ≤ x3.toInt ∧ x3.toInt ≤ 1) → (0 ≤ w0.toInt ∧ w0.toInt ≤ 1) → (0 ≤ (σ 387 4).toInt ∧ (σ 387 4).toInt ≤ 940) → (0 ≤ (σ 387 3).toInt ∧ (σ 387 3).toInt ≤ 940) → (0 ≤ (σ 387 5).toInt ∧ (σ 387 5).toInt ≤ 940) → (0 ≤ (σ 387 12).toInt ∧ (σ 387 12).toInt ≤ 940) → (0 ≤ (σ 387 13).toInt ∧ (σ 387 13).toInt ≤ 941) → ((σ0 387 4).toInt ≤ (σ 387 4).toInt) → ((σ 387 4).toInt < (σ 387 3).toInt) → ((σ 387 4).toInt = (qn : Int) + ln) → (qn + ln ≤ N) → ((σ 387 13).toInt = (ln : Int)) → ((σ 387 12).toInt = (qn : Int)) → ((x2.toInt = 1 ∧ isLt (b qn)) ∨ (x2.toInt = 0 ∧ isDg (b qn))) → (isRn (b qn)) → (¬ endq N mo qn) → (∀ i : Nat, i < ln → isRn (b (qn + i))) → (isRn (b (qn + ln))) → ((w0.toInt = 1 ∧ ((x2.toInt = 1 ∧ dgc b qn (ln + 1) = 0) ∨ (x2.toInt = 0 ∧ dgc b qn (ln + 1) = ln + 1))) ∨ (w0.toInt = 0 ∧ dgc b qn (ln + 1) ≠ 0 ∧ dgc b qn (ln + 1) ≠ ln + 1)) → (7 < ln ∨ (τ 387 17).toInt = fd 256 0 b qn ln) → (3 < ln ∨ (σ 387 14).toInt = fd 10 48 b qn ln) → (MT σ b N mo) → lv_has ls 4 [(0, .ref (ad 387)), (1, .int x1), (2, .int x2), (3, .int x3)] → 4 * (940 - (σ 387 4).toInt) + 2 < (n : Int) → W p l e ({ frames := 1, cells := 0, slots := 0, locals := 20 } : Room) s m args below meth c H locs 0 0 (MQ below (va_Qv (fun u : SS => P_X12_next_v σ0 τ0 b N mo qn u.1 u.2) (WB D cA ad) (AA ad)) args s 0 0 (AA ad)) (F0 m 221 ls [.int w0])
def J_X12_next_v_248 (p : Program) (l : Launch) (e : Env) (s : State) (m : MethodId) (args : Array Value) (below : List Frame) (meth : Method) (c : Code) (D : va_G) (cA : Nat → ClassId) (ad : Nat → Nat) (σ0 : Nat → Nat → Int32) (τ0 : Nat → Nat → Int64) (b : Nat → Int) (N : Nat) (mo : Nat) (qn : Nat) (n : Nat) : Prop := ∀ (σ : Nat → Nat → Int32) (τ : Nat → Nat → Int64) (H : Heap) (locs : List Loc) (x1 : Int32) (x2 : Int32) (x3 : Int32) (ln : Nat) (ls : Array Slot), Rg σ → Fr L_X12_next_v σ0 σ → FrL LL_X12_next_v τ0 τ → va_P D vwCl (gw cA ad σ τ) H → va_S (AA ad) s.heap H locs → (48 ≤ x1.toInt ∧ x1.toInt ≤ 122) → (0 ≤ x2.toInt ∧ x2.toInt ≤ 1) → (0 ≤ x3.toInt ∧ x3.toInt ≤ 1) → (0 ≤ (σ 387 4).toInt ∧ (σ 387 4).toInt ≤ 940) → (0 ≤ (σ 387 3).toInt ∧ (σ 387 3).toInt ≤ 940) → (0 ≤ (σ 387 5).toInt ∧ (σ 387 5).toInt ≤ 940) → (0 ≤ (σ 387 12).toInt ∧ (σ 387 12).toInt ≤ 940) → (0 ≤ (σ 387 13).toInt ∧ (σ 387 13).toInt ≤ 941) → ((σ0 387 4).toInt ≤ (σ 387 4).toInt) → ((σ 387 4).toInt < (σ 387 3).toInt) → ((σ 387 4).toInt = (qn : Int) + ln) → (qn + ln ≤ N) → ((σ 387 13).toInt = (ln : Int)) → ((σ 387 12).toInt = (qn : Int)) → ((x2.toInt = 1 ∧ isLt (b qn)) ∨ (x2.toInt = 0 ∧ isDg (b qn))) → (isRn (b qn)) → (¬ endq N mo qn) → (∀ i : Nat, i < ln → isRn (b (qn + i))) → (isRn (b (qn + ln))) → ((x3.toInt = 1 ∧ ((x2.toInt = 1 ∧ dgc b qn (ln + 1) = 0) ∨ (x2.toInt = 0 ∧ dgc b qn (ln + 1) = ln + 1))) ∨ (x3.toInt = 0 ∧ dgc b qn (ln + 1) ≠ 0 ∧ dgc b qn (ln + 1) ≠ ln + 1)) → (7 < ln + 1 ∨ (τ 387 17).toInt = fd 256 0 b qn (ln + 1)) → (3 < ln ∨ (σ 387 14).toInt = fd 10 48 b qn ln) → (MT σ b N mo) → lv_has ls 4 [(0, .ref (ad 387)), (1, .int x1), (2, .int x2), (3, .int x3)] → 4 * (940 - (σ 387 4).toInt) + 1 < (n : Int) → W p l e ({ frames := 1, cells := 0, slots := 0, locals := 20 } : Room) s m args below meth c H locs 0 0 (MQ below (va_Qv (fun u : SS => P_X12_next_v σ0 τ0 b N mo qn u.1 u.2) (WB D cA ad) (AA ad)) args s 0 0 (AA ad)) (F0 m 248 ls [])
set_option maxHeartbeats 4000000 in
theorem B_X12_next_v_0 (p : Program) (l : Launch) (e : Env) (s : State) (m : MethodId) (args : Array Value) (below : List Frame) (meth : Method) (c : Code) (D : va_G) (cA : Nat → ClassId) (ad : Nat → Nat) (σ0 : Nat → Nat → Int32) (τ0 : Nat → Nat → Int64) (b : Nat → Int) (N : Nat) (mo : Nat) (qn : Nat) (n : Nat) (C : Cy p s m args meth c cX12_next 4 wsX12_next RX12 D cA ad none) (hpre0 : MP σ0 b N mo qn) (gMT0 : MT σ0 b N mo) (K0 : J_X12_next_v_0 p l e s m args below meth c D cA ad σ0 τ0 b N mo qn n) (K181 : J_X12_next_v_181 p l e s m args below meth c D cA ad σ0 τ0 b N mo qn n) (K221 : J_X12_next_v_221 p l e s m args below meth c D cA ad σ0 τ0 b N mo qn n) (K248 : J_X12_next_v_248 p l e s m args below meth c D cA ad σ0 τ0 b N mo qn n) : J_X12_next_v_0 p l e s m args below meth c D cA ad σ0 τ0 b N mo qn (n + 1) := by
  obtain ⟨hx, hb, hml, hown, hts, hK, hk, hr, hI, hN⟩ := C
  intro σ τ H locs pp ls hR hF hFL hP hS hc0 hc1 hc2 imo ipp ipn ipq gMT hl hm
  have hms := gMT.1
  have hmx := gMT.2.2.1
  have hmo := gMT.2.1
  refine lv_aload_n hx hb dX12_next_0 rfl (lv_at hl 0 rfl) ?_
  refine r_cVi (k := 387) (As := []) (rest := []) ⟨hx, hb, hml, hown, hts⟩ hK hP hN hS (c_X12_peek_v l D cA ad hI σ τ hR b N mo pp (by omega) gMT) (cwV 0 hts gX12_next_X12_peek rfl rfl rfl (by decide +kernel) ⟨by decide, by decide⟩) (rv_M hK hP (by decide) (by decide)) rfl hl.1 rfl (Nat.le_of_ble_eq_true rfl) dX12_next_1 (Nat.zero_le _) (Nat.zero_le _) (fun r1 u1 H1 locs1 hp1 hP hS => ?_)
  obtain ⟨σ1, τ1⟩ := u1
  obtain ⟨hR, f1, fL1, hq1, hp1_0, gnMT⟩ : P_X12_peek_v σ τ b N mo pp r1 σ1 τ1 := hp1
  have hP : va_P D vwCl (gw cA ad σ1 τ1) H1 := hP
  obtain rfl := FrL.nil fL1
  obtain rfl := Fr.nil f1
  refine r_bipush hx hb dX12_next_4 (by decide) (fun z2 ez2 => ?_)
  refine r_icmp_eq (tgt := 18) hx hb dX12_next_6 (by decide) (fun c3 => ?_) (fun c3 => ?_)
  · refine lv_aload_n hx hb dX12_next_18 rfl (lv_at hl 0 rfl) ?_
    refine lv_dup hx hb dX12_next_19 rfl ?_
    refine fg_12_4 (k := 387) hx hb hts in_X12_next_12 hown hK hP (by decide) (by decide) (hts _ lk_X12_next_21) dX12_next_20 ?_
    refine r_iconst hx hb dX12_next_23 (by decide) (fun z4 ez4 => ?_)
    refine r_iadd hx hb dX12_next_24 (by omega) (fun z5 ez5 => ?_)
    refine fp_12_4 (k := 387) hx hb hts in_X12_next_12 hown hK hP (by decide) (by decide) (hts _ lk_X12_next_21) hI hR hS (by omega) dX12_next_25 (fun σ6 H6 locs6 u6 v6 hR hP hS => ?_)
    have hF := hF.puts u6 0 rfl (by decide) (by decide) (by decide) (by decide)
    have gMT := gMT.ag (Agr.put u6 (by decide))
    have t7 : (σ6 387 3).toInt = (σ 387 3).toInt := congrArg Int32.toInt (u6 387 3 (by omega))
    have t8 : (σ6 387 5).toInt = (σ 387 5).toInt := congrArg Int32.toInt (u6 387 5 (by omega))
    have t9 : (σ6 387 11).toInt = (σ 387 11).toInt := congrArg Int32.toInt (u6 387 11 (by omega))
    have t10 : (σ6 387 12).toInt = (σ 387 12).toInt := congrArg Int32.toInt (u6 387 12 (by omega))
    have t11 : (σ6 387 13).toInt = (σ 387 13).toInt := congrArg Int32.toInt (u6 387 13 (by omega))
    have t12 : (σ6 387 14).toInt = (σ 387 14).toInt := congrArg Int32.toInt (u6 387 14 (by omega))
    refine lv_goto (tgt := 0) hx hb dX12_next_28 (by decide) ?_
    exact K0 σ6 τ H6 locs6 (pp + 1) ls hR hF hFL hP hS (by omega) (by omega) (by omega) (by omega) (by omega) (by omega) (by first | exact hp2 | (rw [skpE_step (by omega) (by omega)]; exact ipq)) gMT (lv_sub hl [0] rfl) (by omega)
  · refine lv_aload_n hx hb dX12_next_9 rfl (lv_at hl 0 rfl) ?_
    refine r_cVi (k := 387) (As := []) (rest := []) ⟨hx, hb, hml, hown, hts⟩ hK hP hN hS (c_X12_peek_v l D cA ad hI σ τ hR b N mo pp (by omega) gMT) (cwV 0 hts gX12_next_X12_peek rfl rfl rfl (by decide +kernel) ⟨by decide, by decide⟩) (rv_M hK hP (by decide) (by decide)) rfl hl.1 rfl (Nat.le_of_ble_eq_true rfl) dX12_next_10 (Nat.zero_le _) (Nat.zero_le _) (fun r13 u13 H13 locs13 hp13 hP hS => ?_)
    obtain ⟨σ13, τ13⟩ := u13
    obtain ⟨hR, f13, fL13, hq13, hp13_0, gnMT⟩ : P_X12_peek_v σ τ b N mo pp r13 σ13 τ13 := hp13
    have hP : va_P D vwCl (gw cA ad σ13 τ13) H13 := hP
    obtain rfl := FrL.nil fL13
    obtain rfl := Fr.nil f13
    refine r_bipush hx hb dX12_next_13 (by decide) (fun z14 ez14 => ?_)
    refine r_icmp_ne (tgt := 31) hx hb dX12_next_15 (by decide) (fun c15 => ?_) (fun c15 => ?_)
    · have hsk : skpE b N pp = pp := skpE_self (by omega)
      have hq2 : lmq N mo pp = qn := by rw [← ipq, hsk]
      refine lv_aload_n hx hb dX12_next_31 rfl (lv_at hl 0 rfl) ?_
      refine lv_aload_n hx hb dX12_next_32 rfl (lv_at hl 0 rfl) ?_
      refine fg_12_4 (k := 387) hx hb hts in_X12_next_12 hown hK hP (by decide) (by decide) (hts _ lk_X12_next_21) dX12_next_33 ?_
      refine fp_12_12 (k := 387) hx hb hts in_X12_next_12 hown hK hP (by decide) (by decide) (hts _ lk_X12_next_153) hI hR hS dX12_next_36 (fun σ16 H16 locs16 u16 v16 hR hP hS => ?_)
      have hF := hF.puts u16 1 rfl (by decide) (by decide) (by decide) (by decide)
      have gMT := gMT.ag (Agr.put u16 (by decide))
      have t17 : (σ16 387 3).toInt = (σ 387 3).toInt := congrArg Int32.toInt (u16 387 3 (by omega))
      have t18 : (σ16 387 5).toInt = (σ 387 5).toInt := congrArg Int32.toInt (u16 387 5 (by omega))
      have t19 : (σ16 387 11).toInt = (σ 387 11).toInt := congrArg Int32.toInt (u16 387 11 (by omega))
      have t20 : (σ16 387 13).toInt = (σ 387 13).toInt := congrArg Int32.toInt (u16 387 13 (by omega))
      have t21 : (σ16 387 14).toInt = (σ 387 14).toInt := congrArg Int32.toInt (u16 387 14 (by omega))
      have t22 : (σ16 387 4).toInt = (σ 387 4).toInt := congrArg Int32.toInt (u16 387 4 (by omega))
      refine lv_aload_n hx hb dX12_next_39 rfl (lv_at hl 0 rfl) ?_
      refine r_iconst hx hb dX12_next_40 (by decide) (fun z23 ez23 => ?_)
      refine fp_12_13 (k := 387) hx hb hts in_X12_next_12 hown hK hP (by decide) (by decide) (hts _ lk_X12_next_156) hI hR hS dX12_next_41 (fun σ24 H24 locs24 u24 v24 hR hP hS => ?_)
      have hF := hF.puts u24 1 rfl (by decide) (by decide) (by decide) (by decide)
      have gMT := gMT.ag (Agr.put u24 (by decide))
      have t25 : (σ24 387 3).toInt = (σ16 387 3).toInt := congrArg Int32.toInt (u24 387 3 (by omega))
      have t26 : (σ24 387 5).toInt = (σ16 387 5).toInt := congrArg Int32.toInt (u24 387 5 (by omega))
      have t27 : (σ24 387 11).toInt = (σ16 387 11).toInt := congrArg Int32.toInt (u24 387 11 (by omega))
      have t28 : (σ24 387 14).toInt = (σ16 387 14).toInt := congrArg Int32.toInt (u24 387 14 (by omega))
      have t29 : (σ24 387 4).toInt = (σ16 387 4).toInt := congrArg Int32.toInt (u24 387 4 (by omega))
      have t30 : (σ24 387 12).toInt = (σ16 387 12).toInt := congrArg Int32.toInt (u24 387 12 (by omega))
      refine lv_aload_n hx hb dX12_next_44 rfl (lv_at hl 0 rfl) ?_
      refine fg_12_3 (k := 387) hx hb hts in_X12_next_12 hown hK hP (by decide) (by decide) (hts _ lk_X12_next_18) dX12_next_45 ?_
      refine lv_aload_n hx hb dX12_next_48 rfl (lv_at hl 0 rfl) ?_
      refine fg_12_5 (k := 387) hx hb hts in_X12_next_12 hown hK hP (by decide) (by decide) (hts _ lk_X12_next_24) dX12_next_49 ?_
      refine r_icmp_le (tgt := 80) hx hb dX12_next_52 (by decide) (fun c31 => ?_) (fun c31 => ?_)
      · refine lv_aload_n hx hb dX12_next_80 rfl (lv_at hl 0 rfl) ?_
        refine r_cVi (k := 387) (As := []) (rest := []) ⟨hx, hb, hml, hown, hts⟩ hK hP hN hS (c_X12_peek_v l D cA ad hI σ24 τ hR b N mo pp (by omega) gMT) (cwV 0 hts gX12_next_X12_peek rfl rfl rfl (by decide +kernel) ⟨by decide, by decide⟩) (rv_M hK hP (by decide) (by decide)) rfl hl.1 rfl (Nat.le_of_ble_eq_true rfl) dX12_next_81 (Nat.zero_le _) (Nat.zero_le _) (fun r32 u32 H32 locs32 hp32 hP hS => ?_)
        obtain ⟨σ32, τ32⟩ := u32
        obtain ⟨hR, f32, fL32, hq32, hp32_0, gnMT⟩ : P_X12_peek_v σ24 τ b N mo pp r32 σ32 τ32 := hp32
        have hP : va_P D vwCl (gw cA ad σ32 τ32) H32 := hP
        obtain rfl := FrL.nil fL32
        obtain rfl := Fr.nil f32
        refine lv_istore_n (lv' := [(1, .int r32), (0, .ref (ad 387))]) hx hb dX12_next_84 rfl hl (by decide) rfl (fun ls hl => ?_)
        refine lv_iload_n hx hb dX12_next_85 rfl (lv_at hl 0 rfl) ?_
        refine r_if_ge (tgt := 95) hx hb dX12_next_86 (by decide) (fun c33 => ?_) (fun c33 => ?_)
        · refine lv_iload_n hx hb dX12_next_95 rfl (lv_at hl 0 rfl) ?_
          refine r_cSi (As := [.int r32]) (rest := []) ⟨hx, hb, hml, hown, hts⟩ hK hP hN hS (c_X12_isSmall l D cA ad hI σ24 τ hR r32 (by omega)) (va_cwS 1 hts gX12_next_X12_isSmall rfl rfl rfl (by decide +kernel) ⟨by decide, by decide⟩) rfl hl.1 rfl (Nat.le_of_ble_eq_true rfl) dX12_next_96 (Nat.zero_le _) (Nat.zero_le _) (fun r34 u34 H34 locs34 hp34 hP hS => ?_)
          obtain ⟨σ34, τ34⟩ := u34
          obtain ⟨hR, f34, fL34, hq34, hp34_0⟩ : P_X12_isSmall σ24 τ r32 r34 σ34 τ34 := hp34
          have hP : va_P D vwCl (gw cA ad σ34 τ34) H34 := hP
          obtain rfl := FrL.nil fL34
          obtain rfl := Fr.nil f34
          refine r_if_ne (tgt := 164) hx hb dX12_next_99 (by decide) (fun c35 => ?_) (fun c35 => ?_)
          · have hqp : qn = pp := by rw [← hq2]; exact lmq_id (by omega)
            have hne : ¬ endq N mo qn := by omega
            have hrn : isRn (b qn) := by rw [hqp]; omega
            refine lv_iload_n hx hb dX12_next_164 rfl (lv_at hl 0 rfl) ?_
            refine r_cSi (As := [.int r32]) (rest := []) ⟨hx, hb, hml, hown, hts⟩ hK hP hN hS (c_X12_isSmall l D cA ad hI σ24 τ hR r32 (by omega)) (va_cwS 1 hts gX12_next_X12_isSmall rfl rfl rfl (by decide +kernel) ⟨by decide, by decide⟩) rfl hl.1 rfl (Nat.le_of_ble_eq_true rfl) dX12_next_165 (Nat.zero_le _) (Nat.zero_le _) (fun r36 u36 H36 locs36 hp36 hP hS => ?_)
            obtain ⟨σ36, τ36⟩ := u36
            obtain ⟨hR, f36, fL36, hq36, hp36_0⟩ : P_X12_isSmall σ24 τ r32 r36 σ36 τ36 := hp36
            have hP : va_P D vwCl (gw cA ad σ36 τ36) H36 := hP
            obtain rfl := FrL.nil fL36
            obtain rfl := Fr.nil f36
            refine lv_istore_n (lv' := [(2, .int r36), (1, .int r32), (0, .ref (ad 387))]) hx hb dX12_next_168 rfl hl (by decide) rfl (fun ls hl => ?_)
            refine r_iconst hx hb dX12_next_169 (by decide) (fun z37 ez37 => ?_)
            refine lv_istore_n (lv' := [(3, .int z37), (2, .int r36), (1, .int r32), (0, .ref (ad 387))]) hx hb dX12_next_170 rfl hl (by decide) rfl (fun ls hl => ?_)
            refine lv_aload_n hx hb dX12_next_171 rfl (lv_at hl 3 rfl) ?_
            refine lv_lconst (v := 0) hx hb dX12_next_172 (by decide) ?_
            refine fpL_12_17 (k := 387) hx hb hts in_X12_next_12 hown hK hP (by decide) (by decide) (hts _ lk_X12_next_172) hI hS dX12_next_173 (fun τ38 H38 locs38 uL38 vL38 hP hS => ?_)
            have uw0 := uL38
            have vw0 := vL38
            have hFL := hFL.puts uL38 0 rfl (by decide) (by decide) (by decide) (by decide)
            refine lv_aload_n hx hb dX12_next_176 rfl (lv_at hl 3 rfl) ?_
            refine r_iconst hx hb dX12_next_177 (by decide) (fun z39 ez39 => ?_)
            refine fp_12_14 (k := 387) hx hb hts in_X12_next_12 hown hK hP (by decide) (by decide) (hts _ lk_X12_next_169) hI hR hS dX12_next_178 (fun σ40 H40 locs40 u40 v40 hR hP hS => ?_)
            have hF := hF.puts u40 1 rfl (by decide) (by decide) (by decide) (by decide)
            have gMT := gMT.ag (Agr.put u40 (by decide))
            have t41 : (σ40 387 3).toInt = (σ24 387 3).toInt := congrArg Int32.toInt (u40 387 3 (by omega))
            have t42 : (σ40 387 5).toInt = (σ24 387 5).toInt := congrArg Int32.toInt (u40 387 5 (by omega))
            have t43 : (σ40 387 11).toInt = (σ24 387 11).toInt := congrArg Int32.toInt (u40 387 11 (by omega))
            have t44 : (σ40 387 4).toInt = (σ24 387 4).toInt := congrArg Int32.toInt (u40 387 4 (by omega))
            have t45 : (σ40 387 12).toInt = (σ24 387 12).toInt := congrArg Int32.toInt (u40 387 12 (by omega))
            have t46 : (σ40 387 13).toInt = (σ24 387 13).toInt := congrArg Int32.toInt (u40 387 13 (by omega))
            exact K181 σ40 τ38 H40 locs40 r32 r36 z37 0 ls hR hF hFL hP hS (by omega) (by omega) (by omega) (by omega) (by omega) (by omega) (by omega) (by omega) (by omega) (by omega) (by omega) (by omega) (by omega) (by first | exact iss | (rw [hqp]; omega)) (by first | exact irq | exact hrn) (by first | exact ine | exact hne) (by first | exact (fun i hi => absurd hi (Nat.not_lt_zero i)) | exact rn_s irr irl) (by first | exact iaa | (have h0 : dgc b qn 0 = 0 := rfl; omega)) (by first | exact iww | exact Or.inr (by rw [vw0]; rfl)) (by first | exact inn | exact Or.inr (by show _ = (0 : Int); omega) | exact Or.inl (by omega) | (have hm := MNs inn (by omega) irr hb265 irl; omega)) gMT (lv_sub hl [3, 2, 1, 0] rfl) (by omega)
          · refine lv_iload_n hx hb dX12_next_102 rfl (lv_at hl 0 rfl) ?_
            refine r_cSi (As := [.int r32]) (rest := []) ⟨hx, hb, hml, hown, hts⟩ hK hP hN hS (c_X12_isDigit l D cA ad hI σ24 τ hR r32 (by omega)) (va_cwS 1 hts gX12_next_X12_isDigit rfl rfl rfl (by decide +kernel) ⟨by decide, by decide⟩) rfl hl.1 rfl (Nat.le_of_ble_eq_true rfl) dX12_next_103 (Nat.zero_le _) (Nat.zero_le _) (fun r47 u47 H47 locs47 hp47 hP hS => ?_)
            obtain ⟨σ47, τ47⟩ := u47
            obtain ⟨hR, f47, fL47, hq47, hp47_0⟩ : P_X12_isDigit σ24 τ r32 r47 σ47 τ47 := hp47
            have hP : va_P D vwCl (gw cA ad σ47 τ47) H47 := hP
            obtain rfl := FrL.nil fL47
            obtain rfl := Fr.nil f47
            refine r_if_ne (tgt := 164) hx hb dX12_next_106 (by decide) (fun c48 => ?_) (fun c48 => ?_)
            · have hqp : qn = pp := by rw [← hq2]; exact lmq_id (by omega)
              have hne : ¬ endq N mo qn := by omega
              have hrn : isRn (b qn) := by rw [hqp]; omega
              refine lv_iload_n hx hb dX12_next_164 rfl (lv_at hl 0 rfl) ?_
              refine r_cSi (As := [.int r32]) (rest := []) ⟨hx, hb, hml, hown, hts⟩ hK hP hN hS (c_X12_isSmall l D cA ad hI σ24 τ hR r32 (by omega)) (va_cwS 1 hts gX12_next_X12_isSmall rfl rfl rfl (by decide +kernel) ⟨by decide, by decide⟩) rfl hl.1 rfl (Nat.le_of_ble_eq_true rfl) dX12_next_165 (Nat.zero_le _) (Nat.zero_le _) (fun r49 u49 H49 locs49 hp49 hP hS => ?_)
              obtain ⟨σ49, τ49⟩ := u49
              obtain ⟨hR, f49, fL49, hq49, hp49_0⟩ : P_X12_isSmall σ24 τ r32 r49 σ49 τ49 := hp49
              have hP : va_P D vwCl (gw cA ad σ49 τ49) H49 := hP
              obtain rfl := FrL.nil fL49
              obtain rfl := Fr.nil f49
              refine lv_istore_n (lv' := [(2, .int r49), (1, .int r32), (0, .ref (ad 387))]) hx hb dX12_next_168 rfl hl (by decide) rfl (fun ls hl => ?_)
              refine r_iconst hx hb dX12_next_169 (by decide) (fun z50 ez50 => ?_)
              refine lv_istore_n (lv' := [(3, .int z50), (2, .int r49), (1, .int r32), (0, .ref (ad 387))]) hx hb dX12_next_170 rfl hl (by decide) rfl (fun ls hl => ?_)
              refine lv_aload_n hx hb dX12_next_171 rfl (lv_at hl 3 rfl) ?_
              refine lv_lconst (v := 0) hx hb dX12_next_172 (by decide) ?_
              refine fpL_12_17 (k := 387) hx hb hts in_X12_next_12 hown hK hP (by decide) (by decide) (hts _ lk_X12_next_172) hI hS dX12_next_173 (fun τ51 H51 locs51 uL51 vL51 hP hS => ?_)
              have uw0 := uL51
              have vw0 := vL51
              have hFL := hFL.puts uL51 0 rfl (by decide) (by decide) (by decide) (by decide)
              refine lv_aload_n hx hb dX12_next_176 rfl (lv_at hl 3 rfl) ?_
              refine r_iconst hx hb dX12_next_177 (by decide) (fun z52 ez52 => ?_)
              refine fp_12_14 (k := 387) hx hb hts in_X12_next_12 hown hK hP (by decide) (by decide) (hts _ lk_X12_next_169) hI hR hS dX12_next_178 (fun σ53 H53 locs53 u53 v53 hR hP hS => ?_)
              have hF := hF.puts u53 1 rfl (by decide) (by decide) (by decide) (by decide)
              have gMT := gMT.ag (Agr.put u53 (by decide))
              have t54 : (σ53 387 3).toInt = (σ24 387 3).toInt := congrArg Int32.toInt (u53 387 3 (by omega))
              have t55 : (σ53 387 5).toInt = (σ24 387 5).toInt := congrArg Int32.toInt (u53 387 5 (by omega))
              have t56 : (σ53 387 11).toInt = (σ24 387 11).toInt := congrArg Int32.toInt (u53 387 11 (by omega))
              have t57 : (σ53 387 4).toInt = (σ24 387 4).toInt := congrArg Int32.toInt (u53 387 4 (by omega))
              have t58 : (σ53 387 12).toInt = (σ24 387 12).toInt := congrArg Int32.toInt (u53 387 12 (by omega))
              have t59 : (σ53 387 13).toInt = (σ24 387 13).toInt := congrArg Int32.toInt (u53 387 13 (by omega))
              exact K181 σ53 τ51 H53 locs53 r32 r49 z50 0 ls hR hF hFL hP hS (by omega) (by omega) (by omega) (by omega) (by omega) (by omega) (by omega) (by omega) (by omega) (by omega) (by omega) (by omega) (by omega) (by first | exact iss | (rw [hqp]; omega)) (by first | exact irq | exact hrn) (by first | exact ine | exact hne) (by first | exact (fun i hi => absurd hi (Nat.not_lt_zero i)) | exact rn_s irr irl) (by first | exact iaa | (have h0 : dgc b qn 0 = 0 := rfl; omega)) (by first | exact iww | exact Or.inr (by rw [vw0]; rfl)) (by first | exact inn | exact Or.inr (by show _ = (0 : Int); omega) | exact Or.inl (by omega) | (have hm := MNs inn (by omega) irr hb265 irl; omega)) gMT (lv_sub hl [3, 2, 1, 0] rfl) (by omega)
            · refine lv_aload_n hx hb dX12_next_109 rfl (lv_at hl 1 rfl) ?_
              refine lv_iload_n hx hb dX12_next_110 rfl (lv_at hl 0 rfl) ?_
              refine r_bipush hx hb dX12_next_111 (by decide) (fun z60 ez60 => ?_)
              refine r_icmp_eq (tgt := 140) hx hb dX12_next_113 (by decide) (fun c61 => ?_) (fun c61 => ?_)
              · refine r_iconst hx hb dX12_next_140 (by decide) (fun z62 ez62 => ?_)
                refine lv_goto (tgt := 145) hx hb dX12_next_141 (by decide) ?_
                refine fp_12_11 (k := 387) hx hb hts in_X12_next_12 hown hK hP (by decide) (by decide) (hts _ lk_X12_next_159) hI hR hS dX12_next_145 (fun σ63 H63 locs63 u63 v63 hR hP hS => ?_)
                have hF := hF.puts u63 1 rfl (by decide) (by decide) (by decide) (by decide)
                have gMT := gMT.ag (Agr.put u63 (by decide))
                have t64 : (σ63 387 3).toInt = (σ24 387 3).toInt := congrArg Int32.toInt (u63 387 3 (by omega))
                have t65 : (σ63 387 5).toInt = (σ24 387 5).toInt := congrArg Int32.toInt (u63 387 5 (by omega))
                have t66 : (σ63 387 14).toInt = (σ24 387 14).toInt := congrArg Int32.toInt (u63 387 14 (by omega))
                have t67 : (σ63 387 4).toInt = (σ24 387 4).toInt := congrArg Int32.toInt (u63 387 4 (by omega))
                have t68 : (σ63 387 12).toInt = (σ24 387 12).toInt := congrArg Int32.toInt (u63 387 12 (by omega))
                have t69 : (σ63 387 13).toInt = (σ24 387 13).toInt := congrArg Int32.toInt (u63 387 13 (by omega))
                refine lv_aload_n hx hb dX12_next_148 rfl (lv_at hl 1 rfl) ?_
                refine lv_iload_n hx hb dX12_next_149 rfl (lv_at hl 0 rfl) ?_
                refine fp_12_14 (k := 387) hx hb hts in_X12_next_12 hown hK hP (by decide) (by decide) (hts _ lk_X12_next_169) hI hR hS dX12_next_150 (fun σ70 H70 locs70 u70 v70 hR hP hS => ?_)
                have hF := hF.puts u70 1 rfl (by decide) (by decide) (by decide) (by decide)
                have gMT := gMT.ag (Agr.put u70 (by decide))
                have t71 : (σ70 387 3).toInt = (σ63 387 3).toInt := congrArg Int32.toInt (u70 387 3 (by omega))
                have t72 : (σ70 387 5).toInt = (σ63 387 5).toInt := congrArg Int32.toInt (u70 387 5 (by omega))
                have t73 : (σ70 387 4).toInt = (σ63 387 4).toInt := congrArg Int32.toInt (u70 387 4 (by omega))
                have t74 : (σ70 387 12).toInt = (σ63 387 12).toInt := congrArg Int32.toInt (u70 387 12 (by omega))
                have t75 : (σ70 387 13).toInt = (σ63 387 13).toInt := congrArg Int32.toInt (u70 387 13 (by omega))
                have t76 : (σ70 387 11).toInt = (σ63 387 11).toInt := congrArg Int32.toInt (u70 387 11 (by omega))
                refine lv_aload_n hx hb dX12_next_153 rfl (lv_at hl 1 rfl) ?_
                refine lv_dup hx hb dX12_next_154 rfl ?_
                refine fg_12_4 (k := 387) hx hb hts in_X12_next_12 hown hK hP (by decide) (by decide) (hts _ lk_X12_next_21) dX12_next_155 ?_
                refine r_iconst hx hb dX12_next_158 (by decide) (fun z77 ez77 => ?_)
                refine r_iadd hx hb dX12_next_159 (by omega) (fun z78 ez78 => ?_)
                refine fp_12_4 (k := 387) hx hb hts in_X12_next_12 hown hK hP (by decide) (by decide) (hts _ lk_X12_next_21) hI hR hS (by omega) dX12_next_160 (fun σ79 H79 locs79 u79 v79 hR hP hS => ?_)
                have hF := hF.puts u79 0 rfl (by decide) (by decide) (by decide) (by decide)
                have gMT := gMT.ag (Agr.put u79 (by decide))
                have t80 : (σ79 387 3).toInt = (σ70 387 3).toInt := congrArg Int32.toInt (u79 387 3 (by omega))
                have t81 : (σ79 387 5).toInt = (σ70 387 5).toInt := congrArg Int32.toInt (u79 387 5 (by omega))
                have t82 : (σ79 387 12).toInt = (σ70 387 12).toInt := congrArg Int32.toInt (u79 387 12 (by omega))
                have t83 : (σ79 387 13).toInt = (σ70 387 13).toInt := congrArg Int32.toInt (u79 387 13 (by omega))
                have t84 : (σ79 387 11).toInt = (σ70 387 11).toInt := congrArg Int32.toInt (u79 387 11 (by omega))
                have t85 : (σ79 387 14).toInt = (σ70 387 14).toInt := congrArg Int32.toInt (u79 387 14 (by omega))
                exact r_vret hx hb hr hK hP hS hk dX12_next_163 (show P_X12_next_v σ0 τ0 b N mo qn σ79 τ from ⟨hR, hF, hFL, by omega, by omega, by omega, by first | exact MK.lim (p := pp) (by omega) (by omega) hsk hq2 (by omega) (by omega) (by omega) | exact MK.stop (p := pp) (by omega) (by omega) hsk hq2 (by omega) (by omega) (by omega) (by omega) | exact MK.sgn (p := pp) (by omega) (by omega) hq2 (by omega) (by omega) (by omega) (by omega) (by omega) | exact MK.run (n := ln) (by omega) (by omega) ine irq en (by omega) iww (by omega) (by omega), gMT⟩)
              · refine lv_iload_n hx hb dX12_next_116 rfl (lv_at hl 0 rfl) ?_
                refine r_bipush hx hb dX12_next_117 (by decide) (fun z86 ez86 => ?_)
                refine r_icmp_eq (tgt := 140) hx hb dX12_next_119 (by decide) (fun c87 => ?_) (fun c87 => ?_)
                · refine r_iconst hx hb dX12_next_140 (by decide) (fun z88 ez88 => ?_)
                  refine lv_goto (tgt := 145) hx hb dX12_next_141 (by decide) ?_
                  refine fp_12_11 (k := 387) hx hb hts in_X12_next_12 hown hK hP (by decide) (by decide) (hts _ lk_X12_next_159) hI hR hS dX12_next_145 (fun σ89 H89 locs89 u89 v89 hR hP hS => ?_)
                  have hF := hF.puts u89 1 rfl (by decide) (by decide) (by decide) (by decide)
                  have gMT := gMT.ag (Agr.put u89 (by decide))
                  have t90 : (σ89 387 3).toInt = (σ24 387 3).toInt := congrArg Int32.toInt (u89 387 3 (by omega))
                  have t91 : (σ89 387 5).toInt = (σ24 387 5).toInt := congrArg Int32.toInt (u89 387 5 (by omega))
                  have t92 : (σ89 387 14).toInt = (σ24 387 14).toInt := congrArg Int32.toInt (u89 387 14 (by omega))
                  have t93 : (σ89 387 4).toInt = (σ24 387 4).toInt := congrArg Int32.toInt (u89 387 4 (by omega))
                  have t94 : (σ89 387 12).toInt = (σ24 387 12).toInt := congrArg Int32.toInt (u89 387 12 (by omega))
                  have t95 : (σ89 387 13).toInt = (σ24 387 13).toInt := congrArg Int32.toInt (u89 387 13 (by omega))
                  refine lv_aload_n hx hb dX12_next_148 rfl (lv_at hl 1 rfl) ?_
                  refine lv_iload_n hx hb dX12_next_149 rfl (lv_at hl 0 rfl) ?_
                  refine fp_12_14 (k := 387) hx hb hts in_X12_next_12 hown hK hP (by decide) (by decide) (hts _ lk_X12_next_169) hI hR hS dX12_next_150 (fun σ96 H96 locs96 u96 v96 hR hP hS => ?_)
                  have hF := hF.puts u96 1 rfl (by decide) (by decide) (by decide) (by decide)
                  have gMT := gMT.ag (Agr.put u96 (by decide))
                  have t97 : (σ96 387 3).toInt = (σ89 387 3).toInt := congrArg Int32.toInt (u96 387 3 (by omega))
                  have t98 : (σ96 387 5).toInt = (σ89 387 5).toInt := congrArg Int32.toInt (u96 387 5 (by omega))
                  have t99 : (σ96 387 4).toInt = (σ89 387 4).toInt := congrArg Int32.toInt (u96 387 4 (by omega))
                  have t100 : (σ96 387 12).toInt = (σ89 387 12).toInt := congrArg Int32.toInt (u96 387 12 (by omega))
                  have t101 : (σ96 387 13).toInt = (σ89 387 13).toInt := congrArg Int32.toInt (u96 387 13 (by omega))
                  have t102 : (σ96 387 11).toInt = (σ89 387 11).toInt := congrArg Int32.toInt (u96 387 11 (by omega))
                  refine lv_aload_n hx hb dX12_next_153 rfl (lv_at hl 1 rfl) ?_
                  refine lv_dup hx hb dX12_next_154 rfl ?_
                  refine fg_12_4 (k := 387) hx hb hts in_X12_next_12 hown hK hP (by decide) (by decide) (hts _ lk_X12_next_21) dX12_next_155 ?_
                  refine r_iconst hx hb dX12_next_158 (by decide) (fun z103 ez103 => ?_)
                  refine r_iadd hx hb dX12_next_159 (by omega) (fun z104 ez104 => ?_)
                  refine fp_12_4 (k := 387) hx hb hts in_X12_next_12 hown hK hP (by decide) (by decide) (hts _ lk_X12_next_21) hI hR hS (by omega) dX12_next_160 (fun σ105 H105 locs105 u105 v105 hR hP hS => ?_)
                  have hF := hF.puts u105 0 rfl (by decide) (by decide) (by decide) (by decide)
                  have gMT := gMT.ag (Agr.put u105 (by decide))
                  have t106 : (σ105 387 3).toInt = (σ96 387 3).toInt := congrArg Int32.toInt (u105 387 3 (by omega))
                  have t107 : (σ105 387 5).toInt = (σ96 387 5).toInt := congrArg Int32.toInt (u105 387 5 (by omega))
                  have t108 : (σ105 387 12).toInt = (σ96 387 12).toInt := congrArg Int32.toInt (u105 387 12 (by omega))
                  have t109 : (σ105 387 13).toInt = (σ96 387 13).toInt := congrArg Int32.toInt (u105 387 13 (by omega))
                  have t110 : (σ105 387 11).toInt = (σ96 387 11).toInt := congrArg Int32.toInt (u105 387 11 (by omega))
                  have t111 : (σ105 387 14).toInt = (σ96 387 14).toInt := congrArg Int32.toInt (u105 387 14 (by omega))
                  exact r_vret hx hb hr hK hP hS hk dX12_next_163 (show P_X12_next_v σ0 τ0 b N mo qn σ105 τ from ⟨hR, hF, hFL, by omega, by omega, by omega, by first | exact MK.lim (p := pp) (by omega) (by omega) hsk hq2 (by omega) (by omega) (by omega) | exact MK.stop (p := pp) (by omega) (by omega) hsk hq2 (by omega) (by omega) (by omega) (by omega) | exact MK.sgn (p := pp) (by omega) (by omega) hq2 (by omega) (by omega) (by omega) (by omega) (by omega) | exact MK.run (n := ln) (by omega) (by omega) ine irq en (by omega) iww (by omega) (by omega), gMT⟩)
                · refine lv_iload_n hx hb dX12_next_122 rfl (lv_at hl 0 rfl) ?_
                  refine r_bipush hx hb dX12_next_123 (by decide) (fun z112 ez112 => ?_)
                  refine r_icmp_eq (tgt := 140) hx hb dX12_next_125 (by decide) (fun c113 => ?_) (fun c113 => ?_)
                  · refine r_iconst hx hb dX12_next_140 (by decide) (fun z114 ez114 => ?_)
                    refine lv_goto (tgt := 145) hx hb dX12_next_141 (by decide) ?_
                    refine fp_12_11 (k := 387) hx hb hts in_X12_next_12 hown hK hP (by decide) (by decide) (hts _ lk_X12_next_159) hI hR hS dX12_next_145 (fun σ115 H115 locs115 u115 v115 hR hP hS => ?_)
                    have hF := hF.puts u115 1 rfl (by decide) (by decide) (by decide) (by decide)
                    have gMT := gMT.ag (Agr.put u115 (by decide))
                    have t116 : (σ115 387 3).toInt = (σ24 387 3).toInt := congrArg Int32.toInt (u115 387 3 (by omega))
                    have t117 : (σ115 387 5).toInt = (σ24 387 5).toInt := congrArg Int32.toInt (u115 387 5 (by omega))
                    have t118 : (σ115 387 14).toInt = (σ24 387 14).toInt := congrArg Int32.toInt (u115 387 14 (by omega))
                    have t119 : (σ115 387 4).toInt = (σ24 387 4).toInt := congrArg Int32.toInt (u115 387 4 (by omega))
                    have t120 : (σ115 387 12).toInt = (σ24 387 12).toInt := congrArg Int32.toInt (u115 387 12 (by omega))
                    have t121 : (σ115 387 13).toInt = (σ24 387 13).toInt := congrArg Int32.toInt (u115 387 13 (by omega))
                    refine lv_aload_n hx hb dX12_next_148 rfl (lv_at hl 1 rfl) ?_
                    refine lv_iload_n hx hb dX12_next_149 rfl (lv_at hl 0 rfl) ?_
                    refine fp_12_14 (k := 387) hx hb hts in_X12_next_12 hown hK hP (by decide) (by decide) (hts _ lk_X12_next_169) hI hR hS dX12_next_150 (fun σ122 H122 locs122 u122 v122 hR hP hS => ?_)
                    have hF := hF.puts u122 1 rfl (by decide) (by decide) (by decide) (by decide)
                    have gMT := gMT.ag (Agr.put u122 (by decide))
                    have t123 : (σ122 387 3).toInt = (σ115 387 3).toInt := congrArg Int32.toInt (u122 387 3 (by omega))
                    have t124 : (σ122 387 5).toInt = (σ115 387 5).toInt := congrArg Int32.toInt (u122 387 5 (by omega))
                    have t125 : (σ122 387 4).toInt = (σ115 387 4).toInt := congrArg Int32.toInt (u122 387 4 (by omega))
                    have t126 : (σ122 387 12).toInt = (σ115 387 12).toInt := congrArg Int32.toInt (u122 387 12 (by omega))
                    have t127 : (σ122 387 13).toInt = (σ115 387 13).toInt := congrArg Int32.toInt (u122 387 13 (by omega))
                    have t128 : (σ122 387 11).toInt = (σ115 387 11).toInt := congrArg Int32.toInt (u122 387 11 (by omega))
                    refine lv_aload_n hx hb dX12_next_153 rfl (lv_at hl 1 rfl) ?_
                    refine lv_dup hx hb dX12_next_154 rfl ?_
                    refine fg_12_4 (k := 387) hx hb hts in_X12_next_12 hown hK hP (by decide) (by decide) (hts _ lk_X12_next_21) dX12_next_155 ?_
                    refine r_iconst hx hb dX12_next_158 (by decide) (fun z129 ez129 => ?_)
                    refine r_iadd hx hb dX12_next_159 (by omega) (fun z130 ez130 => ?_)
                    refine fp_12_4 (k := 387) hx hb hts in_X12_next_12 hown hK hP (by decide) (by decide) (hts _ lk_X12_next_21) hI hR hS (by omega) dX12_next_160 (fun σ131 H131 locs131 u131 v131 hR hP hS => ?_)
                    have hF := hF.puts u131 0 rfl (by decide) (by decide) (by decide) (by decide)
                    have gMT := gMT.ag (Agr.put u131 (by decide))
                    have t132 : (σ131 387 3).toInt = (σ122 387 3).toInt := congrArg Int32.toInt (u131 387 3 (by omega))
                    have t133 : (σ131 387 5).toInt = (σ122 387 5).toInt := congrArg Int32.toInt (u131 387 5 (by omega))
                    have t134 : (σ131 387 12).toInt = (σ122 387 12).toInt := congrArg Int32.toInt (u131 387 12 (by omega))
                    have t135 : (σ131 387 13).toInt = (σ122 387 13).toInt := congrArg Int32.toInt (u131 387 13 (by omega))
                    have t136 : (σ131 387 11).toInt = (σ122 387 11).toInt := congrArg Int32.toInt (u131 387 11 (by omega))
                    have t137 : (σ131 387 14).toInt = (σ122 387 14).toInt := congrArg Int32.toInt (u131 387 14 (by omega))
                    exact r_vret hx hb hr hK hP hS hk dX12_next_163 (show P_X12_next_v σ0 τ0 b N mo qn σ131 τ from ⟨hR, hF, hFL, by omega, by omega, by omega, by first | exact MK.lim (p := pp) (by omega) (by omega) hsk hq2 (by omega) (by omega) (by omega) | exact MK.stop (p := pp) (by omega) (by omega) hsk hq2 (by omega) (by omega) (by omega) (by omega) | exact MK.sgn (p := pp) (by omega) (by omega) hq2 (by omega) (by omega) (by omega) (by omega) (by omega) | exact MK.run (n := ln) (by omega) (by omega) ine irq en (by omega) iww (by omega) (by omega), gMT⟩)
                  · refine lv_iload_n hx hb dX12_next_128 rfl (lv_at hl 0 rfl) ?_
                    refine r_bipush hx hb dX12_next_129 (by decide) (fun z138 ez138 => ?_)
                    refine r_icmp_lt (tgt := 144) hx hb dX12_next_131 (by decide) (fun c139 => ?_) (fun c139 => ?_)
                    · refine r_iconst hx hb dX12_next_144 (by decide) (fun z140 ez140 => ?_)
                      refine fp_12_11 (k := 387) hx hb hts in_X12_next_12 hown hK hP (by decide) (by decide) (hts _ lk_X12_next_159) hI hR hS dX12_next_145 (fun σ141 H141 locs141 u141 v141 hR hP hS => ?_)
                      have hF := hF.puts u141 1 rfl (by decide) (by decide) (by decide) (by decide)
                      have gMT := gMT.ag (Agr.put u141 (by decide))
                      have t142 : (σ141 387 3).toInt = (σ24 387 3).toInt := congrArg Int32.toInt (u141 387 3 (by omega))
                      have t143 : (σ141 387 5).toInt = (σ24 387 5).toInt := congrArg Int32.toInt (u141 387 5 (by omega))
                      have t144 : (σ141 387 14).toInt = (σ24 387 14).toInt := congrArg Int32.toInt (u141 387 14 (by omega))
                      have t145 : (σ141 387 4).toInt = (σ24 387 4).toInt := congrArg Int32.toInt (u141 387 4 (by omega))
                      have t146 : (σ141 387 12).toInt = (σ24 387 12).toInt := congrArg Int32.toInt (u141 387 12 (by omega))
                      have t147 : (σ141 387 13).toInt = (σ24 387 13).toInt := congrArg Int32.toInt (u141 387 13 (by omega))
                      refine lv_aload_n hx hb dX12_next_148 rfl (lv_at hl 1 rfl) ?_
                      refine lv_iload_n hx hb dX12_next_149 rfl (lv_at hl 0 rfl) ?_
                      refine fp_12_14 (k := 387) hx hb hts in_X12_next_12 hown hK hP (by decide) (by decide) (hts _ lk_X12_next_169) hI hR hS dX12_next_150 (fun σ148 H148 locs148 u148 v148 hR hP hS => ?_)
                      have hF := hF.puts u148 1 rfl (by decide) (by decide) (by decide) (by decide)
                      have gMT := gMT.ag (Agr.put u148 (by decide))
                      have t149 : (σ148 387 3).toInt = (σ141 387 3).toInt := congrArg Int32.toInt (u148 387 3 (by omega))
                      have t150 : (σ148 387 5).toInt = (σ141 387 5).toInt := congrArg Int32.toInt (u148 387 5 (by omega))
                      have t151 : (σ148 387 4).toInt = (σ141 387 4).toInt := congrArg Int32.toInt (u148 387 4 (by omega))
                      have t152 : (σ148 387 12).toInt = (σ141 387 12).toInt := congrArg Int32.toInt (u148 387 12 (by omega))
                      have t153 : (σ148 387 13).toInt = (σ141 387 13).toInt := congrArg Int32.toInt (u148 387 13 (by omega))
                      have t154 : (σ148 387 11).toInt = (σ141 387 11).toInt := congrArg Int32.toInt (u148 387 11 (by omega))
                      refine lv_aload_n hx hb dX12_next_153 rfl (lv_at hl 1 rfl) ?_
                      refine lv_dup hx hb dX12_next_154 rfl ?_
                      refine fg_12_4 (k := 387) hx hb hts in_X12_next_12 hown hK hP (by decide) (by decide) (hts _ lk_X12_next_21) dX12_next_155 ?_
                      refine r_iconst hx hb dX12_next_158 (by decide) (fun z155 ez155 => ?_)
                      refine r_iadd hx hb dX12_next_159 (by omega) (fun z156 ez156 => ?_)
                      refine fp_12_4 (k := 387) hx hb hts in_X12_next_12 hown hK hP (by decide) (by decide) (hts _ lk_X12_next_21) hI hR hS (by omega) dX12_next_160 (fun σ157 H157 locs157 u157 v157 hR hP hS => ?_)
                      have hF := hF.puts u157 0 rfl (by decide) (by decide) (by decide) (by decide)
                      have gMT := gMT.ag (Agr.put u157 (by decide))
                      have t158 : (σ157 387 3).toInt = (σ148 387 3).toInt := congrArg Int32.toInt (u157 387 3 (by omega))
                      have t159 : (σ157 387 5).toInt = (σ148 387 5).toInt := congrArg Int32.toInt (u157 387 5 (by omega))
                      have t160 : (σ157 387 12).toInt = (σ148 387 12).toInt := congrArg Int32.toInt (u157 387 12 (by omega))
                      have t161 : (σ157 387 13).toInt = (σ148 387 13).toInt := congrArg Int32.toInt (u157 387 13 (by omega))
                      have t162 : (σ157 387 11).toInt = (σ148 387 11).toInt := congrArg Int32.toInt (u157 387 11 (by omega))
                      have t163 : (σ157 387 14).toInt = (σ148 387 14).toInt := congrArg Int32.toInt (u157 387 14 (by omega))
                      exact r_vret hx hb hr hK hP hS hk dX12_next_163 (show P_X12_next_v σ0 τ0 b N mo qn σ157 τ from ⟨hR, hF, hFL, by omega, by omega, by omega, by first | exact MK.lim (p := pp) (by omega) (by omega) hsk hq2 (by omega) (by omega) (by omega) | exact MK.stop (p := pp) (by omega) (by omega) hsk hq2 (by omega) (by omega) (by omega) (by omega) | exact MK.sgn (p := pp) (by omega) (by omega) hq2 (by omega) (by omega) (by omega) (by omega) (by omega) | exact MK.run (n := ln) (by omega) (by omega) ine irq en (by omega) iww (by omega) (by omega), gMT⟩)
                    · refine lv_iload_n hx hb dX12_next_134 rfl (lv_at hl 0 rfl) ?_
                      refine r_bipush hx hb dX12_next_135 (by decide) (fun z164 ez164 => ?_)
                      refine r_icmp_gt (tgt := 144) hx hb dX12_next_137 (by decide) (fun c165 => ?_) (fun c165 => ?_)
                      · refine r_iconst hx hb dX12_next_144 (by decide) (fun z166 ez166 => ?_)
                        refine fp_12_11 (k := 387) hx hb hts in_X12_next_12 hown hK hP (by decide) (by decide) (hts _ lk_X12_next_159) hI hR hS dX12_next_145 (fun σ167 H167 locs167 u167 v167 hR hP hS => ?_)
                        have hF := hF.puts u167 1 rfl (by decide) (by decide) (by decide) (by decide)
                        have gMT := gMT.ag (Agr.put u167 (by decide))
                        have t168 : (σ167 387 3).toInt = (σ24 387 3).toInt := congrArg Int32.toInt (u167 387 3 (by omega))
                        have t169 : (σ167 387 5).toInt = (σ24 387 5).toInt := congrArg Int32.toInt (u167 387 5 (by omega))
                        have t170 : (σ167 387 14).toInt = (σ24 387 14).toInt := congrArg Int32.toInt (u167 387 14 (by omega))
                        have t171 : (σ167 387 4).toInt = (σ24 387 4).toInt := congrArg Int32.toInt (u167 387 4 (by omega))
                        have t172 : (σ167 387 12).toInt = (σ24 387 12).toInt := congrArg Int32.toInt (u167 387 12 (by omega))
                        have t173 : (σ167 387 13).toInt = (σ24 387 13).toInt := congrArg Int32.toInt (u167 387 13 (by omega))
                        refine lv_aload_n hx hb dX12_next_148 rfl (lv_at hl 1 rfl) ?_
                        refine lv_iload_n hx hb dX12_next_149 rfl (lv_at hl 0 rfl) ?_
                        refine fp_12_14 (k := 387) hx hb hts in_X12_next_12 hown hK hP (by decide) (by decide) (hts _ lk_X12_next_169) hI hR hS dX12_next_150 (fun σ174 H174 locs174 u174 v174 hR hP hS => ?_)
                        have hF := hF.puts u174 1 rfl (by decide) (by decide) (by decide) (by decide)
                        have gMT := gMT.ag (Agr.put u174 (by decide))
                        have t175 : (σ174 387 3).toInt = (σ167 387 3).toInt := congrArg Int32.toInt (u174 387 3 (by omega))
                        have t176 : (σ174 387 5).toInt = (σ167 387 5).toInt := congrArg Int32.toInt (u174 387 5 (by omega))
                        have t177 : (σ174 387 4).toInt = (σ167 387 4).toInt := congrArg Int32.toInt (u174 387 4 (by omega))
                        have t178 : (σ174 387 12).toInt = (σ167 387 12).toInt := congrArg Int32.toInt (u174 387 12 (by omega))
                        have t179 : (σ174 387 13).toInt = (σ167 387 13).toInt := congrArg Int32.toInt (u174 387 13 (by omega))
                        have t180 : (σ174 387 11).toInt = (σ167 387 11).toInt := congrArg Int32.toInt (u174 387 11 (by omega))
                        refine lv_aload_n hx hb dX12_next_153 rfl (lv_at hl 1 rfl) ?_
                        refine lv_dup hx hb dX12_next_154 rfl ?_
                        refine fg_12_4 (k := 387) hx hb hts in_X12_next_12 hown hK hP (by decide) (by decide) (hts _ lk_X12_next_21) dX12_next_155 ?_
                        refine r_iconst hx hb dX12_next_158 (by decide) (fun z181 ez181 => ?_)
                        refine r_iadd hx hb dX12_next_159 (by omega) (fun z182 ez182 => ?_)
                        refine fp_12_4 (k := 387) hx hb hts in_X12_next_12 hown hK hP (by decide) (by decide) (hts _ lk_X12_next_21) hI hR hS (by omega) dX12_next_160 (fun σ183 H183 locs183 u183 v183 hR hP hS => ?_)
                        have hF := hF.puts u183 0 rfl (by decide) (by decide) (by decide) (by decide)
                        have gMT := gMT.ag (Agr.put u183 (by decide))
                        have t184 : (σ183 387 3).toInt = (σ174 387 3).toInt := congrArg Int32.toInt (u183 387 3 (by omega))
                        have t185 : (σ183 387 5).toInt = (σ174 387 5).toInt := congrArg Int32.toInt (u183 387 5 (by omega))
                        have t186 : (σ183 387 12).toInt = (σ174 387 12).toInt := congrArg Int32.toInt (u183 387 12 (by omega))
                        have t187 : (σ183 387 13).toInt = (σ174 387 13).toInt := congrArg Int32.toInt (u183 387 13 (by omega))
                        have t188 : (σ183 387 11).toInt = (σ174 387 11).toInt := congrArg Int32.toInt (u183 387 11 (by omega))
                        have t189 : (σ183 387 14).toInt = (σ174 387 14).toInt := congrArg Int32.toInt (u183 387 14 (by omega))
                        exact r_vret hx hb hr hK hP hS hk dX12_next_163 (show P_X12_next_v σ0 τ0 b N mo qn σ183 τ from ⟨hR, hF, hFL, by omega, by omega, by omega, by first | exact MK.lim (p := pp) (by omega) (by omega) hsk hq2 (by omega) (by omega) (by omega) | exact MK.stop (p := pp) (by omega) (by omega) hsk hq2 (by omega) (by omega) (by omega) (by omega) | exact MK.sgn (p := pp) (by omega) (by omega) hq2 (by omega) (by omega) (by omega) (by omega) (by omega) | exact MK.run (n := ln) (by omega) (by omega) ine irq en (by omega) iww (by omega) (by omega), gMT⟩)
                      · refine r_iconst hx hb dX12_next_140 (by decide) (fun z190 ez190 => ?_)
                        refine lv_goto (tgt := 145) hx hb dX12_next_141 (by decide) ?_
                        refine fp_12_11 (k := 387) hx hb hts in_X12_next_12 hown hK hP (by decide) (by decide) (hts _ lk_X12_next_159) hI hR hS dX12_next_145 (fun σ191 H191 locs191 u191 v191 hR hP hS => ?_)
                        have hF := hF.puts u191 1 rfl (by decide) (by decide) (by decide) (by decide)
                        have gMT := gMT.ag (Agr.put u191 (by decide))
                        have t192 : (σ191 387 3).toInt = (σ24 387 3).toInt := congrArg Int32.toInt (u191 387 3 (by omega))
                        have t193 : (σ191 387 5).toInt = (σ24 387 5).toInt := congrArg Int32.toInt (u191 387 5 (by omega))
                        have t194 : (σ191 387 14).toInt = (σ24 387 14).toInt := congrArg Int32.toInt (u191 387 14 (by omega))
                        have t195 : (σ191 387 4).toInt = (σ24 387 4).toInt := congrArg Int32.toInt (u191 387 4 (by omega))
                        have t196 : (σ191 387 12).toInt = (σ24 387 12).toInt := congrArg Int32.toInt (u191 387 12 (by omega))
                        have t197 : (σ191 387 13).toInt = (σ24 387 13).toInt := congrArg Int32.toInt (u191 387 13 (by omega))
                        refine lv_aload_n hx hb dX12_next_148 rfl (lv_at hl 1 rfl) ?_
                        refine lv_iload_n hx hb dX12_next_149 rfl (lv_at hl 0 rfl) ?_
                        refine fp_12_14 (k := 387) hx hb hts in_X12_next_12 hown hK hP (by decide) (by decide) (hts _ lk_X12_next_169) hI hR hS dX12_next_150 (fun σ198 H198 locs198 u198 v198 hR hP hS => ?_)
                        have hF := hF.puts u198 1 rfl (by decide) (by decide) (by decide) (by decide)
                        have gMT := gMT.ag (Agr.put u198 (by decide))
                        have t199 : (σ198 387 3).toInt = (σ191 387 3).toInt := congrArg Int32.toInt (u198 387 3 (by omega))
                        have t200 : (σ198 387 5).toInt = (σ191 387 5).toInt := congrArg Int32.toInt (u198 387 5 (by omega))
                        have t201 : (σ198 387 4).toInt = (σ191 387 4).toInt := congrArg Int32.toInt (u198 387 4 (by omega))
                        have t202 : (σ198 387 12).toInt = (σ191 387 12).toInt := congrArg Int32.toInt (u198 387 12 (by omega))
                        have t203 : (σ198 387 13).toInt = (σ191 387 13).toInt := congrArg Int32.toInt (u198 387 13 (by omega))
                        have t204 : (σ198 387 11).toInt = (σ191 387 11).toInt := congrArg Int32.toInt (u198 387 11 (by omega))
                        refine lv_aload_n hx hb dX12_next_153 rfl (lv_at hl 1 rfl) ?_
                        refine lv_dup hx hb dX12_next_154 rfl ?_
                        refine fg_12_4 (k := 387) hx hb hts in_X12_next_12 hown hK hP (by decide) (by decide) (hts _ lk_X12_next_21) dX12_next_155 ?_
                        refine r_iconst hx hb dX12_next_158 (by decide) (fun z205 ez205 => ?_)
                        refine r_iadd hx hb dX12_next_159 (by omega) (fun z206 ez206 => ?_)
                        refine fp_12_4 (k := 387) hx hb hts in_X12_next_12 hown hK hP (by decide) (by decide) (hts _ lk_X12_next_21) hI hR hS (by omega) dX12_next_160 (fun σ207 H207 locs207 u207 v207 hR hP hS => ?_)
                        have hF := hF.puts u207 0 rfl (by decide) (by decide) (by decide) (by decide)
                        have gMT := gMT.ag (Agr.put u207 (by decide))
                        have t208 : (σ207 387 3).toInt = (σ198 387 3).toInt := congrArg Int32.toInt (u207 387 3 (by omega))
                        have t209 : (σ207 387 5).toInt = (σ198 387 5).toInt := congrArg Int32.toInt (u207 387 5 (by omega))
                        have t210 : (σ207 387 12).toInt = (σ198 387 12).toInt := congrArg Int32.toInt (u207 387 12 (by omega))
                        have t211 : (σ207 387 13).toInt = (σ198 387 13).toInt := congrArg Int32.toInt (u207 387 13 (by omega))
                        have t212 : (σ207 387 11).toInt = (σ198 387 11).toInt := congrArg Int32.toInt (u207 387 11 (by omega))
                        have t213 : (σ207 387 14).toInt = (σ198 387 14).toInt := congrArg Int32.toInt (u207 387 14 (by omega))
                        exact r_vret hx hb hr hK hP hS hk dX12_next_163 (show P_X12_next_v σ0 τ0 b N mo qn σ207 τ from ⟨hR, hF, hFL, by omega, by omega, by omega, by first | exact MK.lim (p := pp) (by omega) (by omega) hsk hq2 (by omega) (by omega) (by omega) | exact MK.stop (p := pp) (by omega) (by omega) hsk hq2 (by omega) (by omega) (by omega) (by omega) | exact MK.sgn (p := pp) (by omega) (by omega) hq2 (by omega) (by omega) (by omega) (by omega) (by omega) | exact MK.run (n := ln) (by omega) (by omega) ine irq en (by omega) iww (by omega) (by omega), gMT⟩)
        · refine lv_aload_n hx hb dX12_next_89 rfl (lv_at hl 1 rfl) ?_
          refine r_iconst hx hb dX12_next_90 (by decide) (fun z214 ez214 => ?_)
          refine fp_12_11 (k := 387) hx hb hts in_X12_next_12 hown hK hP (by decide) (by decide) (hts _ lk_X12_next_159) hI hR hS dX12_next_91 (fun σ215 H215 locs215 u215 v215 hR hP hS => ?_)
          have hF := hF.puts u215 1 rfl (by decide) (by decide) (by decide) (by decide)
          have gMT := gMT.ag (Agr.put u215 (by decide))
          have t216 : (σ215 387 3).toInt = (σ24 387 3).toInt := congrArg Int32.toInt (u215 387 3 (by omega))
          have t217 : (σ215 387 5).toInt = (σ24 387 5).toInt := congrArg Int32.toInt (u215 387 5 (by omega))
          have t218 : (σ215 387 14).toInt = (σ24 387 14).toInt := congrArg Int32.toInt (u215 387 14 (by omega))
          have t219 : (σ215 387 4).toInt = (σ24 387 4).toInt := congrArg Int32.toInt (u215 387 4 (by omega))
          have t220 : (σ215 387 12).toInt = (σ24 387 12).toInt := congrArg Int32.toInt (u215 387 12 (by omega))
          have t221 : (σ215 387 13).toInt = (σ24 387 13).toInt := congrArg Int32.toInt (u215 387 13 (by omega))
          exact r_vret hx hb hr hK hP hS hk dX12_next_94 (show P_X12_next_v σ0 τ0 b N mo qn σ215 τ from ⟨hR, hF, hFL, by omega, by omega, by omega, by first | exact MK.lim (p := pp) (by omega) (by omega) hsk hq2 (by omega) (by omega) (by omega) | exact MK.stop (p := pp) (by omega) (by omega) hsk hq2 (by omega) (by omega) (by omega) (by omega) | exact MK.sgn (p := pp) (by omega) (by omega) hq2 (by omega) (by omega) (by omega) (by omega) (by omega) | exact MK.run (n := ln) (by omega) (by omega) ine irq en (by omega) iww (by omega) (by omega), gMT⟩)
      · refine lv_aload_n hx hb dX12_next_55 rfl (lv_at hl 0 rfl) ?_
        refine fg_12_4 (k := 387) hx hb hts in_X12_next_12 hown hK hP (by decide) (by decide) (hts _ lk_X12_next_21) dX12_next_56 ?_
        refine lv_aload_n hx hb dX12_next_59 rfl (lv_at hl 0 rfl) ?_
        refine fg_12_5 (k := 387) hx hb hts in_X12_next_12 hown hK hP (by decide) (by decide) (hts _ lk_X12_next_24) dX12_next_60 ?_
        refine r_icmp_lt (tgt := 80) hx hb dX12_next_63 (by decide) (fun c222 => ?_) (fun c222 => ?_)
        · refine lv_aload_n hx hb dX12_next_80 rfl (lv_at hl 0 rfl) ?_
          refine r_cVi (k := 387) (As := []) (rest := []) ⟨hx, hb, hml, hown, hts⟩ hK hP hN hS (c_X12_peek_v l D cA ad hI σ24 τ hR b N mo pp (by omega) gMT) (cwV 0 hts gX12_next_X12_peek rfl rfl rfl (by decide +kernel) ⟨by decide, by decide⟩) (rv_M hK hP (by decide) (by decide)) rfl hl.1 rfl (Nat.le_of_ble_eq_true rfl) dX12_next_81 (Nat.zero_le _) (Nat.zero_le _) (fun r223 u223 H223 locs223 hp223 hP hS => ?_)
          obtain ⟨σ223, τ223⟩ := u223
          obtain ⟨hR, f223, fL223, hq223, hp223_0, gnMT⟩ : P_X12_peek_v σ24 τ b N mo pp r223 σ223 τ223 := hp223
          have hP : va_P D vwCl (gw cA ad σ223 τ223) H223 := hP
          obtain rfl := FrL.nil fL223
          obtain rfl := Fr.nil f223
          refine lv_istore_n (lv' := [(1, .int r223), (0, .ref (ad 387))]) hx hb dX12_next_84 rfl hl (by decide) rfl (fun ls hl => ?_)
          refine lv_iload_n hx hb dX12_next_85 rfl (lv_at hl 0 rfl) ?_
          refine r_if_ge (tgt := 95) hx hb dX12_next_86 (by decide) (fun c224 => ?_) (fun c224 => ?_)
          · refine lv_iload_n hx hb dX12_next_95 rfl (lv_at hl 0 rfl) ?_
            refine r_cSi (As := [.int r223]) (rest := []) ⟨hx, hb, hml, hown, hts⟩ hK hP hN hS (c_X12_isSmall l D cA ad hI σ24 τ hR r223 (by omega)) (va_cwS 1 hts gX12_next_X12_isSmall rfl rfl rfl (by decide +kernel) ⟨by decide, by decide⟩) rfl hl.1 rfl (Nat.le_of_ble_eq_true rfl) dX12_next_96 (Nat.zero_le _) (Nat.zero_le _) (fun r225 u225 H225 locs225 hp225 hP hS => ?_)
            obtain ⟨σ225, τ225⟩ := u225
            obtain ⟨hR, f225, fL225, hq225, hp225_0⟩ : P_X12_isSmall σ24 τ r223 r225 σ225 τ225 := hp225
            have hP : va_P D vwCl (gw cA ad σ225 τ225) H225 := hP
            obtain rfl := FrL.nil fL225
            obtain rfl := Fr.nil f225
            refine r_if_ne (tgt := 164) hx hb dX12_next_99 (by decide) (fun c226 => ?_) (fun c226 => ?_)
            · have hqp : qn = pp := by rw [← hq2]; exact lmq_id (by omega)
              have hne : ¬ endq N mo qn := by omega
              have hrn : isRn (b qn) := by rw [hqp]; omega
              refine lv_iload_n hx hb dX12_next_164 rfl (lv_at hl 0 rfl) ?_
              refine r_cSi (As := [.int r223]) (rest := []) ⟨hx, hb, hml, hown, hts⟩ hK hP hN hS (c_X12_isSmall l D cA ad hI σ24 τ hR r223 (by omega)) (va_cwS 1 hts gX12_next_X12_isSmall rfl rfl rfl (by decide +kernel) ⟨by decide, by decide⟩) rfl hl.1 rfl (Nat.le_of_ble_eq_true rfl) dX12_next_165 (Nat.zero_le _) (Nat.zero_le _) (fun r227 u227 H227 locs227 hp227 hP hS => ?_)
              obtain ⟨σ227, τ227⟩ := u227
              obtain ⟨hR, f227, fL227, hq227, hp227_0⟩ : P_X12_isSmall σ24 τ r223 r227 σ227 τ227 := hp227
              have hP : va_P D vwCl (gw cA ad σ227 τ227) H227 := hP
              obtain rfl := FrL.nil fL227
              obtain rfl := Fr.nil f227
              refine lv_istore_n (lv' := [(2, .int r227), (1, .int r223), (0, .ref (ad 387))]) hx hb dX12_next_168 rfl hl (by decide) rfl (fun ls hl => ?_)
              refine r_iconst hx hb dX12_next_169 (by decide) (fun z228 ez228 => ?_)
              refine lv_istore_n (lv' := [(3, .int z228), (2, .int r227), (1, .int r223), (0, .ref (ad 387))]) hx hb dX12_next_170 rfl hl (by decide) rfl (fun ls hl => ?_)
              refine lv_aload_n hx hb dX12_next_171 rfl (lv_at hl 3 rfl) ?_
              refine lv_lconst (v := 0) hx hb dX12_next_172 (by decide) ?_
              refine fpL_12_17 (k := 387) hx hb hts in_X12_next_12 hown hK hP (by decide) (by decide) (hts _ lk_X12_next_172) hI hS dX12_next_173 (fun τ229 H229 locs229 uL229 vL229 hP hS => ?_)
              have uw0 := uL229
              have vw0 := vL229
              have hFL := hFL.puts uL229 0 rfl (by decide) (by decide) (by decide) (by decide)
              refine lv_aload_n hx hb dX12_next_176 rfl (lv_at hl 3 rfl) ?_
              refine r_iconst hx hb dX12_next_177 (by decide) (fun z230 ez230 => ?_)
              refine fp_12_14 (k := 387) hx hb hts in_X12_next_12 hown hK hP (by decide) (by decide) (hts _ lk_X12_next_169) hI hR hS dX12_next_178 (fun σ231 H231 locs231 u231 v231 hR hP hS => ?_)
              have hF := hF.puts u231 1 rfl (by decide) (by decide) (by decide) (by decide)
              have gMT := gMT.ag (Agr.put u231 (by decide))
              have t232 : (σ231 387 3).toInt = (σ24 387 3).toInt := congrArg Int32.toInt (u231 387 3 (by omega))
              have t233 : (σ231 387 5).toInt = (σ24 387 5).toInt := congrArg Int32.toInt (u231 387 5 (by omega))
              have t234 : (σ231 387 11).toInt = (σ24 387 11).toInt := congrArg Int32.toInt (u231 387 11 (by omega))
              have t235 : (σ231 387 4).toInt = (σ24 387 4).toInt := congrArg Int32.toInt (u231 387 4 (by omega))
              have t236 : (σ231 387 12).toInt = (σ24 387 12).toInt := congrArg Int32.toInt (u231 387 12 (by omega))
              have t237 : (σ231 387 13).toInt = (σ24 387 13).toInt := congrArg Int32.toInt (u231 387 13 (by omega))
              exact K181 σ231 τ229 H231 locs231 r223 r227 z228 0 ls hR hF hFL hP hS (by omega) (by omega) (by omega) (by omega) (by omega) (by omega) (by omega) (by omega) (by omega) (by omega) (by omega) (by omega) (by omega) (by first | exact iss | (rw [hqp]; omega)) (by first | exact irq | exact hrn) (by first | exact ine | exact hne) (by first | exact (fun i hi => absurd hi (Nat.not_lt_zero i)) | exact rn_s irr irl) (by first | exact iaa | (have h0 : dgc b qn 0 = 0 := rfl; omega)) (by first | exact iww | exact Or.inr (by rw [vw0]; rfl)) (by first | exact inn | exact Or.inr (by show _ = (0 : Int); omega) | exact Or.inl (by omega) | (have hm := MNs inn (by omega) irr hb265 irl; omega)) gMT (lv_sub hl [3, 2, 1, 0] rfl) (by omega)
            · refine lv_iload_n hx hb dX12_next_102 rfl (lv_at hl 0 rfl) ?_
              refine r_cSi (As := [.int r223]) (rest := []) ⟨hx, hb, hml, hown, hts⟩ hK hP hN hS (c_X12_isDigit l D cA ad hI σ24 τ hR r223 (by omega)) (va_cwS 1 hts gX12_next_X12_isDigit rfl rfl rfl (by decide +kernel) ⟨by decide, by decide⟩) rfl hl.1 rfl (Nat.le_of_ble_eq_true rfl) dX12_next_103 (Nat.zero_le _) (Nat.zero_le _) (fun r238 u238 H238 locs238 hp238 hP hS => ?_)
              obtain ⟨σ238, τ238⟩ := u238
              obtain ⟨hR, f238, fL238, hq238, hp238_0⟩ : P_X12_isDigit σ24 τ r223 r238 σ238 τ238 := hp238
              have hP : va_P D vwCl (gw cA ad σ238 τ238) H238 := hP
              obtain rfl := FrL.nil fL238
              obtain rfl := Fr.nil f238
              refine r_if_ne (tgt := 164) hx hb dX12_next_106 (by decide) (fun c239 => ?_) (fun c239 => ?_)
              · have hqp : qn = pp := by rw [← hq2]; exact lmq_id (by omega)
                have hne : ¬ endq N mo qn := by omega
                have hrn : isRn (b qn) := by rw [hqp]; omega
                refine lv_iload_n hx hb dX12_next_164 rfl (lv_at hl 0 rfl) ?_
                refine r_cSi (As := [.int r223]) (rest := []) ⟨hx, hb, hml, hown, hts⟩ hK hP hN hS (c_X12_isSmall l D cA ad hI σ24 τ hR r223 (by omega)) (va_cwS 1 hts gX12_next_X12_isSmall rfl rfl rfl (by decide +kernel) ⟨by decide, by decide⟩) rfl hl.1 rfl (Nat.le_of_ble_eq_true rfl) dX12_next_165 (Nat.zero_le _) (Nat.zero_le _) (fun r240 u240 H240 locs240 hp240 hP hS => ?_)
                obtain ⟨σ240, τ240⟩ := u240
                obtain ⟨hR, f240, fL240, hq240, hp240_0⟩ : P_X12_isSmall σ24 τ r223 r240 σ240 τ240 := hp240
                have hP : va_P D vwCl (gw cA ad σ240 τ240) H240 := hP
                obtain rfl := FrL.nil fL240
                obtain rfl := Fr.nil f240
                refine lv_istore_n (lv' := [(2, .int r240), (1, .int r223), (0, .ref (ad 387))]) hx hb dX12_next_168 rfl hl (by decide) rfl (fun ls hl => ?_)
                refine r_iconst hx hb dX12_next_169 (by decide) (fun z241 ez241 => ?_)
                refine lv_istore_n (lv' := [(3, .int z241), (2, .int r240), (1, .int r223), (0, .ref (ad 387))]) hx hb dX12_next_170 rfl hl (by decide) rfl (fun ls hl => ?_)
                refine lv_aload_n hx hb dX12_next_171 rfl (lv_at hl 3 rfl) ?_
                refine lv_lconst (v := 0) hx hb dX12_next_172 (by decide) ?_
                refine fpL_12_17 (k := 387) hx hb hts in_X12_next_12 hown hK hP (by decide) (by decide) (hts _ lk_X12_next_172) hI hS dX12_next_173 (fun τ242 H242 locs242 uL242 vL242 hP hS => ?_)
                have uw0 := uL242
                have vw0 := vL242
                have hFL := hFL.puts uL242 0 rfl (by decide) (by decide) (by decide) (by decide)
                refine lv_aload_n hx hb dX12_next_176 rfl (lv_at hl 3 rfl) ?_
                refine r_iconst hx hb dX12_next_177 (by decide) (fun z243 ez243 => ?_)
                refine fp_12_14 (k := 387) hx hb hts in_X12_next_12 hown hK hP (by decide) (by decide) (hts _ lk_X12_next_169) hI hR hS dX12_next_178 (fun σ244 H244 locs244 u244 v244 hR hP hS => ?_)
                have hF := hF.puts u244 1 rfl (by decide) (by decide) (by decide) (by decide)
                have gMT := gMT.ag (Agr.put u244 (by decide))
                have t245 : (σ244 387 3).toInt = (σ24 387 3).toInt := congrArg Int32.toInt (u244 387 3 (by omega))
                have t246 : (σ244 387 5).toInt = (σ24 387 5).toInt := congrArg Int32.toInt (u244 387 5 (by omega))
                have t247 : (σ244 387 11).toInt = (σ24 387 11).toInt := congrArg Int32.toInt (u244 387 11 (by omega))
                have t248 : (σ244 387 4).toInt = (σ24 387 4).toInt := congrArg Int32.toInt (u244 387 4 (by omega))
                have t249 : (σ244 387 12).toInt = (σ24 387 12).toInt := congrArg Int32.toInt (u244 387 12 (by omega))
                have t250 : (σ244 387 13).toInt = (σ24 387 13).toInt := congrArg Int32.toInt (u244 387 13 (by omega))
                exact K181 σ244 τ242 H244 locs244 r223 r240 z241 0 ls hR hF hFL hP hS (by omega) (by omega) (by omega) (by omega) (by omega) (by omega) (by omega) (by omega) (by omega) (by omega) (by omega) (by omega) (by omega) (by first | exact iss | (rw [hqp]; omega)) (by first | exact irq | exact hrn) (by first | exact ine | exact hne) (by first | exact (fun i hi => absurd hi (Nat.not_lt_zero i)) | exact rn_s irr irl) (by first | exact iaa | (have h0 : dgc b qn 0 = 0 := rfl; omega)) (by first | exact iww | exact Or.inr (by rw [vw0]; rfl)) (by first | exact inn | exact Or.inr (by show _ = (0 : Int); omega) | exact Or.inl (by omega) | (have hm := MNs inn (by omega) irr hb265 irl; omega)) gMT (lv_sub hl [3, 2, 1, 0] rfl) (by omega)
              · refine lv_aload_n hx hb dX12_next_109 rfl (lv_at hl 1 rfl) ?_
                refine lv_iload_n hx hb dX12_next_110 rfl (lv_at hl 0 rfl) ?_
                refine r_bipush hx hb dX12_next_111 (by decide) (fun z251 ez251 => ?_)
                refine r_icmp_eq (tgt := 140) hx hb dX12_next_113 (by decide) (fun c252 => ?_) (fun c252 => ?_)
                · refine r_iconst hx hb dX12_next_140 (by decide) (fun z253 ez253 => ?_)
                  refine lv_goto (tgt := 145) hx hb dX12_next_141 (by decide) ?_
                  refine fp_12_11 (k := 387) hx hb hts in_X12_next_12 hown hK hP (by decide) (by decide) (hts _ lk_X12_next_159) hI hR hS dX12_next_145 (fun σ254 H254 locs254 u254 v254 hR hP hS => ?_)
                  have hF := hF.puts u254 1 rfl (by decide) (by decide) (by decide) (by decide)
                  have gMT := gMT.ag (Agr.put u254 (by decide))
                  have t255 : (σ254 387 3).toInt = (σ24 387 3).toInt := congrArg Int32.toInt (u254 387 3 (by omega))
                  have t256 : (σ254 387 5).toInt = (σ24 387 5).toInt := congrArg Int32.toInt (u254 387 5 (by omega))
                  have t257 : (σ254 387 14).toInt = (σ24 387 14).toInt := congrArg Int32.toInt (u254 387 14 (by omega))
                  have t258 : (σ254 387 4).toInt = (σ24 387 4).toInt := congrArg Int32.toInt (u254 387 4 (by omega))
                  have t259 : (σ254 387 12).toInt = (σ24 387 12).toInt := congrArg Int32.toInt (u254 387 12 (by omega))
                  have t260 : (σ254 387 13).toInt = (σ24 387 13).toInt := congrArg Int32.toInt (u254 387 13 (by omega))
                  refine lv_aload_n hx hb dX12_next_148 rfl (lv_at hl 1 rfl) ?_
                  refine lv_iload_n hx hb dX12_next_149 rfl (lv_at hl 0 rfl) ?_
                  refine fp_12_14 (k := 387) hx hb hts in_X12_next_12 hown hK hP (by decide) (by decide) (hts _ lk_X12_next_169) hI hR hS dX12_next_150 (fun σ261 H261 locs261 u261 v261 hR hP hS => ?_)
                  have hF := hF.puts u261 1 rfl (by decide) (by decide) (by decide) (by decide)
                  have gMT := gMT.ag (Agr.put u261 (by decide))
                  have t262 : (σ261 387 3).toInt = (σ254 387 3).toInt := congrArg Int32.toInt (u261 387 3 (by omega))
                  have t263 : (σ261 387 5).toInt = (σ254 387 5).toInt := congrArg Int32.toInt (u261 387 5 (by omega))
                  have t264 : (σ261 387 4).toInt = (σ254 387 4).toInt := congrArg Int32.toInt (u261 387 4 (by omega))
                  have t265 : (σ261 387 12).toInt = (σ254 387 12).toInt := congrArg Int32.toInt (u261 387 12 (by omega))
                  have t266 : (σ261 387 13).toInt = (σ254 387 13).toInt := congrArg Int32.toInt (u261 387 13 (by omega))
                  have t267 : (σ261 387 11).toInt = (σ254 387 11).toInt := congrArg Int32.toInt (u261 387 11 (by omega))
                  refine lv_aload_n hx hb dX12_next_153 rfl (lv_at hl 1 rfl) ?_
                  refine lv_dup hx hb dX12_next_154 rfl ?_
                  refine fg_12_4 (k := 387) hx hb hts in_X12_next_12 hown hK hP (by decide) (by decide) (hts _ lk_X12_next_21) dX12_next_155 ?_
                  refine r_iconst hx hb dX12_next_158 (by decide) (fun z268 ez268 => ?_)
                  refine r_iadd hx hb dX12_next_159 (by omega) (fun z269 ez269 => ?_)
                  refine fp_12_4 (k := 387) hx hb hts in_X12_next_12 hown hK hP (by decide) (by decide) (hts _ lk_X12_next_21) hI hR hS (by omega) dX12_next_160 (fun σ270 H270 locs270 u270 v270 hR hP hS => ?_)
                  have hF := hF.puts u270 0 rfl (by decide) (by decide) (by decide) (by decide)
                  have gMT := gMT.ag (Agr.put u270 (by decide))
                  have t271 : (σ270 387 3).toInt = (σ261 387 3).toInt := congrArg Int32.toInt (u270 387 3 (by omega))
                  have t272 : (σ270 387 5).toInt = (σ261 387 5).toInt := congrArg Int32.toInt (u270 387 5 (by omega))
                  have t273 : (σ270 387 12).toInt = (σ261 387 12).toInt := congrArg Int32.toInt (u270 387 12 (by omega))
                  have t274 : (σ270 387 13).toInt = (σ261 387 13).toInt := congrArg Int32.toInt (u270 387 13 (by omega))
                  have t275 : (σ270 387 11).toInt = (σ261 387 11).toInt := congrArg Int32.toInt (u270 387 11 (by omega))
                  have t276 : (σ270 387 14).toInt = (σ261 387 14).toInt := congrArg Int32.toInt (u270 387 14 (by omega))
                  exact r_vret hx hb hr hK hP hS hk dX12_next_163 (show P_X12_next_v σ0 τ0 b N mo qn σ270 τ from ⟨hR, hF, hFL, by omega, by omega, by omega, by first | exact MK.lim (p := pp) (by omega) (by omega) hsk hq2 (by omega) (by omega) (by omega) | exact MK.stop (p := pp) (by omega) (by omega) hsk hq2 (by omega) (by omega) (by omega) (by omega) | exact MK.sgn (p := pp) (by omega) (by omega) hq2 (by omega) (by omega) (by omega) (by omega) (by omega) | exact MK.run (n := ln) (by omega) (by omega) ine irq en (by omega) iww (by omega) (by omega), gMT⟩)
                · refine lv_iload_n hx hb dX12_next_116 rfl (lv_at hl 0 rfl) ?_
                  refine r_bipush hx hb dX12_next_117 (by decide) (fun z277 ez277 => ?_)
                  refine r_icmp_eq (tgt := 140) hx hb dX12_next_119 (by decide) (fun c278 => ?_) (fun c278 => ?_)
                  · refine r_iconst hx hb dX12_next_140 (by decide) (fun z279 ez279 => ?_)
                    refine lv_goto (tgt := 145) hx hb dX12_next_141 (by decide) ?_
                    refine fp_12_11 (k := 387) hx hb hts in_X12_next_12 hown hK hP (by decide) (by decide) (hts _ lk_X12_next_159) hI hR hS dX12_next_145 (fun σ280 H280 locs280 u280 v280 hR hP hS => ?_)
                    have hF := hF.puts u280 1 rfl (by decide) (by decide) (by decide) (by decide)
                    have gMT := gMT.ag (Agr.put u280 (by decide))
                    have t281 : (σ280 387 3).toInt = (σ24 387 3).toInt := congrArg Int32.toInt (u280 387 3 (by omega))
                    have t282 : (σ280 387 5).toInt = (σ24 387 5).toInt := congrArg Int32.toInt (u280 387 5 (by omega))
                    have t283 : (σ280 387 14).toInt = (σ24 387 14).toInt := congrArg Int32.toInt (u280 387 14 (by omega))
                    have t284 : (σ280 387 4).toInt = (σ24 387 4).toInt := congrArg Int32.toInt (u280 387 4 (by omega))
                    have t285 : (σ280 387 12).toInt = (σ24 387 12).toInt := congrArg Int32.toInt (u280 387 12 (by omega))
                    have t286 : (σ280 387 13).toInt = (σ24 387 13).toInt := congrArg Int32.toInt (u280 387 13 (by omega))
                    refine lv_aload_n hx hb dX12_next_148 rfl (lv_at hl 1 rfl) ?_
                    refine lv_iload_n hx hb dX12_next_149 rfl (lv_at hl 0 rfl) ?_
                    refine fp_12_14 (k := 387) hx hb hts in_X12_next_12 hown hK hP (by decide) (by decide) (hts _ lk_X12_next_169) hI hR hS dX12_next_150 (fun σ287 H287 locs287 u287 v287 hR hP hS => ?_)
                    have hF := hF.puts u287 1 rfl (by decide) (by decide) (by decide) (by decide)
                    have gMT := gMT.ag (Agr.put u287 (by decide))
                    have t288 : (σ287 387 3).toInt = (σ280 387 3).toInt := congrArg Int32.toInt (u287 387 3 (by omega))
                    have t289 : (σ287 387 5).toInt = (σ280 387 5).toInt := congrArg Int32.toInt (u287 387 5 (by omega))
                    have t290 : (σ287 387 4).toInt = (σ280 387 4).toInt := congrArg Int32.toInt (u287 387 4 (by omega))
                    have t291 : (σ287 387 12).toInt = (σ280 387 12).toInt := congrArg Int32.toInt (u287 387 12 (by omega))
                    have t292 : (σ287 387 13).toInt = (σ280 387 13).toInt := congrArg Int32.toInt (u287 387 13 (by omega))
                    have t293 : (σ287 387 11).toInt = (σ280 387 11).toInt := congrArg Int32.toInt (u287 387 11 (by omega))
                    refine lv_aload_n hx hb dX12_next_153 rfl (lv_at hl 1 rfl) ?_
                    refine lv_dup hx hb dX12_next_154 rfl ?_
                    refine fg_12_4 (k := 387) hx hb hts in_X12_next_12 hown hK hP (by decide) (by decide) (hts _ lk_X12_next_21) dX12_next_155 ?_
                    refine r_iconst hx hb dX12_next_158 (by decide) (fun z294 ez294 => ?_)
                    refine r_iadd hx hb dX12_next_159 (by omega) (fun z295 ez295 => ?_)
                    refine fp_12_4 (k := 387) hx hb hts in_X12_next_12 hown hK hP (by decide) (by decide) (hts _ lk_X12_next_21) hI hR hS (by omega) dX12_next_160 (fun σ296 H296 locs296 u296 v296 hR hP hS => ?_)
                    have hF := hF.puts u296 0 rfl (by decide) (by decide) (by decide) (by decide)
                    have gMT := gMT.ag (Agr.put u296 (by decide))
                    have t297 : (σ296 387 3).toInt = (σ287 387 3).toInt := congrArg Int32.toInt (u296 387 3 (by omega))
                    have t298 : (σ296 387 5).toInt = (σ287 387 5).toInt := congrArg Int32.toInt (u296 387 5 (by omega))
                    have t299 : (σ296 387 12).toInt = (σ287 387 12).toInt := congrArg Int32.toInt (u296 387 12 (by omega))
                    have t300 : (σ296 387 13).toInt = (σ287 387 13).toInt := congrArg Int32.toInt (u296 387 13 (by omega))
                    have t301 : (σ296 387 11).toInt = (σ287 387 11).toInt := congrArg Int32.toInt (u296 387 11 (by omega))
                    have t302 : (σ296 387 14).toInt = (σ287 387 14).toInt := congrArg Int32.toInt (u296 387 14 (by omega))
                    exact r_vret hx hb hr hK hP hS hk dX12_next_163 (show P_X12_next_v σ0 τ0 b N mo qn σ296 τ from ⟨hR, hF, hFL, by omega, by omega, by omega, by first | exact MK.lim (p := pp) (by omega) (by omega) hsk hq2 (by omega) (by omega) (by omega) | exact MK.stop (p := pp) (by omega) (by omega) hsk hq2 (by omega) (by omega) (by omega) (by omega) | exact MK.sgn (p := pp) (by omega) (by omega) hq2 (by omega) (by omega) (by omega) (by omega) (by omega) | exact MK.run (n := ln) (by omega) (by omega) ine irq en (by omega) iww (by omega) (by omega), gMT⟩)
                  · refine lv_iload_n hx hb dX12_next_122 rfl (lv_at hl 0 rfl) ?_
                    refine r_bipush hx hb dX12_next_123 (by decide) (fun z303 ez303 => ?_)
                    refine r_icmp_eq (tgt := 140) hx hb dX12_next_125 (by decide) (fun c304 => ?_) (fun c304 => ?_)
                    · refine r_iconst hx hb dX12_next_140 (by decide) (fun z305 ez305 => ?_)
                      refine lv_goto (tgt := 145) hx hb dX12_next_141 (by decide) ?_
                      refine fp_12_11 (k := 387) hx hb hts in_X12_next_12 hown hK hP (by decide) (by decide) (hts _ lk_X12_next_159) hI hR hS dX12_next_145 (fun σ306 H306 locs306 u306 v306 hR hP hS => ?_)
                      have hF := hF.puts u306 1 rfl (by decide) (by decide) (by decide) (by decide)
                      have gMT := gMT.ag (Agr.put u306 (by decide))
                      have t307 : (σ306 387 3).toInt = (σ24 387 3).toInt := congrArg Int32.toInt (u306 387 3 (by omega))
                      have t308 : (σ306 387 5).toInt = (σ24 387 5).toInt := congrArg Int32.toInt (u306 387 5 (by omega))
                      have t309 : (σ306 387 14).toInt = (σ24 387 14).toInt := congrArg Int32.toInt (u306 387 14 (by omega))
                      have t310 : (σ306 387 4).toInt = (σ24 387 4).toInt := congrArg Int32.toInt (u306 387 4 (by omega))
                      have t311 : (σ306 387 12).toInt = (σ24 387 12).toInt := congrArg Int32.toInt (u306 387 12 (by omega))
                      have t312 : (σ306 387 13).toInt = (σ24 387 13).toInt := congrArg Int32.toInt (u306 387 13 (by omega))
                      refine lv_aload_n hx hb dX12_next_148 rfl (lv_at hl 1 rfl) ?_
                      refine lv_iload_n hx hb dX12_next_149 rfl (lv_at hl 0 rfl) ?_
                      refine fp_12_14 (k := 387) hx hb hts in_X12_next_12 hown hK hP (by decide) (by decide) (hts _ lk_X12_next_169) hI hR hS dX12_next_150 (fun σ313 H313 locs313 u313 v313 hR hP hS => ?_)
                      have hF := hF.puts u313 1 rfl (by decide) (by decide) (by decide) (by decide)
                      have gMT := gMT.ag (Agr.put u313 (by decide))
                      have t314 : (σ313 387 3).toInt = (σ306 387 3).toInt := congrArg Int32.toInt (u313 387 3 (by omega))
                      have t315 : (σ313 387 5).toInt = (σ306 387 5).toInt := congrArg Int32.toInt (u313 387 5 (by omega))
                      have t316 : (σ313 387 4).toInt = (σ306 387 4).toInt := congrArg Int32.toInt (u313 387 4 (by omega))
                      have t317 : (σ313 387 12).toInt = (σ306 387 12).toInt := congrArg Int32.toInt (u313 387 12 (by omega))
                      have t318 : (σ313 387 13).toInt = (σ306 387 13).toInt := congrArg Int32.toInt (u313 387 13 (by omega))
                      have t319 : (σ313 387 11).toInt = (σ306 387 11).toInt := congrArg Int32.toInt (u313 387 11 (by omega))
                      refine lv_aload_n hx hb dX12_next_153 rfl (lv_at hl 1 rfl) ?_
                      refine lv_dup hx hb dX12_next_154 rfl ?_
                      refine fg_12_4 (k := 387) hx hb hts in_X12_next_12 hown hK hP (by decide) (by decide) (hts _ lk_X12_next_21) dX12_next_155 ?_
                      refine r_iconst hx hb dX12_next_158 (by decide) (fun z320 ez320 => ?_)
                      refine r_iadd hx hb dX12_next_159 (by omega) (fun z321 ez321 => ?_)
                      refine fp_12_4 (k := 387) hx hb hts in_X12_next_12 hown hK hP (by decide) (by decide) (hts _ lk_X12_next_21) hI hR hS (by omega) dX12_next_160 (fun σ322 H322 locs322 u322 v322 hR hP hS => ?_)
                      have hF := hF.puts u322 0 rfl (by decide) (by decide) (by decide) (by decide)
                      have gMT := gMT.ag (Agr.put u322 (by decide))
                      have t323 : (σ322 387 3).toInt = (σ313 387 3).toInt := congrArg Int32.toInt (u322 387 3 (by omega))
                      have t324 : (σ322 387 5).toInt = (σ313 387 5).toInt := congrArg Int32.toInt (u322 387 5 (by omega))
                      have t325 : (σ322 387 12).toInt = (σ313 387 12).toInt := congrArg Int32.toInt (u322 387 12 (by omega))
                      have t326 : (σ322 387 13).toInt = (σ313 387 13).toInt := congrArg Int32.toInt (u322 387 13 (by omega))
                      have t327 : (σ322 387 11).toInt = (σ313 387 11).toInt := congrArg Int32.toInt (u322 387 11 (by omega))
                      have t328 : (σ322 387 14).toInt = (σ313 387 14).toInt := congrArg Int32.toInt (u322 387 14 (by omega))
                      exact r_vret hx hb hr hK hP hS hk dX12_next_163 (show P_X12_next_v σ0 τ0 b N mo qn σ322 τ from ⟨hR, hF, hFL, by omega, by omega, by omega, by first | exact MK.lim (p := pp) (by omega) (by omega) hsk hq2 (by omega) (by omega) (by omega) | exact MK.stop (p := pp) (by omega) (by omega) hsk hq2 (by omega) (by omega) (by omega) (by omega) | exact MK.sgn (p := pp) (by omega) (by omega) hq2 (by omega) (by omega) (by omega) (by omega) (by omega) | exact MK.run (n := ln) (by omega) (by omega) ine irq en (by omega) iww (by omega) (by omega), gMT⟩)
                    · refine lv_iload_n hx hb dX12_next_128 rfl (lv_at hl 0 rfl) ?_
                      refine r_bipush hx hb dX12_next_129 (by decide) (fun z329 ez329 => ?_)
                      refine r_icmp_lt (tgt := 144) hx hb dX12_next_131 (by decide) (fun c330 => ?_) (fun c330 => ?_)
                      · refine r_iconst hx hb dX12_next_144 (by decide) (fun z331 ez331 => ?_)
                        refine fp_12_11 (k := 387) hx hb hts in_X12_next_12 hown hK hP (by decide) (by decide) (hts _ lk_X12_next_159) hI hR hS dX12_next_145 (fun σ332 H332 locs332 u332 v332 hR hP hS => ?_)
                        have hF := hF.puts u332 1 rfl (by decide) (by decide) (by decide) (by decide)
                        have gMT := gMT.ag (Agr.put u332 (by decide))
                        have t333 : (σ332 387 3).toInt = (σ24 387 3).toInt := congrArg Int32.toInt (u332 387 3 (by omega))
                        have t334 : (σ332 387 5).toInt = (σ24 387 5).toInt := congrArg Int32.toInt (u332 387 5 (by omega))
                        have t335 : (σ332 387 14).toInt = (σ24 387 14).toInt := congrArg Int32.toInt (u332 387 14 (by omega))
                        have t336 : (σ332 387 4).toInt = (σ24 387 4).toInt := congrArg Int32.toInt (u332 387 4 (by omega))
                        have t337 : (σ332 387 12).toInt = (σ24 387 12).toInt := congrArg Int32.toInt (u332 387 12 (by omega))
                        have t338 : (σ332 387 13).toInt = (σ24 387 13).toInt := congrArg Int32.toInt (u332 387 13 (by omega))
                        refine lv_aload_n hx hb dX12_next_148 rfl (lv_at hl 1 rfl) ?_
                        refine lv_iload_n hx hb dX12_next_149 rfl (lv_at hl 0 rfl) ?_
                        refine fp_12_14 (k := 387) hx hb hts in_X12_next_12 hown hK hP (by decide) (by decide) (hts _ lk_X12_next_169) hI hR hS dX12_next_150 (fun σ339 H339 locs339 u339 v339 hR hP hS => ?_)
                        have hF := hF.puts u339 1 rfl (by decide) (by decide) (by decide) (by decide)
                        have gMT := gMT.ag (Agr.put u339 (by decide))
                        have t340 : (σ339 387 3).toInt = (σ332 387 3).toInt := congrArg Int32.toInt (u339 387 3 (by omega))
                        have t341 : (σ339 387 5).toInt = (σ332 387 5).toInt := congrArg Int32.toInt (u339 387 5 (by omega))
                        have t342 : (σ339 387 4).toInt = (σ332 387 4).toInt := congrArg Int32.toInt (u339 387 4 (by omega))
                        have t343 : (σ339 387 12).toInt = (σ332 387 12).toInt := congrArg Int32.toInt (u339 387 12 (by omega))
                        have t344 : (σ339 387 13).toInt = (σ332 387 13).toInt := congrArg Int32.toInt (u339 387 13 (by omega))
                        have t345 : (σ339 387 11).toInt = (σ332 387 11).toInt := congrArg Int32.toInt (u339 387 11 (by omega))
                        refine lv_aload_n hx hb dX12_next_153 rfl (lv_at hl 1 rfl) ?_
                        refine lv_dup hx hb dX12_next_154 rfl ?_
                        refine fg_12_4 (k := 387) hx hb hts in_X12_next_12 hown hK hP (by decide) (by decide) (hts _ lk_X12_next_21) dX12_next_155 ?_
                        refine r_iconst hx hb dX12_next_158 (by decide) (fun z346 ez346 => ?_)
                        refine r_iadd hx hb dX12_next_159 (by omega) (fun z347 ez347 => ?_)
                        refine fp_12_4 (k := 387) hx hb hts in_X12_next_12 hown hK hP (by decide) (by decide) (hts _ lk_X12_next_21) hI hR hS (by omega) dX12_next_160 (fun σ348 H348 locs348 u348 v348 hR hP hS => ?_)
                        have hF := hF.puts u348 0 rfl (by decide) (by decide) (by decide) (by decide)
                        have gMT := gMT.ag (Agr.put u348 (by decide))
                        have t349 : (σ348 387 3).toInt = (σ339 387 3).toInt := congrArg Int32.toInt (u348 387 3 (by omega))
                        have t350 : (σ348 387 5).toInt = (σ339 387 5).toInt := congrArg Int32.toInt (u348 387 5 (by omega))
                        have t351 : (σ348 387 12).toInt = (σ339 387 12).toInt := congrArg Int32.toInt (u348 387 12 (by omega))
                        have t352 : (σ348 387 13).toInt = (σ339 387 13).toInt := congrArg Int32.toInt (u348 387 13 (by omega))
                        have t353 : (σ348 387 11).toInt = (σ339 387 11).toInt := congrArg Int32.toInt (u348 387 11 (by omega))
                        have t354 : (σ348 387 14).toInt = (σ339 387 14).toInt := congrArg Int32.toInt (u348 387 14 (by omega))
                        exact r_vret hx hb hr hK hP hS hk dX12_next_163 (show P_X12_next_v σ0 τ0 b N mo qn σ348 τ from ⟨hR, hF, hFL, by omega, by omega, by omega, by first | exact MK.lim (p := pp) (by omega) (by omega) hsk hq2 (by omega) (by omega) (by omega) | exact MK.stop (p := pp) (by omega) (by omega) hsk hq2 (by omega) (by omega) (by omega) (by omega) | exact MK.sgn (p := pp) (by omega) (by omega) hq2 (by omega) (by omega) (by omega) (by omega) (by omega) | exact MK.run (n := ln) (by omega) (by omega) ine irq en (by omega) iww (by omega) (by omega), gMT⟩)
                      · refine lv_iload_n hx hb dX12_next_134 rfl (lv_at hl 0 rfl) ?_
                        refine r_bipush hx hb dX12_next_135 (by decide) (fun z355 ez355 => ?_)
                        refine r_icmp_gt (tgt := 144) hx hb dX12_next_137 (by decide) (fun c356 => ?_) (fun c356 => ?_)
                        · refine r_iconst hx hb dX12_next_144 (by decide) (fun z357 ez357 => ?_)
                          refine fp_12_11 (k := 387) hx hb hts in_X12_next_12 hown hK hP (by decide) (by decide) (hts _ lk_X12_next_159) hI hR hS dX12_next_145 (fun σ358 H358 locs358 u358 v358 hR hP hS => ?_)
                          have hF := hF.puts u358 1 rfl (by decide) (by decide) (by decide) (by decide)
                          have gMT := gMT.ag (Agr.put u358 (by decide))
                          have t359 : (σ358 387 3).toInt = (σ24 387 3).toInt := congrArg Int32.toInt (u358 387 3 (by omega))
                          have t360 : (σ358 387 5).toInt = (σ24 387 5).toInt := congrArg Int32.toInt (u358 387 5 (by omega))
                          have t361 : (σ358 387 14).toInt = (σ24 387 14).toInt := congrArg Int32.toInt (u358 387 14 (by omega))
                          have t362 : (σ358 387 4).toInt = (σ24 387 4).toInt := congrArg Int32.toInt (u358 387 4 (by omega))
                          have t363 : (σ358 387 12).toInt = (σ24 387 12).toInt := congrArg Int32.toInt (u358 387 12 (by omega))
                          have t364 : (σ358 387 13).toInt = (σ24 387 13).toInt := congrArg Int32.toInt (u358 387 13 (by omega))
                          refine lv_aload_n hx hb dX12_next_148 rfl (lv_at hl 1 rfl) ?_
                          refine lv_iload_n hx hb dX12_next_149 rfl (lv_at hl 0 rfl) ?_
                          refine fp_12_14 (k := 387) hx hb hts in_X12_next_12 hown hK hP (by decide) (by decide) (hts _ lk_X12_next_169) hI hR hS dX12_next_150 (fun σ365 H365 locs365 u365 v365 hR hP hS => ?_)
                          have hF := hF.puts u365 1 rfl (by decide) (by decide) (by decide) (by decide)
                          have gMT := gMT.ag (Agr.put u365 (by decide))
                          have t366 : (σ365 387 3).toInt = (σ358 387 3).toInt := congrArg Int32.toInt (u365 387 3 (by omega))
                          have t367 : (σ365 387 5).toInt = (σ358 387 5).toInt := congrArg Int32.toInt (u365 387 5 (by omega))
                          have t368 : (σ365 387 4).toInt = (σ358 387 4).toInt := congrArg Int32.toInt (u365 387 4 (by omega))
                          have t369 : (σ365 387 12).toInt = (σ358 387 12).toInt := congrArg Int32.toInt (u365 387 12 (by omega))
                          have t370 : (σ365 387 13).toInt = (σ358 387 13).toInt := congrArg Int32.toInt (u365 387 13 (by omega))
                          have t371 : (σ365 387 11).toInt = (σ358 387 11).toInt := congrArg Int32.toInt (u365 387 11 (by omega))
                          refine lv_aload_n hx hb dX12_next_153 rfl (lv_at hl 1 rfl) ?_
                          refine lv_dup hx hb dX12_next_154 rfl ?_
                          refine fg_12_4 (k := 387) hx hb hts in_X12_next_12 hown hK hP (by decide) (by decide) (hts _ lk_X12_next_21) dX12_next_155 ?_
                          refine r_iconst hx hb dX12_next_158 (by decide) (fun z372 ez372 => ?_)
                          refine r_iadd hx hb dX12_next_159 (by omega) (fun z373 ez373 => ?_)
                          refine fp_12_4 (k := 387) hx hb hts in_X12_next_12 hown hK hP (by decide) (by decide) (hts _ lk_X12_next_21) hI hR hS (by omega) dX12_next_160 (fun σ374 H374 locs374 u374 v374 hR hP hS => ?_)
                          have hF := hF.puts u374 0 rfl (by decide) (by decide) (by decide) (by decide)
                          have gMT := gMT.ag (Agr.put u374 (by decide))
                          have t375 : (σ374 387 3).toInt = (σ365 387 3).toInt := congrArg Int32.toInt (u374 387 3 (by omega))
                          have t376 : (σ374 387 5).toInt = (σ365 387 5).toInt := congrArg Int32.toInt (u374 387 5 (by omega))
                          have t377 : (σ374 387 12).toInt = (σ365 387 12).toInt := congrArg Int32.toInt (u374 387 12 (by omega))
                          have t378 : (σ374 387 13).toInt = (σ365 387 13).toInt := congrArg Int32.toInt (u374 387 13 (by omega))
                          have t379 : (σ374 387 11).toInt = (σ365 387 11).toInt := congrArg Int32.toInt (u374 387 11 (by omega))
                          have t380 : (σ374 387 14).toInt = (σ365 387 14).toInt := congrArg Int32.toInt (u374 387 14 (by omega))
                          exact r_vret hx hb hr hK hP hS hk dX12_next_163 (show P_X12_next_v σ0 τ0 b N mo qn σ374 τ from ⟨hR, hF, hFL, by omega, by omega, by omega, by first | exact MK.lim (p := pp) (by omega) (by omega) hsk hq2 (by omega) (by omega) (by omega) | exact MK.stop (p := pp) (by omega) (by omega) hsk hq2 (by omega) (by omega) (by omega) (by omega) | exact MK.sgn (p := pp) (by omega) (by omega) hq2 (by omega) (by omega) (by omega) (by omega) (by omega) | exact MK.run (n := ln) (by omega) (by omega) ine irq en (by omega) iww (by omega) (by omega), gMT⟩)
                        · refine r_iconst hx hb dX12_next_140 (by decide) (fun z381 ez381 => ?_)
                          refine lv_goto (tgt := 145) hx hb dX12_next_141 (by decide) ?_
                          refine fp_12_11 (k := 387) hx hb hts in_X12_next_12 hown hK hP (by decide) (by decide) (hts _ lk_X12_next_159) hI hR hS dX12_next_145 (fun σ382 H382 locs382 u382 v382 hR hP hS => ?_)
                          have hF := hF.puts u382 1 rfl (by decide) (by decide) (by decide) (by decide)
                          have gMT := gMT.ag (Agr.put u382 (by decide))
                          have t383 : (σ382 387 3).toInt = (σ24 387 3).toInt := congrArg Int32.toInt (u382 387 3 (by omega))
                          have t384 : (σ382 387 5).toInt = (σ24 387 5).toInt := congrArg Int32.toInt (u382 387 5 (by omega))
                          have t385 : (σ382 387 14).toInt = (σ24 387 14).toInt := congrArg Int32.toInt (u382 387 14 (by omega))
                          have t386 : (σ382 387 4).toInt = (σ24 387 4).toInt := congrArg Int32.toInt (u382 387 4 (by omega))
                          have t387 : (σ382 387 12).toInt = (σ24 387 12).toInt := congrArg Int32.toInt (u382 387 12 (by omega))
                          have t388 : (σ382 387 13).toInt = (σ24 387 13).toInt := congrArg Int32.toInt (u382 387 13 (by omega))
                          refine lv_aload_n hx hb dX12_next_148 rfl (lv_at hl 1 rfl) ?_
                          refine lv_iload_n hx hb dX12_next_149 rfl (lv_at hl 0 rfl) ?_
                          refine fp_12_14 (k := 387) hx hb hts in_X12_next_12 hown hK hP (by decide) (by decide) (hts _ lk_X12_next_169) hI hR hS dX12_next_150 (fun σ389 H389 locs389 u389 v389 hR hP hS => ?_)
                          have hF := hF.puts u389 1 rfl (by decide) (by decide) (by decide) (by decide)
                          have gMT := gMT.ag (Agr.put u389 (by decide))
                          have t390 : (σ389 387 3).toInt = (σ382 387 3).toInt := congrArg Int32.toInt (u389 387 3 (by omega))
                          have t391 : (σ389 387 5).toInt = (σ382 387 5).toInt := congrArg Int32.toInt (u389 387 5 (by omega))
                          have t392 : (σ389 387 4).toInt = (σ382 387 4).toInt := congrArg Int32.toInt (u389 387 4 (by omega))
                          have t393 : (σ389 387 12).toInt = (σ382 387 12).toInt := congrArg Int32.toInt (u389 387 12 (by omega))
                          have t394 : (σ389 387 13).toInt = (σ382 387 13).toInt := congrArg Int32.toInt (u389 387 13 (by omega))
                          have t395 : (σ389 387 11).toInt = (σ382 387 11).toInt := congrArg Int32.toInt (u389 387 11 (by omega))
                          refine lv_aload_n hx hb dX12_next_153 rfl (lv_at hl 1 rfl) ?_
                          refine lv_dup hx hb dX12_next_154 rfl ?_
                          refine fg_12_4 (k := 387) hx hb hts in_X12_next_12 hown hK hP (by decide) (by decide) (hts _ lk_X12_next_21) dX12_next_155 ?_
                          refine r_iconst hx hb dX12_next_158 (by decide) (fun z396 ez396 => ?_)
                          refine r_iadd hx hb dX12_next_159 (by omega) (fun z397 ez397 => ?_)
                          refine fp_12_4 (k := 387) hx hb hts in_X12_next_12 hown hK hP (by decide) (by decide) (hts _ lk_X12_next_21) hI hR hS (by omega) dX12_next_160 (fun σ398 H398 locs398 u398 v398 hR hP hS => ?_)
                          have hF := hF.puts u398 0 rfl (by decide) (by decide) (by decide) (by decide)
                          have gMT := gMT.ag (Agr.put u398 (by decide))
                          have t399 : (σ398 387 3).toInt = (σ389 387 3).toInt := congrArg Int32.toInt (u398 387 3 (by omega))
                          have t400 : (σ398 387 5).toInt = (σ389 387 5).toInt := congrArg Int32.toInt (u398 387 5 (by omega))
                          have t401 : (σ398 387 12).toInt = (σ389 387 12).toInt := congrArg Int32.toInt (u398 387 12 (by omega))
                          have t402 : (σ398 387 13).toInt = (σ389 387 13).toInt := congrArg Int32.toInt (u398 387 13 (by omega))
                          have t403 : (σ398 387 11).toInt = (σ389 387 11).toInt := congrArg Int32.toInt (u398 387 11 (by omega))
                          have t404 : (σ398 387 14).toInt = (σ389 387 14).toInt := congrArg Int32.toInt (u398 387 14 (by omega))
                          exact r_vret hx hb hr hK hP hS hk dX12_next_163 (show P_X12_next_v σ0 τ0 b N mo qn σ398 τ from ⟨hR, hF, hFL, by omega, by omega, by omega, by first | exact MK.lim (p := pp) (by omega) (by omega) hsk hq2 (by omega) (by omega) (by omega) | exact MK.stop (p := pp) (by omega) (by omega) hsk hq2 (by omega) (by omega) (by omega) (by omega) | exact MK.sgn (p := pp) (by omega) (by omega) hq2 (by omega) (by omega) (by omega) (by omega) (by omega) | exact MK.run (n := ln) (by omega) (by omega) ine irq en (by omega) iww (by omega) (by omega), gMT⟩)
          · refine lv_aload_n hx hb dX12_next_89 rfl (lv_at hl 1 rfl) ?_
            refine r_iconst hx hb dX12_next_90 (by decide) (fun z405 ez405 => ?_)
            refine fp_12_11 (k := 387) hx hb hts in_X12_next_12 hown hK hP (by decide) (by decide) (hts _ lk_X12_next_159) hI hR hS dX12_next_91 (fun σ406 H406 locs406 u406 v406 hR hP hS => ?_)
            have hF := hF.puts u406 1 rfl (by decide) (by decide) (by decide) (by decide)
            have gMT := gMT.ag (Agr.put u406 (by decide))
            have t407 : (σ406 387 3).toInt = (σ24 387 3).toInt := congrArg Int32.toInt (u406 387 3 (by omega))
            have t408 : (σ406 387 5).toInt = (σ24 387 5).toInt := congrArg Int32.toInt (u406 387 5 (by omega))
            have t409 : (σ406 387 14).toInt = (σ24 387 14).toInt := congrArg Int32.toInt (u406 387 14 (by omega))
            have t410 : (σ406 387 4).toInt = (σ24 387 4).toInt := congrArg Int32.toInt (u406 387 4 (by omega))
            have t411 : (σ406 387 12).toInt = (σ24 387 12).toInt := congrArg Int32.toInt (u406 387 12 (by omega))
            have t412 : (σ406 387 13).toInt = (σ24 387 13).toInt := congrArg Int32.toInt (u406 387 13 (by omega))
            exact r_vret hx hb hr hK hP hS hk dX12_next_94 (show P_X12_next_v σ0 τ0 b N mo qn σ406 τ from ⟨hR, hF, hFL, by omega, by omega, by omega, by first | exact MK.lim (p := pp) (by omega) (by omega) hsk hq2 (by omega) (by omega) (by omega) | exact MK.stop (p := pp) (by omega) (by omega) hsk hq2 (by omega) (by omega) (by omega) (by omega) | exact MK.sgn (p := pp) (by omega) (by omega) hq2 (by omega) (by omega) (by omega) (by omega) (by omega) | exact MK.run (n := ln) (by omega) (by omega) ine irq en (by omega) iww (by omega) (by omega), gMT⟩)
        · refine lv_aload_n hx hb dX12_next_66 rfl (lv_at hl 0 rfl) ?_
          refine lv_aload_n hx hb dX12_next_67 rfl (lv_at hl 0 rfl) ?_
          refine fg_12_5 (k := 387) hx hb hts in_X12_next_12 hown hK hP (by decide) (by decide) (hts _ lk_X12_next_24) dX12_next_68 ?_
          refine fp_12_12 (k := 387) hx hb hts in_X12_next_12 hown hK hP (by decide) (by decide) (hts _ lk_X12_next_153) hI hR hS dX12_next_71 (fun σ413 H413 locs413 u413 v413 hR hP hS => ?_)
          have hF := hF.puts u413 1 rfl (by decide) (by decide) (by decide) (by decide)
          have gMT := gMT.ag (Agr.put u413 (by decide))
          have t414 : (σ413 387 3).toInt = (σ24 387 3).toInt := congrArg Int32.toInt (u413 387 3 (by omega))
          have t415 : (σ413 387 5).toInt = (σ24 387 5).toInt := congrArg Int32.toInt (u413 387 5 (by omega))
          have t416 : (σ413 387 11).toInt = (σ24 387 11).toInt := congrArg Int32.toInt (u413 387 11 (by omega))
          have t417 : (σ413 387 14).toInt = (σ24 387 14).toInt := congrArg Int32.toInt (u413 387 14 (by omega))
          have t418 : (σ413 387 4).toInt = (σ24 387 4).toInt := congrArg Int32.toInt (u413 387 4 (by omega))
          have t419 : (σ413 387 13).toInt = (σ24 387 13).toInt := congrArg Int32.toInt (u413 387 13 (by omega))
          refine lv_aload_n hx hb dX12_next_74 rfl (lv_at hl 0 rfl) ?_
          refine r_iconst hx hb dX12_next_75 (by decide) (fun z420 ez420 => ?_)
          refine fp_12_11 (k := 387) hx hb hts in_X12_next_12 hown hK hP (by decide) (by decide) (hts _ lk_X12_next_159) hI hR hS dX12_next_76 (fun σ421 H421 locs421 u421 v421 hR hP hS => ?_)
          have hF := hF.puts u421 1 rfl (by decide) (by decide) (by decide) (by decide)
          have gMT := gMT.ag (Agr.put u421 (by decide))
          have t422 : (σ421 387 3).toInt = (σ413 387 3).toInt := congrArg Int32.toInt (u421 387 3 (by omega))
          have t423 : (σ421 387 5).toInt = (σ413 387 5).toInt := congrArg Int32.toInt (u421 387 5 (by omega))
          have t424 : (σ421 387 14).toInt = (σ413 387 14).toInt := congrArg Int32.toInt (u421 387 14 (by omega))
          have t425 : (σ421 387 4).toInt = (σ413 387 4).toInt := congrArg Int32.toInt (u421 387 4 (by omega))
          have t426 : (σ421 387 13).toInt = (σ413 387 13).toInt := congrArg Int32.toInt (u421 387 13 (by omega))
          have t427 : (σ421 387 12).toInt = (σ413 387 12).toInt := congrArg Int32.toInt (u421 387 12 (by omega))
          exact r_vret hx hb hr hK hP hS hk dX12_next_79 (show P_X12_next_v σ0 τ0 b N mo qn σ421 τ from ⟨hR, hF, hFL, by omega, by omega, by omega, by first | exact MK.lim (p := pp) (by omega) (by omega) hsk hq2 (by omega) (by omega) (by omega) | exact MK.stop (p := pp) (by omega) (by omega) hsk hq2 (by omega) (by omega) (by omega) (by omega) | exact MK.sgn (p := pp) (by omega) (by omega) hq2 (by omega) (by omega) (by omega) (by omega) (by omega) | exact MK.run (n := ln) (by omega) (by omega) ine irq en (by omega) iww (by omega) (by omega), gMT⟩)
    · refine lv_aload_n hx hb dX12_next_18 rfl (lv_at hl 0 rfl) ?_
      refine lv_dup hx hb dX12_next_19 rfl ?_
      refine fg_12_4 (k := 387) hx hb hts in_X12_next_12 hown hK hP (by decide) (by decide) (hts _ lk_X12_next_21) dX12_next_20 ?_
      refine r_iconst hx hb dX12_next_23 (by decide) (fun z428 ez428 => ?_)
      refine r_iadd hx hb dX12_next_24 (by omega) (fun z429 ez429 => ?_)
      refine fp_12_4 (k := 387) hx hb hts in_X12_next_12 hown hK hP (by decide) (by decide) (hts _ lk_X12_next_21) hI hR hS (by omega) dX12_next_25 (fun σ430 H430 locs430 u430 v430 hR hP hS => ?_)
      have hF := hF.puts u430 0 rfl (by decide) (by decide) (by decide) (by decide)
      have gMT := gMT.ag (Agr.put u430 (by decide))
      have t431 : (σ430 387 3).toInt = (σ 387 3).toInt := congrArg Int32.toInt (u430 387 3 (by omega))
      have t432 : (σ430 387 5).toInt = (σ 387 5).toInt := congrArg Int32.toInt (u430 387 5 (by omega))
      have t433 : (σ430 387 11).toInt = (σ 387 11).toInt := congrArg Int32.toInt (u430 387 11 (by omega))
      have t434 : (σ430 387 12).toInt = (σ 387 12).toInt := congrArg Int32.toInt (u430 387 12 (by omega))
      have t435 : (σ430 387 13).toInt = (σ 387 13).toInt := congrArg Int32.toInt (u430 387 13 (by omega))
      have t436 : (σ430 387 14).toInt = (σ 387 14).toInt := congrArg Int32.toInt (u430 387 14 (by omega))
      refine lv_goto (tgt := 0) hx hb dX12_next_28 (by decide) ?_
      exact K0 σ430 τ H430 locs430 (pp + 1) ls hR hF hFL hP hS (by omega) (by omega) (by omega) (by omega) (by omega) (by omega) (by first | exact hp2 | (rw [skpE_step (by omega) (by omega)]; exact ipq)) gMT (lv_sub hl [0] rfl) (by omega)
set_option maxHeartbeats 4000000 in
theorem B_X12_next_v_181 (p : Program) (l : Launch) (e : Env) (s : State) (m : MethodId) (args : Array Value) (below : List Frame) (meth : Method) (c : Code) (D : va_G) (cA : Nat → ClassId) (ad : Nat → Nat) (σ0 : Nat → Nat → Int32) (τ0 : Nat → Nat → Int64) (b : Nat → Int) (N : Nat) (mo : Nat) (qn : Nat) (n : Nat) (C : Cy p s m args meth c cX12_next 4 wsX12_next RX12 D cA ad none) (hpre0 : MP σ0 b N mo qn) (gMT0 : MT σ0 b N mo) (K0 : J_X12_next_v_0 p l e s m args below meth c D cA ad σ0 τ0 b N mo qn n) (K181 : J_X12_next_v_181 p l e s m args below meth c D cA ad σ0 τ0 b N mo qn n) (K221 : J_X12_next_v_221 p l e s m args below meth c D cA ad σ0 τ0 b N mo qn n) (K248 : J_X12_next_v_248 p l e s m args below meth c D cA ad σ0 τ0 b N mo qn n) : J_X12_next_v_181 p l e s m args below meth c D cA ad σ0 τ0 b N mo qn (n + 1) := by
  obtain ⟨hx, hb, hml, hown, hts, hK, hk, hr, hI, hN⟩ := C
  intro σ τ H locs x1 x2 x3 ln ls hR hF hFL hP hS hc0 hc1 hc2 hc3 hc4 hc5 hc6 hc7 imo ip4 ipN isp iat iss irq ine irr iaa iww inn gMT hl hm
  have hdl := dgc_le b qn ln
  have hms := gMT.1
  have hmx := gMT.2.2.1
  refine lv_aload_n hx hb dX12_next_181 rfl (lv_at hl 0 rfl) ?_
  refine r_cVi (k := 387) (As := []) (rest := []) ⟨hx, hb, hml, hown, hts⟩ hK hP hN hS (c_X12_peek_v l D cA ad hI σ τ hR b N mo (qn + ln) (by omega) gMT) (cwV 0 hts gX12_next_X12_peek rfl rfl rfl (by decide +kernel) ⟨by decide, by decide⟩) (rv_M hK hP (by decide) (by decide)) rfl hl.1 rfl (Nat.le_of_ble_eq_true rfl) dX12_next_182 (Nat.zero_le _) (Nat.zero_le _) (fun r1 u1 H1 locs1 hp1 hP hS => ?_)
  obtain ⟨σ1, τ1⟩ := u1
  obtain ⟨hR, f1, fL1, hq1, hp1_0, gnMT⟩ : P_X12_peek_v σ τ b N mo (qn + ln) r1 σ1 τ1 := hp1
  have hP : va_P D vwCl (gw cA ad σ1 τ1) H1 := hP
  obtain rfl := FrL.nil fL1
  obtain rfl := Fr.nil f1
  refine r_cSi (As := [.int r1]) (rest := []) ⟨hx, hb, hml, hown, hts⟩ hK hP hN hS (c_X12_isSmall l D cA ad hI σ τ hR r1 (by omega)) (va_cwS 1 hts gX12_next_X12_isSmall rfl rfl rfl (by decide +kernel) ⟨by decide, by decide⟩) rfl hl.1 rfl (Nat.le_of_ble_eq_true rfl) dX12_next_185 (Nat.zero_le _) (Nat.zero_le _) (fun r2 u2 H2 locs2 hp2 hP hS => ?_)
  obtain ⟨σ2, τ2⟩ := u2
  obtain ⟨hR, f2, fL2, hq2, hp2_0⟩ : P_X12_isSmall σ τ r1 r2 σ2 τ2 := hp2
  have hP : va_P D vwCl (gw cA ad σ2 τ2) H2 := hP
  obtain rfl := FrL.nil fL2
  obtain rfl := Fr.nil f2
  refine r_if_ne (tgt := 201) hx hb dX12_next_188 (by decide) (fun c3 => ?_) (fun c3 => ?_)
  · have hrl : isRn (b (qn + ln)) := by omega
    refine lv_iload_n hx hb dX12_next_201 rfl (lv_at hl 3 rfl) ?_
    refine r_if_eq (tgt := 220) hx hb dX12_next_202 (by decide) (fun c4 => ?_) (fun c4 => ?_)
    · refine r_iconst hx hb dX12_next_220 (by decide) (fun z5 ez5 => ?_)
      exact K221 σ τ H2 locs2 x1 x2 x3 z5 ln ls hR hF hFL hP hS (by omega) (by omega) (by omega) (by omega) (by omega) (by omega) (by omega) (by omega) (by omega) (by omega) (by omega) (by omega) (by omega) (by omega) (by omega) (by first | exact iss | (rw [hqp]; omega)) (by first | exact irq | exact hrn) (by first | exact ine | exact hne) (by exact irr) (by first | exact irl | exact hrl) (by exact MAs iaa iss hrl (by omega)) (by exact iww) (by first | exact inn | exact Or.inr (by show _ = (0 : Int); omega) | exact Or.inl (by omega) | (have hm := MNs inn (by omega) irr hb265 irl; omega)) gMT (lv_sub hl [0, 1, 2, 3] rfl) (by omega)
    · refine lv_aload_n hx hb dX12_next_205 rfl (lv_at hl 0 rfl) ?_
      refine r_cVi (k := 387) (As := []) (rest := []) ⟨hx, hb, hml, hown, hts⟩ hK hP hN hS (c_X12_peek_v l D cA ad hI σ τ hR b N mo (qn + ln) (by omega) gMT) (cwV 0 hts gX12_next_X12_peek rfl rfl rfl (by decide +kernel) ⟨by decide, by decide⟩) (rv_M hK hP (by decide) (by decide)) rfl hl.1 rfl (Nat.le_of_ble_eq_true rfl) dX12_next_206 (Nat.zero_le _) (Nat.zero_le _) (fun r6 u6 H6 locs6 hp6 hP hS => ?_)
      obtain ⟨σ6, τ6⟩ := u6
      obtain ⟨hR, f6, fL6, hq6, hp6_0, gnMT⟩ : P_X12_peek_v σ τ b N mo (qn + ln) r6 σ6 τ6 := hp6
      have hP : va_P D vwCl (gw cA ad σ6 τ6) H6 := hP
      obtain rfl := FrL.nil fL6
      obtain rfl := Fr.nil f6
      refine r_cSi (As := [.int r6]) (rest := []) ⟨hx, hb, hml, hown, hts⟩ hK hP hN hS (c_X12_isSmall l D cA ad hI σ τ hR r6 (by omega)) (va_cwS 1 hts gX12_next_X12_isSmall rfl rfl rfl (by decide +kernel) ⟨by decide, by decide⟩) rfl hl.1 rfl (Nat.le_of_ble_eq_true rfl) dX12_next_209 (Nat.zero_le _) (Nat.zero_le _) (fun r7 u7 H7 locs7 hp7 hP hS => ?_)
      obtain ⟨σ7, τ7⟩ := u7
      obtain ⟨hR, f7, fL7, hq7, hp7_0⟩ : P_X12_isSmall σ τ r6 r7 σ7 τ7 := hp7
      have hP : va_P D vwCl (gw cA ad σ7 τ7) H7 := hP
      obtain rfl := FrL.nil fL7
      obtain rfl := Fr.nil f7
      refine lv_iload_n hx hb dX12_next_212 rfl (lv_at hl 2 rfl) ?_
      refine r_icmp_ne (tgt := 220) hx hb dX12_next_213 (by decide) (fun c8 => ?_) (fun c8 => ?_)
      · refine r_iconst hx hb dX12_next_220 (by decide) (fun z9 ez9 => ?_)
        exact K221 σ τ H7 locs7 x1 x2 x3 z9 ln ls hR hF hFL hP hS (by omega) (by omega) (by omega) (by omega) (by omega) (by omega) (by omega) (by omega) (by omega) (by omega) (by omega) (by omega) (by omega) (by omega) (by omega) (by first | exact iss | (rw [hqp]; omega)) (by first | exact irq | exact hrn) (by first | exact ine | exact hne) (by exact irr) (by first | exact irl | exact hrl) (by exact MAs iaa iss hrl (by omega)) (by exact iww) (by first | exact inn | exact Or.inr (by show _ = (0 : Int); omega) | exact Or.inl (by omega) | (have hm := MNs inn (by omega) irr hb265 irl; omega)) gMT (lv_sub hl [0, 1, 2, 3] rfl) (by omega)
      · refine r_iconst hx hb dX12_next_216 (by decide) (fun z10 ez10 => ?_)
        refine lv_goto (tgt := 221) hx hb dX12_next_217 (by decide) ?_
        exact K221 σ τ H7 locs7 x1 x2 x3 z10 ln ls hR hF hFL hP hS (by omega) (by omega) (by omega) (by omega) (by omega) (by omega) (by omega) (by omega) (by omega) (by omega) (by omega) (by omega) (by omega) (by omega) (by omega) (by first | exact iss | (rw [hqp]; omega)) (by first | exact irq | exact hrn) (by first | exact ine | exact hne) (by exact irr) (by first | exact irl | exact hrl) (by exact MAs iaa iss hrl (by omega)) (by exact iww) (by first | exact inn | exact Or.inr (by show _ = (0 : Int); omega) | exact Or.inl (by omega) | (have hm := MNs inn (by omega) irr hb265 irl; omega)) gMT (lv_sub hl [0, 1, 2, 3] rfl) (by omega)
  · refine lv_aload_n hx hb dX12_next_191 rfl (lv_at hl 0 rfl) ?_
    refine r_cVi (k := 387) (As := []) (rest := []) ⟨hx, hb, hml, hown, hts⟩ hK hP hN hS (c_X12_peek_v l D cA ad hI σ τ hR b N mo (qn + ln) (by omega) gMT) (cwV 0 hts gX12_next_X12_peek rfl rfl rfl (by decide +kernel) ⟨by decide, by decide⟩) (rv_M hK hP (by decide) (by decide)) rfl hl.1 rfl (Nat.le_of_ble_eq_true rfl) dX12_next_192 (Nat.zero_le _) (Nat.zero_le _) (fun r11 u11 H11 locs11 hp11 hP hS => ?_)
    obtain ⟨σ11, τ11⟩ := u11
    obtain ⟨hR, f11, fL11, hq11, hp11_0, gnMT⟩ : P_X12_peek_v σ τ b N mo (qn + ln) r11 σ11 τ11 := hp11
    have hP : va_P D vwCl (gw cA ad σ11 τ11) H11 := hP
    obtain rfl := FrL.nil fL11
    obtain rfl := Fr.nil f11
    refine r_cSi (As := [.int r11]) (rest := []) ⟨hx, hb, hml, hown, hts⟩ hK hP hN hS (c_X12_isDigit l D cA ad hI σ τ hR r11 (by omega)) (va_cwS 1 hts gX12_next_X12_isDigit rfl rfl rfl (by decide +kernel) ⟨by decide, by decide⟩) rfl hl.1 rfl (Nat.le_of_ble_eq_true rfl) dX12_next_195 (Nat.zero_le _) (Nat.zero_le _) (fun r12 u12 H12 locs12 hp12 hP hS => ?_)
    obtain ⟨σ12, τ12⟩ := u12
    obtain ⟨hR, f12, fL12, hq12, hp12_0⟩ : P_X12_isDigit σ τ r11 r12 σ12 τ12 := hp12
    have hP : va_P D vwCl (gw cA ad σ12 τ12) H12 := hP
    obtain rfl := FrL.nil fL12
    obtain rfl := Fr.nil f12
    refine r_if_eq (tgt := 298) hx hb dX12_next_198 (by decide) (fun c13 => ?_) (fun c13 => ?_)
    · have en := run_at irr ipN (by omega)
      refine lv_aload_n hx hb dX12_next_298 rfl (lv_at hl 0 rfl) ?_
      refine lv_iload_n hx hb dX12_next_299 rfl (lv_at hl 3 rfl) ?_
      refine r_if_eq (tgt := 320) hx hb dX12_next_300 (by decide) (fun c14 => ?_) (fun c14 => ?_)
      · refine r_iconst hx hb dX12_next_320 (by decide) (fun z15 ez15 => ?_)
        refine lv_goto (tgt := 333) hx hb dX12_next_321 (by decide) ?_
        refine fp_12_11 (k := 387) hx hb hts in_X12_next_12 hown hK hP (by decide) (by decide) (hts _ lk_X12_next_159) hI hR hS dX12_next_333 (fun σ16 H16 locs16 u16 v16 hR hP hS => ?_)
        have hF := hF.puts u16 1 rfl (by decide) (by decide) (by decide) (by decide)
        have gMT := gMT.ag (Agr.put u16 (by decide))
        have t17 : (σ16 387 4).toInt = (σ 387 4).toInt := congrArg Int32.toInt (u16 387 4 (by omega))
        have t18 : (σ16 387 3).toInt = (σ 387 3).toInt := congrArg Int32.toInt (u16 387 3 (by omega))
        have t19 : (σ16 387 5).toInt = (σ 387 5).toInt := congrArg Int32.toInt (u16 387 5 (by omega))
        have t20 : (σ16 387 12).toInt = (σ 387 12).toInt := congrArg Int32.toInt (u16 387 12 (by omega))
        have t21 : (σ16 387 13).toInt = (σ 387 13).toInt := congrArg Int32.toInt (u16 387 13 (by omega))
        have t22 : (σ16 387 14).toInt = (σ 387 14).toInt := congrArg Int32.toInt (u16 387 14 (by omega))
        exact r_vret hx hb hr hK hP hS hk dX12_next_336 (show P_X12_next_v σ0 τ0 b N mo qn σ16 τ from ⟨hR, hF, hFL, by omega, by omega, by omega, by first | exact MK.lim (p := pp) (by omega) (by omega) hsk hq2 (by omega) (by omega) (by omega) | exact MK.stop (p := pp) (by omega) (by omega) hsk hq2 (by omega) (by omega) (by omega) (by omega) | exact MK.sgn (p := pp) (by omega) (by omega) hq2 (by omega) (by omega) (by omega) (by omega) (by omega) | exact MK.run (n := ln) (by omega) (by omega) ine irq en (by omega) iww (by omega) (by omega), gMT⟩)
      · refine lv_aload_n hx hb dX12_next_303 rfl (lv_at hl 0 rfl) ?_
        refine fg_12_13 (k := 387) hx hb hts in_X12_next_12 hown hK hP (by decide) (by decide) (hts _ lk_X12_next_156) dX12_next_304 ?_
        refine lv_iload_n hx hb dX12_next_307 rfl (lv_at hl 2 rfl) ?_
        refine r_if_eq (tgt := 316) hx hb dX12_next_308 (by decide) (fun c23 => ?_) (fun c23 => ?_)
        · refine r_iconst hx hb dX12_next_316 (by decide) (fun z24 ez24 => ?_)
          refine r_icmp_le (tgt := 324) hx hb dX12_next_317 (by decide) (fun c25 => ?_) (fun c25 => ?_)
          · refine lv_iload_n hx hb dX12_next_324 rfl (lv_at hl 2 rfl) ?_
            refine r_if_eq (tgt := 332) hx hb dX12_next_325 (by decide) (fun c26 => ?_) (fun c26 => ?_)
            · refine r_iconst hx hb dX12_next_332 (by decide) (fun z27 ez27 => ?_)
              refine fp_12_11 (k := 387) hx hb hts in_X12_next_12 hown hK hP (by decide) (by decide) (hts _ lk_X12_next_159) hI hR hS dX12_next_333 (fun σ28 H28 locs28 u28 v28 hR hP hS => ?_)
              have hF := hF.puts u28 1 rfl (by decide) (by decide) (by decide) (by decide)
              have gMT := gMT.ag (Agr.put u28 (by decide))
              have t29 : (σ28 387 4).toInt = (σ 387 4).toInt := congrArg Int32.toInt (u28 387 4 (by omega))
              have t30 : (σ28 387 3).toInt = (σ 387 3).toInt := congrArg Int32.toInt (u28 387 3 (by omega))
              have t31 : (σ28 387 5).toInt = (σ 387 5).toInt := congrArg Int32.toInt (u28 387 5 (by omega))
              have t32 : (σ28 387 12).toInt = (σ 387 12).toInt := congrArg Int32.toInt (u28 387 12 (by omega))
              have t33 : (σ28 387 13).toInt = (σ 387 13).toInt := congrArg Int32.toInt (u28 387 13 (by omega))
              have t34 : (σ28 387 14).toInt = (σ 387 14).toInt := congrArg Int32.toInt (u28 387 14 (by omega))
              exact r_vret hx hb hr hK hP hS hk dX12_next_336 (show P_X12_next_v σ0 τ0 b N mo qn σ28 τ from ⟨hR, hF, hFL, by omega, by omega, by omega, by first | exact MK.lim (p := pp) (by omega) (by omega) hsk hq2 (by omega) (by omega) (by omega) | exact MK.stop (p := pp) (by omega) (by omega) hsk hq2 (by omega) (by omega) (by omega) (by omega) | exact MK.sgn (p := pp) (by omega) (by omega) hq2 (by omega) (by omega) (by omega) (by omega) (by omega) | exact MK.run (n := ln) (by omega) (by omega) ine irq en (by omega) iww (by omega) (by omega), gMT⟩)
            · exfalso; omega
          · refine r_iconst hx hb dX12_next_320 (by decide) (fun z35 ez35 => ?_)
            refine lv_goto (tgt := 333) hx hb dX12_next_321 (by decide) ?_
            refine fp_12_11 (k := 387) hx hb hts in_X12_next_12 hown hK hP (by decide) (by decide) (hts _ lk_X12_next_159) hI hR hS dX12_next_333 (fun σ36 H36 locs36 u36 v36 hR hP hS => ?_)
            have hF := hF.puts u36 1 rfl (by decide) (by decide) (by decide) (by decide)
            have gMT := gMT.ag (Agr.put u36 (by decide))
            have t37 : (σ36 387 4).toInt = (σ 387 4).toInt := congrArg Int32.toInt (u36 387 4 (by omega))
            have t38 : (σ36 387 3).toInt = (σ 387 3).toInt := congrArg Int32.toInt (u36 387 3 (by omega))
            have t39 : (σ36 387 5).toInt = (σ 387 5).toInt := congrArg Int32.toInt (u36 387 5 (by omega))
            have t40 : (σ36 387 12).toInt = (σ 387 12).toInt := congrArg Int32.toInt (u36 387 12 (by omega))
            have t41 : (σ36 387 13).toInt = (σ 387 13).toInt := congrArg Int32.toInt (u36 387 13 (by omega))
            have t42 : (σ36 387 14).toInt = (σ 387 14).toInt := congrArg Int32.toInt (u36 387 14 (by omega))
            exact r_vret hx hb hr hK hP hS hk dX12_next_336 (show P_X12_next_v σ0 τ0 b N mo qn σ36 τ from ⟨hR, hF, hFL, by omega, by omega, by omega, by first | exact MK.lim (p := pp) (by omega) (by omega) hsk hq2 (by omega) (by omega) (by omega) | exact MK.stop (p := pp) (by omega) (by omega) hsk hq2 (by omega) (by omega) (by omega) (by omega) | exact MK.sgn (p := pp) (by omega) (by omega) hq2 (by omega) (by omega) (by omega) (by omega) (by omega) | exact MK.run (n := ln) (by omega) (by omega) ine irq en (by omega) iww (by omega) (by omega), gMT⟩)
        · refine r_bipush hx hb dX12_next_311 (by decide) (fun z43 ez43 => ?_)
          refine lv_goto (tgt := 317) hx hb dX12_next_313 (by decide) ?_
          refine r_icmp_le (tgt := 324) hx hb dX12_next_317 (by decide) (fun c44 => ?_) (fun c44 => ?_)
          · refine lv_iload_n hx hb dX12_next_324 rfl (lv_at hl 2 rfl) ?_
            refine r_if_eq (tgt := 332) hx hb dX12_next_325 (by decide) (fun c45 => ?_) (fun c45 => ?_)
            · exfalso; omega
            · refine r_iconst hx hb dX12_next_328 (by decide) (fun z46 ez46 => ?_)
              refine lv_goto (tgt := 333) hx hb dX12_next_329 (by decide) ?_
              refine fp_12_11 (k := 387) hx hb hts in_X12_next_12 hown hK hP (by decide) (by decide) (hts _ lk_X12_next_159) hI hR hS dX12_next_333 (fun σ47 H47 locs47 u47 v47 hR hP hS => ?_)
              have hF := hF.puts u47 1 rfl (by decide) (by decide) (by decide) (by decide)
              have gMT := gMT.ag (Agr.put u47 (by decide))
              have t48 : (σ47 387 4).toInt = (σ 387 4).toInt := congrArg Int32.toInt (u47 387 4 (by omega))
              have t49 : (σ47 387 3).toInt = (σ 387 3).toInt := congrArg Int32.toInt (u47 387 3 (by omega))
              have t50 : (σ47 387 5).toInt = (σ 387 5).toInt := congrArg Int32.toInt (u47 387 5 (by omega))
              have t51 : (σ47 387 12).toInt = (σ 387 12).toInt := congrArg Int32.toInt (u47 387 12 (by omega))
              have t52 : (σ47 387 13).toInt = (σ 387 13).toInt := congrArg Int32.toInt (u47 387 13 (by omega))
              have t53 : (σ47 387 14).toInt = (σ 387 14).toInt := congrArg Int32.toInt (u47 387 14 (by omega))
              exact r_vret hx hb hr hK hP hS hk dX12_next_336 (show P_X12_next_v σ0 τ0 b N mo qn σ47 τ from ⟨hR, hF, hFL, by omega, by omega, by omega, by first | exact MK.lim (p := pp) (by omega) (by omega) hsk hq2 (by omega) (by omega) (by omega) | exact MK.stop (p := pp) (by omega) (by omega) hsk hq2 (by omega) (by omega) (by omega) (by omega) | exact MK.sgn (p := pp) (by omega) (by omega) hq2 (by omega) (by omega) (by omega) (by omega) (by omega) | exact MK.run (n := ln) (by omega) (by omega) ine irq en (by omega) iww (by omega) (by omega), gMT⟩)
          · refine r_iconst hx hb dX12_next_320 (by decide) (fun z54 ez54 => ?_)
            refine lv_goto (tgt := 333) hx hb dX12_next_321 (by decide) ?_
            refine fp_12_11 (k := 387) hx hb hts in_X12_next_12 hown hK hP (by decide) (by decide) (hts _ lk_X12_next_159) hI hR hS dX12_next_333 (fun σ55 H55 locs55 u55 v55 hR hP hS => ?_)
            have hF := hF.puts u55 1 rfl (by decide) (by decide) (by decide) (by decide)
            have gMT := gMT.ag (Agr.put u55 (by decide))
            have t56 : (σ55 387 4).toInt = (σ 387 4).toInt := congrArg Int32.toInt (u55 387 4 (by omega))
            have t57 : (σ55 387 3).toInt = (σ 387 3).toInt := congrArg Int32.toInt (u55 387 3 (by omega))
            have t58 : (σ55 387 5).toInt = (σ 387 5).toInt := congrArg Int32.toInt (u55 387 5 (by omega))
            have t59 : (σ55 387 12).toInt = (σ 387 12).toInt := congrArg Int32.toInt (u55 387 12 (by omega))
            have t60 : (σ55 387 13).toInt = (σ 387 13).toInt := congrArg Int32.toInt (u55 387 13 (by omega))
            have t61 : (σ55 387 14).toInt = (σ 387 14).toInt := congrArg Int32.toInt (u55 387 14 (by omega))
            exact r_vret hx hb hr hK hP hS hk dX12_next_336 (show P_X12_next_v σ0 τ0 b N mo qn σ55 τ from ⟨hR, hF, hFL, by omega, by omega, by omega, by first | exact MK.lim (p := pp) (by omega) (by omega) hsk hq2 (by omega) (by omega) (by omega) | exact MK.stop (p := pp) (by omega) (by omega) hsk hq2 (by omega) (by omega) (by omega) (by omega) | exact MK.sgn (p := pp) (by omega) (by omega) hq2 (by omega) (by omega) (by omega) (by omega) (by omega) | exact MK.run (n := ln) (by omega) (by omega) ine irq en (by omega) iww (by omega) (by omega), gMT⟩)
    · have hrl : isRn (b (qn + ln)) := by omega
      refine lv_iload_n hx hb dX12_next_201 rfl (lv_at hl 3 rfl) ?_
      refine r_if_eq (tgt := 220) hx hb dX12_next_202 (by decide) (fun c62 => ?_) (fun c62 => ?_)
      · refine r_iconst hx hb dX12_next_220 (by decide) (fun z63 ez63 => ?_)
        exact K221 σ τ H12 locs12 x1 x2 x3 z63 ln ls hR hF hFL hP hS (by omega) (by omega) (by omega) (by omega) (by omega) (by omega) (by omega) (by omega) (by omega) (by omega) (by omega) (by omega) (by omega) (by omega) (by omega) (by first | exact iss | (rw [hqp]; omega)) (by first | exact irq | exact hrn) (by first | exact ine | exact hne) (by exact irr) (by first | exact irl | exact hrl) (by exact MAs iaa iss hrl (by omega)) (by exact iww) (by first | exact inn | exact Or.inr (by show _ = (0 : Int); omega) | exact Or.inl (by omega) | (have hm := MNs inn (by omega) irr hb265 irl; omega)) gMT (lv_sub hl [0, 1, 2, 3] rfl) (by omega)
      · refine lv_aload_n hx hb dX12_next_205 rfl (lv_at hl 0 rfl) ?_
        refine r_cVi (k := 387) (As := []) (rest := []) ⟨hx, hb, hml, hown, hts⟩ hK hP hN hS (c_X12_peek_v l D cA ad hI σ τ hR b N mo (qn + ln) (by omega) gMT) (cwV 0 hts gX12_next_X12_peek rfl rfl rfl (by decide +kernel) ⟨by decide, by decide⟩) (rv_M hK hP (by decide) (by decide)) rfl hl.1 rfl (Nat.le_of_ble_eq_true rfl) dX12_next_206 (Nat.zero_le _) (Nat.zero_le _) (fun r64 u64 H64 locs64 hp64 hP hS => ?_)
        obtain ⟨σ64, τ64⟩ := u64
        obtain ⟨hR, f64, fL64, hq64, hp64_0, gnMT⟩ : P_X12_peek_v σ τ b N mo (qn + ln) r64 σ64 τ64 := hp64
        have hP : va_P D vwCl (gw cA ad σ64 τ64) H64 := hP
        obtain rfl := FrL.nil fL64
        obtain rfl := Fr.nil f64
        refine r_cSi (As := [.int r64]) (rest := []) ⟨hx, hb, hml, hown, hts⟩ hK hP hN hS (c_X12_isSmall l D cA ad hI σ τ hR r64 (by omega)) (va_cwS 1 hts gX12_next_X12_isSmall rfl rfl rfl (by decide +kernel) ⟨by decide, by decide⟩) rfl hl.1 rfl (Nat.le_of_ble_eq_true rfl) dX12_next_209 (Nat.zero_le _) (Nat.zero_le _) (fun r65 u65 H65 locs65 hp65 hP hS => ?_)
        obtain ⟨σ65, τ65⟩ := u65
        obtain ⟨hR, f65, fL65, hq65, hp65_0⟩ : P_X12_isSmall σ τ r64 r65 σ65 τ65 := hp65
        have hP : va_P D vwCl (gw cA ad σ65 τ65) H65 := hP
        obtain rfl := FrL.nil fL65
        obtain rfl := Fr.nil f65
        refine lv_iload_n hx hb dX12_next_212 rfl (lv_at hl 2 rfl) ?_
        refine r_icmp_ne (tgt := 220) hx hb dX12_next_213 (by decide) (fun c66 => ?_) (fun c66 => ?_)
        · refine r_iconst hx hb dX12_next_220 (by decide) (fun z67 ez67 => ?_)
          exact K221 σ τ H65 locs65 x1 x2 x3 z67 ln ls hR hF hFL hP hS (by omega) (by omega) (by omega) (by omega) (by omega) (by omega) (by omega) (by omega) (by omega) (by omega) (by omega) (by omega) (by omega) (by omega) (by omega) (by first | exact iss | (rw [hqp]; omega)) (by first | exact irq | exact hrn) (by first | exact ine | exact hne) (by exact irr) (by first | exact irl | exact hrl) (by exact MAs iaa iss hrl (by omega)) (by exact iww) (by first | exact inn | exact Or.inr (by show _ = (0 : Int); omega) | exact Or.inl (by omega) | (have hm := MNs inn (by omega) irr hb265 irl; omega)) gMT (lv_sub hl [0, 1, 2, 3] rfl) (by omega)
        · refine r_iconst hx hb dX12_next_216 (by decide) (fun z68 ez68 => ?_)
          refine lv_goto (tgt := 221) hx hb dX12_next_217 (by decide) ?_
          exact K221 σ τ H65 locs65 x1 x2 x3 z68 ln ls hR hF hFL hP hS (by omega) (by omega) (by omega) (by omega) (by omega) (by omega) (by omega) (by omega) (by omega) (by omega) (by omega) (by omega) (by omega) (by omega) (by omega) (by first | exact iss | (rw [hqp]; omega)) (by first | exact irq | exact hrn) (by first | exact ine | exact hne) (by exact irr) (by first | exact irl | exact hrl) (by exact MAs iaa iss hrl (by omega)) (by exact iww) (by first | exact inn | exact Or.inr (by show _ = (0 : Int); omega) | exact Or.inl (by omega) | (have hm := MNs inn (by omega) irr hb265 irl; omega)) gMT (lv_sub hl [0, 1, 2, 3] rfl) (by omega)
set_option maxHeartbeats 4000000 in
theorem B_X12_next_v_221 (p : Program) (l : Launch) (e : Env) (s : State) (m : MethodId) (args : Array Value) (below : List Frame) (meth : Method) (c : Code) (D : va_G) (cA : Nat → ClassId) (ad : Nat → Nat) (σ0 : Nat → Nat → Int32) (τ0 : Nat → Nat → Int64) (b : Nat → Int) (N : Nat) (mo : Nat) (qn : Nat) (n : Nat) (C : Cy p s m args meth c cX12_next 4 wsX12_next RX12 D cA ad none) (hpre0 : MP σ0 b N mo qn) (gMT0 : MT σ0 b N mo) (K0 : J_X12_next_v_0 p l e s m args below meth c D cA ad σ0 τ0 b N mo qn n) (K181 : J_X12_next_v_181 p l e s m args below meth c D cA ad σ0 τ0 b N mo qn n) (K221 : J_X12_next_v_221 p l e s m args below meth c D cA ad σ0 τ0 b N mo qn n) (K248 : J_X12_next_v_248 p l e s m args below meth c D cA ad σ0 τ0 b N mo qn n) : J_X12_next_v_221 p l e s m args below meth c D cA ad σ0 τ0 b N mo qn (n + 1) := by
  obtain ⟨hx, hb, hml, hown, hts, hK, hk, hr, hI, hN⟩ := C
  intro σ τ H locs x1 x2 x3 w0 ln ls hR hF hFL hP hS hc0 hc1 hc2 hc3 hc4 hc5 hc6 hc7 hc8 imo ilt ip4 ipN isp iat iss irq ine irr irl iaa iww inn gMT hl hm
  have hms := gMT.1
  refine lv_istore_n (lv' := [(3, .int w0), (0, .ref (ad 387)), (1, .int x1), (2, .int x2)]) hx hb dX12_next_221 rfl hl (by decide) rfl (fun ls hl => ?_)
  refine lv_aload_n hx hb dX12_next_222 rfl (lv_at hl 1 rfl) ?_
  refine fg_12_13 (k := 387) hx hb hts in_X12_next_12 hown hK hP (by decide) (by decide) (hts _ lk_X12_next_156) dX12_next_223 ?_
  refine r_bipush hx hb dX12_next_226 (by decide) (fun z1 ez1 => ?_)
  refine r_icmp_ge (tgt := 248) hx hb dX12_next_228 (by decide) (fun c2 => ?_) (fun c2 => ?_)
  · exact K248 σ τ H locs x1 x2 w0 ln ls hR hF hFL hP hS (by omega) (by omega) (by omega) (by omega) (by omega) (by omega) (by omega) (by omega) (by omega) (by omega) (by omega) (by omega) (by omega) (by omega) (by first | exact iss | (rw [hqp]; omega)) (by first | exact irq | exact hrn) (by first | exact ine | exact hne) (by exact irr) (by first | exact irl | exact hrl) (by exact iaa) (by first | exact Or.inl (by omega) | (rw [vw]; exact MWs iww (by omega) irr hb240 irl (by omega))) (by first | exact inn | exact Or.inr (by show _ = (0 : Int); omega) | exact Or.inl (by omega) | (have hm := MNs inn (by omega) irr hb265 irl; omega)) gMT (lv_sub hl [1, 2, 3, 0] rfl) (by omega)
  · refine lv_aload_n hx hb dX12_next_231 rfl (lv_at hl 1 rfl) ?_
    refine lv_aload_n hx hb dX12_next_232 rfl (lv_at hl 1 rfl) ?_
    refine fg_12_17 (k := 387) hx hb hts in_X12_next_12 hown hK hP (by decide) (by decide) (hts _ lk_X12_next_172) dX12_next_233 ?_
    refine r_bipush hx hb dX12_next_236 (by decide) (fun z3 ez3 => ?_)
    refine lv_lshl hx hb dX12_next_238 rfl ?_
    refine lv_aload_n hx hb dX12_next_239 rfl (lv_at hl 1 rfl) ?_
    refine r_cVi (k := 387) (As := []) (rest := [.long ((τ 387 17) <<< (z3.toInt64 &&& 63)), .ref (ad 387)]) ⟨hx, hb, hml, hown, hts⟩ hK hP hN hS (c_X12_peek_v l D cA ad hI σ τ hR b N mo (qn + ln) (by omega) gMT) (cwV 0 hts gX12_next_X12_peek rfl rfl rfl (by decide +kernel) ⟨by decide, by decide⟩) (rv_M hK hP (by decide) (by decide)) rfl hl.1 rfl (Nat.le_of_ble_eq_true rfl) dX12_next_240 (Nat.zero_le _) (Nat.zero_le _) (fun r4 u4 H4 locs4 hp4 hP hS => ?_)
    obtain ⟨σ4, τ4⟩ := u4
    obtain ⟨hR, f4, fL4, hq4, hp4_0, gnMT⟩ : P_X12_peek_v σ τ b N mo (qn + ln) r4 σ4 τ4 := hp4
    have hP : va_P D vwCl (gw cA ad σ4 τ4) H4 := hP
    obtain rfl := FrL.nil fL4
    obtain rfl := Fr.nil f4
    have hb240 : r4.toInt = b (qn + ln) := by omega
    refine lv_i2l hx hb dX12_next_243 rfl ?_
    refine lv_lor hx hb dX12_next_244 ?_
    refine fpL_12_17 (k := 387) hx hb hts in_X12_next_12 hown hK hP (by decide) (by decide) (hts _ lk_X12_next_172) hI hS dX12_next_245 (fun τ5 H5 locs5 uL5 vL5 hP hS => ?_)
    have uw := uL5
    have vw := vL5
    have hFL := hFL.puts uL5 0 rfl (by decide) (by decide) (by decide) (by decide)
    exact K248 σ τ5 H5 locs5 x1 x2 w0 ln ls hR hF hFL hP hS (by omega) (by omega) (by omega) (by omega) (by omega) (by omega) (by omega) (by omega) (by omega) (by omega) (by omega) (by omega) (by omega) (by omega) (by first | exact iss | (rw [hqp]; omega)) (by first | exact irq | exact hrn) (by first | exact ine | exact hne) (by exact irr) (by first | exact irl | exact hrl) (by exact iaa) (by first | exact Or.inl (by omega) | (rw [vw]; exact MWs iww (by omega) irr hb240 irl (by omega))) (by first | exact inn | exact Or.inr (by show _ = (0 : Int); omega) | exact Or.inl (by omega) | (have hm := MNs inn (by omega) irr hb265 irl; omega)) gMT (lv_sub hl [1, 2, 3, 0] rfl) (by omega)
set_option maxHeartbeats 4000000 in
theorem B_X12_next_v_248 (p : Program) (l : Launch) (e : Env) (s : State) (m : MethodId) (args : Array Value) (below : List Frame) (meth : Method) (c : Code) (D : va_G) (cA : Nat → ClassId) (ad : Nat → Nat) (σ0 : Nat → Nat → Int32) (τ0 : Nat → Nat → Int64) (b : Nat → Int) (N : Nat) (mo : Nat) (qn : Nat) (n : Nat) (C : Cy p s m args meth c cX12_next 4 wsX12_next RX12 D cA ad none) (hpre0 : MP σ0 b N mo qn) (gMT0 : MT σ0 b N mo) (K0 : J_X12_next_v_0 p l e s m args below meth c D cA ad σ0 τ0 b N mo qn n) (K181 : J_X12_next_v_181 p l e s m args below meth c D cA ad σ0 τ0 b N mo qn n) (K221 : J_X12_next_v_221 p l e s m args below meth c D cA ad σ0 τ0 b N mo qn n) (K248 : J_X12_next_v_248 p l e s m args below meth c D cA ad σ0 τ0 b N mo qn n) : J_X12_next_v_248 p l e s m args below meth c D cA ad σ0 τ0 b N mo qn (n + 1) := by
  obtain ⟨hx, hb, hml, hown, hts, hK, hk, hr, hI, hN⟩ := C
  intro σ τ H locs x1 x2 x3 ln ls hR hF hFL hP hS hc0 hc1 hc2 hc3 hc4 hc5 hc6 hc7 imo ilt ip4 ipN isp iat iss irq ine irr irl iaa iww inn gMT hl hm
  have hms := gMT.1
  have hmx := gMT.2.2.1
  refine lv_aload_n hx hb dX12_next_248 rfl (lv_at hl 0 rfl) ?_
  refine fg_12_13 (k := 387) hx hb hts in_X12_next_12 hown hK hP (by decide) (by decide) (hts _ lk_X12_next_156) dX12_next_249 ?_
  refine r_iconst hx hb dX12_next_252 (by decide) (fun z1 ez1 => ?_)
  refine r_icmp_ge (tgt := 275) hx hb dX12_next_253 (by decide) (fun c2 => ?_) (fun c2 => ?_)
  · refine lv_aload_n hx hb dX12_next_275 rfl (lv_at hl 0 rfl) ?_
    refine lv_dup hx hb dX12_next_276 rfl ?_
    refine fg_12_13 (k := 387) hx hb hts in_X12_next_12 hown hK hP (by decide) (by decide) (hts _ lk_X12_next_156) dX12_next_277 ?_
    refine r_iconst hx hb dX12_next_280 (by decide) (fun z3 ez3 => ?_)
    refine r_iadd hx hb dX12_next_281 (by omega) (fun z4 ez4 => ?_)
    refine fp_12_13 (k := 387) hx hb hts in_X12_next_12 hown hK hP (by decide) (by decide) (hts _ lk_X12_next_156) hI hR hS dX12_next_282 (fun σ5 H5 locs5 u5 v5 hR hP hS => ?_)
    have hF := hF.puts u5 1 rfl (by decide) (by decide) (by decide) (by decide)
    have gMT := gMT.ag (Agr.put u5 (by decide))
    have t6 : (σ5 387 4).toInt = (σ 387 4).toInt := congrArg Int32.toInt (u5 387 4 (by omega))
    have t7 : (σ5 387 3).toInt = (σ 387 3).toInt := congrArg Int32.toInt (u5 387 3 (by omega))
    have t8 : (σ5 387 5).toInt = (σ 387 5).toInt := congrArg Int32.toInt (u5 387 5 (by omega))
    have t9 : (σ5 387 11).toInt = (σ 387 11).toInt := congrArg Int32.toInt (u5 387 11 (by omega))
    have t10 : (σ5 387 12).toInt = (σ 387 12).toInt := congrArg Int32.toInt (u5 387 12 (by omega))
    have t11 : (σ5 387 14).toInt = (σ 387 14).toInt := congrArg Int32.toInt (u5 387 14 (by omega))
    refine lv_aload_n hx hb dX12_next_285 rfl (lv_at hl 0 rfl) ?_
    refine lv_dup hx hb dX12_next_286 rfl ?_
    refine fg_12_4 (k := 387) hx hb hts in_X12_next_12 hown hK hP (by decide) (by decide) (hts _ lk_X12_next_21) dX12_next_287 ?_
    refine r_iconst hx hb dX12_next_290 (by decide) (fun z12 ez12 => ?_)
    refine r_iadd hx hb dX12_next_291 (by omega) (fun z13 ez13 => ?_)
    refine fp_12_4 (k := 387) hx hb hts in_X12_next_12 hown hK hP (by decide) (by decide) (hts _ lk_X12_next_21) hI hR hS (by omega) dX12_next_292 (fun σ14 H14 locs14 u14 v14 hR hP hS => ?_)
    have hF := hF.puts u14 0 rfl (by decide) (by decide) (by decide) (by decide)
    have gMT := gMT.ag (Agr.put u14 (by decide))
    have t15 : (σ14 387 3).toInt = (σ5 387 3).toInt := congrArg Int32.toInt (u14 387 3 (by omega))
    have t16 : (σ14 387 5).toInt = (σ5 387 5).toInt := congrArg Int32.toInt (u14 387 5 (by omega))
    have t17 : (σ14 387 11).toInt = (σ5 387 11).toInt := congrArg Int32.toInt (u14 387 11 (by omega))
    have t18 : (σ14 387 12).toInt = (σ5 387 12).toInt := congrArg Int32.toInt (u14 387 12 (by omega))
    have t19 : (σ14 387 14).toInt = (σ5 387 14).toInt := congrArg Int32.toInt (u14 387 14 (by omega))
    have t20 : (σ14 387 13).toInt = (σ5 387 13).toInt := congrArg Int32.toInt (u14 387 13 (by omega))
    refine lv_goto (tgt := 181) hx hb dX12_next_295 (by decide) ?_
    exact K181 σ14 τ H14 locs14 x1 x2 x3 (ln + 1) ls hR hF hFL hP hS (by omega) (by omega) (by omega) (by omega) (by omega) (by omega) (by omega) (by omega) (by omega) (by omega) (by omega) (by omega) (by omega) (by first | exact iss | (rw [hqp]; omega)) (by first | exact irq | exact hrn) (by first | exact ine | exact hne) (by first | exact (fun i hi => absurd hi (Nat.not_lt_zero i)) | exact rn_s irr irl) (by first | exact iaa | (have h0 : dgc b qn 0 = 0 := rfl; omega)) (by first | exact iww | exact Or.inr (by rw [vw0]; rfl)) (by first | exact inn | exact Or.inr (by show _ = (0 : Int); omega) | exact Or.inl (by omega) | (have hm := MNs inn (by omega) irr hb265 irl; omega)) gMT (lv_sub hl [0, 1, 2, 3] rfl) (by omega)
  · refine lv_aload_n hx hb dX12_next_256 rfl (lv_at hl 0 rfl) ?_
    refine lv_bipush (v := 10) hx hb dX12_next_257 (by decide) ?_
    have kcz21 : (10 : Int32).toInt = 10 := rfl
    refine lv_aload_n hx hb dX12_next_259 rfl (lv_at hl 0 rfl) ?_
    refine fg_12_14 (k := 387) hx hb hts in_X12_next_12 hown hK hP (by decide) (by decide) (hts _ lk_X12_next_169) dX12_next_260 ?_
    refine lv_imul hx hb dX12_next_263 ?_
    refine lv_aload_n hx hb dX12_next_264 rfl (lv_at hl 0 rfl) ?_
    refine r_cVi (k := 387) (As := []) (rest := [.int (10 * (σ 387 14)), .ref (ad 387)]) ⟨hx, hb, hml, hown, hts⟩ hK hP hN hS (c_X12_peek_v l D cA ad hI σ τ hR b N mo (qn + ln) (by omega) gMT) (cwV 0 hts gX12_next_X12_peek rfl rfl rfl (by decide +kernel) ⟨by decide, by decide⟩) (rv_M hK hP (by decide) (by decide)) rfl hl.1 rfl (Nat.le_of_ble_eq_true rfl) dX12_next_265 (Nat.zero_le _) (Nat.zero_le _) (fun r22 u22 H22 locs22 hp22 hP hS => ?_)
    obtain ⟨σ22, τ22⟩ := u22
    obtain ⟨hR, f22, fL22, hq22, hp22_0, gnMT⟩ : P_X12_peek_v σ τ b N mo (qn + ln) r22 σ22 τ22 := hp22
    have hP : va_P D vwCl (gw cA ad σ22 τ22) H22 := hP
    obtain rfl := FrL.nil fL22
    obtain rfl := Fr.nil f22
    have hb265 : r22.toInt = b (qn + ln) := by omega
    refine lv_iadd hx hb dX12_next_268 ?_
    refine lv_bipush (v := 48) hx hb dX12_next_269 (by decide) ?_
    have kcz23 : (48 : Int32).toInt = 48 := rfl
    refine lv_isub hx hb dX12_next_271 ?_
    refine fp_12_14 (k := 387) hx hb hts in_X12_next_12 hown hK hP (by decide) (by decide) (hts _ lk_X12_next_169) hI hR hS dX12_next_272 (fun σ24 H24 locs24 u24 v24 hR hP hS => ?_)
    have hF := hF.puts u24 1 rfl (by decide) (by decide) (by decide) (by decide)
    have gMT := gMT.ag (Agr.put u24 (by decide))
    have t25 : (σ24 387 4).toInt = (σ 387 4).toInt := congrArg Int32.toInt (u24 387 4 (by omega))
    have t26 : (σ24 387 3).toInt = (σ 387 3).toInt := congrArg Int32.toInt (u24 387 3 (by omega))
    have t27 : (σ24 387 5).toInt = (σ 387 5).toInt := congrArg Int32.toInt (u24 387 5 (by omega))
    have t28 : (σ24 387 11).toInt = (σ 387 11).toInt := congrArg Int32.toInt (u24 387 11 (by omega))
    have t29 : (σ24 387 12).toInt = (σ 387 12).toInt := congrArg Int32.toInt (u24 387 12 (by omega))
    have t30 : (σ24 387 13).toInt = (σ 387 13).toInt := congrArg Int32.toInt (u24 387 13 (by omega))
    refine lv_aload_n hx hb dX12_next_275 rfl (lv_at hl 0 rfl) ?_
    refine lv_dup hx hb dX12_next_276 rfl ?_
    refine fg_12_13 (k := 387) hx hb hts in_X12_next_12 hown hK hP (by decide) (by decide) (hts _ lk_X12_next_156) dX12_next_277 ?_
    refine r_iconst hx hb dX12_next_280 (by decide) (fun z31 ez31 => ?_)
    refine r_iadd hx hb dX12_next_281 (by omega) (fun z32 ez32 => ?_)
    refine fp_12_13 (k := 387) hx hb hts in_X12_next_12 hown hK hP (by decide) (by decide) (hts _ lk_X12_next_156) hI hR hS dX12_next_282 (fun σ33 H33 locs33 u33 v33 hR hP hS => ?_)
    have hF := hF.puts u33 1 rfl (by decide) (by decide) (by decide) (by decide)
    have gMT := gMT.ag (Agr.put u33 (by decide))
    have t34 : (σ33 387 4).toInt = (σ24 387 4).toInt := congrArg Int32.toInt (u33 387 4 (by omega))
    have t35 : (σ33 387 3).toInt = (σ24 387 3).toInt := congrArg Int32.toInt (u33 387 3 (by omega))
    have t36 : (σ33 387 5).toInt = (σ24 387 5).toInt := congrArg Int32.toInt (u33 387 5 (by omega))
    have t37 : (σ33 387 11).toInt = (σ24 387 11).toInt := congrArg Int32.toInt (u33 387 11 (by omega))
    have t38 : (σ33 387 12).toInt = (σ24 387 12).toInt := congrArg Int32.toInt (u33 387 12 (by omega))
    have t39 : (σ33 387 14).toInt = (σ24 387 14).toInt := congrArg Int32.toInt (u33 387 14 (by omega))
    refine lv_aload_n hx hb dX12_next_285 rfl (lv_at hl 0 rfl) ?_
    refine lv_dup hx hb dX12_next_286 rfl ?_
    refine fg_12_4 (k := 387) hx hb hts in_X12_next_12 hown hK hP (by decide) (by decide) (hts _ lk_X12_next_21) dX12_next_287 ?_
    refine r_iconst hx hb dX12_next_290 (by decide) (fun z40 ez40 => ?_)
    refine r_iadd hx hb dX12_next_291 (by omega) (fun z41 ez41 => ?_)
    refine fp_12_4 (k := 387) hx hb hts in_X12_next_12 hown hK hP (by decide) (by decide) (hts _ lk_X12_next_21) hI hR hS (by omega) dX12_next_292 (fun σ42 H42 locs42 u42 v42 hR hP hS => ?_)
    have hF := hF.puts u42 0 rfl (by decide) (by decide) (by decide) (by decide)
    have gMT := gMT.ag (Agr.put u42 (by decide))
    have t43 : (σ42 387 3).toInt = (σ33 387 3).toInt := congrArg Int32.toInt (u42 387 3 (by omega))
    have t44 : (σ42 387 5).toInt = (σ33 387 5).toInt := congrArg Int32.toInt (u42 387 5 (by omega))
    have t45 : (σ42 387 11).toInt = (σ33 387 11).toInt := congrArg Int32.toInt (u42 387 11 (by omega))
    have t46 : (σ42 387 12).toInt = (σ33 387 12).toInt := congrArg Int32.toInt (u42 387 12 (by omega))
    have t47 : (σ42 387 14).toInt = (σ33 387 14).toInt := congrArg Int32.toInt (u42 387 14 (by omega))
    have t48 : (σ42 387 13).toInt = (σ33 387 13).toInt := congrArg Int32.toInt (u42 387 13 (by omega))
    refine lv_goto (tgt := 181) hx hb dX12_next_295 (by decide) ?_
    exact K181 σ42 τ H42 locs42 x1 x2 x3 (ln + 1) ls hR hF hFL hP hS (by omega) (by omega) (by omega) (by omega) (by omega) (by omega) (by omega) (by omega) (by omega) (by omega) (by omega) (by omega) (by omega) (by first | exact iss | (rw [hqp]; omega)) (by first | exact irq | exact hrn) (by first | exact ine | exact hne) (by first | exact (fun i hi => absurd hi (Nat.not_lt_zero i)) | exact rn_s irr irl) (by first | exact iaa | (have h0 : dgc b qn 0 = 0 := rfl; omega)) (by first | exact iww | exact Or.inr (by rw [vw0]; rfl)) (by first | exact inn | exact Or.inr (by show _ = (0 : Int); omega) | exact Or.inl (by omega) | (have hm := MNs inn (by omega) irr hb265 irl; omega)) gMT (lv_sub hl [0, 1, 2, 3] rfl) (by omega)
theorem A_X12_next_v (p : Program) (l : Launch) (e : Env) (s : State) (m : MethodId) (args : Array Value) (below : List Frame) (meth : Method) (c : Code) (D : va_G) (cA : Nat → ClassId) (ad : Nat → Nat) (σ0 : Nat → Nat → Int32) (τ0 : Nat → Nat → Int64) (b : Nat → Int) (N : Nat) (mo : Nat) (qn : Nat) (C : Cy p s m args meth c cX12_next 4 wsX12_next RX12 D cA ad none) (hpre0 : MP σ0 b N mo qn) (gMT0 : MT σ0 b N mo) : ∀ n : Nat, J_X12_next_v_0 p l e s m args below meth c D cA ad σ0 τ0 b N mo qn n ∧ J_X12_next_v_181 p l e s m args below meth c D cA ad σ0 τ0 b N mo qn n ∧ J_X12_next_v_221 p l e s m args below meth c D cA ad σ0 τ0 b N mo qn n ∧ J_X12_next_v_248 p l e s m args below meth c D cA ad σ0 τ0 b N mo qn n := by
  intro n
  induction n with
  | zero =>
    exact ⟨(by intro σ τ H locs pp ls hR hF hFL hP hS hc0 hc1 hc2 imo ipp ipn ipq gMT hl hm; exfalso; omega), (by intro σ τ H locs x1 x2 x3 ln ls hR hF hFL hP hS hc0 hc1 hc2 hc3 hc4 hc5 hc6 hc7 imo ip4 ipN isp iat iss irq ine irr iaa iww inn gMT hl hm; exfalso; omega), (by intro σ τ H locs x1 x2 x3 w0 ln ls hR hF hFL hP hS hc0 hc1 hc2 hc3 hc4 hc5 hc6 hc7 hc8 imo ilt ip4 ipN isp iat iss irq ine irr irl iaa iww inn gMT hl hm; exfalso; omega), (by intro σ τ H locs x1 x2 x3 ln ls hR hF hFL hP hS hc0 hc1 hc2 hc3 hc4 hc5 hc6 hc7 imo ilt ip4 ipN isp iat iss irq ine irr irl iaa iww inn gMT hl hm; exfalso; omega)⟩
  | succ n ih =>
    exact ⟨B_X12_next_v_0 p l e s m args below meth c D cA ad σ0 τ0 b N mo qn n C hpre0 gMT0 ih.1 ih.2.1 ih.2.2.1 ih.2.2.2, B_X12_next_v_181 p l e s m args below meth c D cA ad σ0 τ0 b N mo qn n C hpre0 gMT0 ih.1 ih.2.1 ih.2.2.1 ih.2.2.2, B_X12_next_v_221 p l e s m args below meth c D cA ad σ0 τ0 b N mo qn n C hpre0 gMT0 ih.1 ih.2.1 ih.2.2.1 ih.2.2.2, B_X12_next_v_248 p l e s m args below meth c D cA ad σ0 τ0 b N mo qn n C hpre0 gMT0 ih.1 ih.2.1 ih.2.2.1 ih.2.2.2⟩
set_option maxHeartbeats 4000000 in
theorem c_X12_next_v (l : Launch) (D : va_G) (cA : Nat → ClassId) (ad : Nat → Nat) (hI : Inj ad) (σ0 : Nat → Nat → Int32) (τ0 : Nat → Nat → Int64) (hR : Rg σ0) (b : Nat → Int) (N : Nat) (mo : Nat) (qn : Nat) (hpre0 : MP σ0 b N mo qn) (gMT0 : MT σ0 b N mo) : Met l yX12_next wsX12_next ({ frames := 1, cells := 0, slots := 0, locals := 20 } : Room) (WQc D cA ad [.ref (ad 387)] σ0 τ0) (va_Qv (fun u : SS => P_X12_next_v σ0 τ0 b N mo qn u.1 u.2) (WB D cA ad) (AA ad)) 0 0 (AA ad) := by
  refine Met.ofW (cc := cX12_next) (maxL := 4) (ret := none) (by decide) rfl ?_
  intro p e s m args below meth c s₁ B hml hv
  obtain ⟨rfl, hP, hK, hN⟩ := hv
  have C : Cy p s m _ meth c cX12_next 4 wsX12_next RX12 D cA ad none := ⟨B.exec, B.bytes, hml, findClass_of_methodNamed B.named, atoms_spec (ws := wsX12_next) B.pre, hK, B.notSynchronized, B.returns, hI, hN⟩
  have hl := lv_entry ([.ref (ad 387)]) (n := 4) (Nat.le_of_ble_eq_true rfl)
  rw [lg_entry_eq]
  generalize (lg_sl ([.ref (ad 387)]) ++ List.replicate (4 - (lg_sl ([.ref (ad 387)])).length) Slot.unset).toArray = ls at hl ⊢
  have hl : lv_has ls 4 [(0, .ref (ad 387))] := hl
  have hS : va_S (AA ad) s.heap s.heap [] := va_S.rf
  have hF : Fr L_X12_next_v σ0 σ0 := Fr.rf
  have hFL : FrL LL_X12_next_v τ0 τ0 := FrL.rf
  have gMT := gMT0
  obtain ⟨p0, hp0, hp1, hp2⟩ := id hpre0
  have hA := A_X12_next_v p l e s m _ below meth c D cA ad σ0 τ0 b N mo qn C hpre0 gMT0 7100795
  have K0 := hA.1
  have K181 := hA.2.1
  have K221 := hA.2.2.1
  have K248 := hA.2.2.2
  clear hA
  obtain ⟨hx, hb, _, hown, hts, _, hk, hr, _, _⟩ := C
  have hrt4 := rg_12_4 hR (k := 387) (by decide) (by decide)
  have hrt3 := rg_12_3 hR (k := 387) (by decide) (by decide)
  have hrt5 := rg_12_5 hR (k := 387) (by decide) (by decide)
  exact K0 σ0 τ0 s.heap [] p0 ls hR hF hFL hP hS (by omega) (by omega) (by omega) (by omega) (by omega) (by omega) (by first | exact hp2 | (rw [skpE_step (by omega) (by omega)]; exact ipq)) gMT (lv_sub hl [0] rfl) (by omega)
