theorem in_X12_four_12 : ∀ w ∈ u_ws RX12 TX12 47, w ∈ wsX12_four := by decide +kernel
theorem lk_X12_four_14 : Cond.fieldLink RX12 14 "CuckooSharesModel" "tape" "[B" ∈ wsX12_four := by decide +kernel
theorem lk_X12_four_7 : Cond.fieldLink RX12 7 "CuckooSharesModel" "length" "I" ∈ wsX12_four := by decide +kernel
abbrev L_X12_four : List Rc := [(388, 388, 0, 939), (387, 387, 2, 2)]
def P_X12_four (σ0 : Nat → Nat → Int32) (a1 : Int32) (σ : Nat → Nat → Int32) : Prop := Rg σ ∧ Fr L_X12_four σ0 σ ∧ ((σ 387 2).toInt = (σ0 387 2).toInt + 4)
def J_X12_four_3 (p : Program) (l : Launch) (e : Env) (s : State) (m : MethodId) (args : Array Value) (below : List Frame) (meth : Method) (c : Code) (D : va_G) (cA : Nat → ClassId) (ad : Nat → Nat) (σ0 : Nat → Nat → Int32) (a1 : Int32) (n : Nat) : Prop := ∀ (σ : Nat → Nat → Int32) (τ : Nat → Nat → Int64) (H : Heap) (locs : List Loc) (x2 : Int32) (ls : Array Slot), Rg σ → Fr L_X12_four σ0 σ → va_P D vwCl (gw cA ad σ τ) H → va_S (AA ad) s.heap H locs → (-8 ≤ x2.toInt ∧ x2.toInt ≤ 24) → (0 ≤ (σ 387 2).toInt ∧ (σ 387 2).toInt ≤ 940) → (8 * (σ 387 2).toInt = 8 * (σ0 387 2).toInt + 24 - x2.toInt) → lv_has ls 3 [(0, .ref (ad 387)), (1, .int a1), (2, .int x2)] → 2 * (x2.toInt - -8) + 1 < (n : Int) → W p l e ({ frames := 0, cells := 0, slots := 0, locals := 0 } : Room) s m args below meth c H locs 0 0 (MQ below (va_Qv (fun u : SS => P_X12_four σ0 a1 u.1) (WB D cA ad) (AA ad)) args s 0 0 (AA ad)) (F0 m 3 ls [])
set_option maxHeartbeats 4000000 in
theorem B_X12_four_3 (p : Program) (l : Launch) (e : Env) (s : State) (m : MethodId) (args : Array Value) (below : List Frame) (meth : Method) (c : Code) (D : va_G) (cA : Nat → ClassId) (ad : Nat → Nat) (σ0 : Nat → Nat → Int32) (a1 : Int32) (n : Nat) (C : Cy p s m args meth c cX12_four 3 wsX12_four RX12 D cA ad none) (hq0 : (σ0 387 2).toInt ≤ 936) (K3 : J_X12_four_3 p l e s m args below meth c D cA ad σ0 a1 n) : J_X12_four_3 p l e s m args below meth c D cA ad σ0 a1 (n + 1) := by
  obtain ⟨hx, hb, hml, hown, hts, hK, hk, hr, hI, hN⟩ := C
  intro σ τ H locs x2 ls hR hF hP hS hc0 hc1 hi0 hl hm
  refine lv_iload_n hx hb dX12_four_3 rfl (lv_at hl 2 rfl) ?_
  refine r_if_lt (tgt := 36) hx hb dX12_four_4 (by decide) (fun c1 => ?_) (fun c1 => ?_)
  · exact r_vret hx hb hr hK hP hS hk dX12_four_36 (show P_X12_four σ0 a1 σ from ⟨hR, hF, by omega⟩)
  · refine lv_aload_n hx hb dX12_four_7 rfl (lv_at hl 0 rfl) ?_
    refine fg_12_1 (k := 387) hx hb hts in_X12_four_12 hown hK hP (by decide) (by decide) (hts _ lk_X12_four_14) dX12_four_8 ?_
    refine lv_aload_n hx hb dX12_four_11 rfl (lv_at hl 0 rfl) ?_
    refine fg_12_2 (k := 387) hx hb hts in_X12_four_12 hown hK hP (by decide) (by decide) (hts _ lk_X12_four_7) dX12_four_12 ?_
    refine lv_iload_n hx hb dX12_four_15 rfl (lv_at hl 1 rfl) ?_
    refine lv_iload_n hx hb dX12_four_16 rfl (lv_at hl 2 rfl) ?_
    refine r_ishrU hx hb dX12_four_17 (fun z2 => ?_)
    refine r_i2b hx hb dX12_four_18 (fun z3 => ?_)
    obtain ⟨j4, ej4⟩ : ∃ j : Nat, (σ 387 2).toInt = (j : Int) := ⟨_, ti_nat (by omega)⟩
    refine as_mtape (k := 388) (j := j4) hx hb hK hP hI hR hS (by decide) (by decide) ej4 (by omega) dX12_four_19 (fun σ5 H5 locs5 u5 hR hP hS => ?_)
    have hF := hF.puts u5 0 rfl (by decide) (by decide) (by omega) (by omega)
    have t6 : (σ5 387 2).toInt = (σ 387 2).toInt := congrArg Int32.toInt (u5 387 2 (by omega))
    refine lv_aload_n hx hb dX12_four_20 rfl (lv_at hl 0 rfl) ?_
    refine lv_dup hx hb dX12_four_21 rfl ?_
    refine fg_12_2 (k := 387) hx hb hts in_X12_four_12 hown hK hP (by decide) (by decide) (hts _ lk_X12_four_7) dX12_four_22 ?_
    refine r_iconst hx hb dX12_four_25 (by decide) (fun z7 ez7 => ?_)
    refine r_iadd hx hb dX12_four_26 (by omega) (fun z8 ez8 => ?_)
    refine fp_12_2 (k := 387) hx hb hts in_X12_four_12 hown hK hP (by decide) (by decide) (hts _ lk_X12_four_7) hI hR hS (by omega) dX12_four_27 (fun σ9 H9 locs9 u9 v9 hR hP hS => ?_)
    have hF := hF.puts u9 1 rfl (by decide) (by decide) (by decide) (by decide)
    refine r_iinc (k := 2) (lv1 := fun z10 => [(2, .int z10), (0, .ref (ad 387)), (1, .int a1)]) hx hb dX12_four_30 hl rfl (by decide) (fun _ => rfl) (by decide) (by omega) (fun z10 ls ez10 hl => ?_)
    refine lv_goto (tgt := 3) hx hb dX12_four_33 (by decide) ?_
    exact K3 σ9 τ H9 locs9 z10 ls hR hF hP hS (by omega) (by omega) (by omega) (lv_sub hl [1, 2, 0] rfl) (by omega)
theorem A_X12_four (p : Program) (l : Launch) (e : Env) (s : State) (m : MethodId) (args : Array Value) (below : List Frame) (meth : Method) (c : Code) (D : va_G) (cA : Nat → ClassId) (ad : Nat → Nat) (σ0 : Nat → Nat → Int32) (a1 : Int32) (C : Cy p s m args meth c cX12_four 3 wsX12_four RX12 D cA ad none) (hq0 : (σ0 387 2).toInt ≤ 936) : ∀ n : Nat, J_X12_four_3 p l e s m args below meth c D cA ad σ0 a1 n := by
  intro n
  induction n with
  | zero =>
    exact (by intro σ τ H locs x2 ls hR hF hP hS hc0 hc1 hi0 hl hm; exfalso; omega)
  | succ n ih =>
    exact B_X12_four_3 p l e s m args below meth c D cA ad σ0 a1 n C hq0 ih
set_option maxHeartbeats 4000000 in
theorem c_X12_four (l : Launch) (D : va_G) (cA : Nat → ClassId) (ad : Nat → Nat) (hI : Inj ad) (σ0 : Nat → Nat → Int32) (τ0 : Nat → Nat → Int64) (hR : Rg σ0) (a1 : Int32) (hq0 : (σ0 387 2).toInt ≤ 936) : Met l yX12_four wsX12_four ({ frames := 0, cells := 0, slots := 0, locals := 0 } : Room) (WQc D cA ad [.ref (ad 387), .int a1] σ0 τ0) (va_Qv (fun u : SS => P_X12_four σ0 a1 u.1) (WB D cA ad) (AA ad)) 0 0 (AA ad) := by
  refine Met.ofW (cc := cX12_four) (maxL := 3) (ret := none) (by decide) rfl ?_
  intro p e s m args below meth c s₁ B hml hv
  obtain ⟨rfl, hP, hK, hN⟩ := hv
  have C : Cy p s m _ meth c cX12_four 3 wsX12_four RX12 D cA ad none := ⟨B.exec, B.bytes, hml, findClass_of_methodNamed B.named, atoms_spec (ws := wsX12_four) B.pre, hK, B.notSynchronized, B.returns, hI, hN⟩
  have hl := lv_entry ([.ref (ad 387), .int a1]) (n := 3) (Nat.le_of_ble_eq_true rfl)
  rw [lg_entry_eq]
  generalize (lg_sl ([.ref (ad 387), .int a1]) ++ List.replicate (3 - (lg_sl ([.ref (ad 387), .int a1])).length) Slot.unset).toArray = ls at hl ⊢
  have hl : lv_has ls 3 [(0, .ref (ad 387)), (1, .int a1)] := hl
  have hS : va_S (AA ad) s.heap s.heap [] := va_S.rf
  have hF : Fr L_X12_four σ0 σ0 := Fr.rf
  have hA := A_X12_four p l e s m _ below meth c D cA ad σ0 a1 C hq0 138
  have K3 := hA
  clear hA
  obtain ⟨hx, hb, _, hown, hts, _, hk, hr, _, _⟩ := C
  have hrt2 := rg_12_2 hR (k := 387) (by decide) (by decide)
  refine r_bipush hx hb dX12_four_0 (by decide) (fun z1 ez1 => ?_)
  refine lv_istore_n (lv' := [(2, .int z1), (0, .ref (ad 387)), (1, .int a1)]) hx hb dX12_four_2 rfl hl (by decide) rfl (fun ls hl => ?_)
  exact K3 σ0 τ0 s.heap [] z1 ls hR hF hP hS (by omega) (by omega) (by omega) (lv_sub hl [1, 2, 0] rfl) (by omega)
theorem in_X12_feed_12 : ∀ w ∈ u_ws RX12 TX12 47, w ∈ wsX12_feed := by decide +kernel
theorem lk_X12_feed_1 : Cond.fieldLink RX12 1 "CuckooSharesModel" "thrown" "I" ∈ wsX12_feed := by decide +kernel
theorem lk_X12_feed_7 : Cond.fieldLink RX12 7 "CuckooSharesModel" "length" "I" ∈ wsX12_feed := by decide +kernel
abbrev L_X12_feed : List Rc := [(387, 387, 0, 0), (388, 388, 0, 939), (387, 387, 2, 2)]
def P_X12_feed (σ0 : Nat → Nat → Int32) (a1 : Int32) (a2 : Int32) (a3 : Int32) (a4 : Int32) (a5 : Int32) (r : Int32) (σ : Nat → Nat → Int32) : Prop := Rg σ ∧ Fr L_X12_feed σ0 σ ∧ (-1 ≤ r.toInt ∧ r.toInt ≤ 940) ∧ ((r.toInt = -1 ∧ (σ 387 2).toInt = (σ0 387 2).toInt ∧ 920 < (σ0 387 2).toInt) ∨ (r.toInt = (σ 387 2).toInt ∧ (σ 387 2).toInt = (σ0 387 2).toInt + 20 ∧ (σ0 387 2).toInt ≤ 920))
set_option maxHeartbeats 4000000 in
theorem c_X12_feed (l : Launch) (D : va_G) (cA : Nat → ClassId) (ad : Nat → Nat) (hI : Inj ad) (σ0 : Nat → Nat → Int32) (τ0 : Nat → Nat → Int64) (hR : Rg σ0) (a1 : Int32) (a2 : Int32) (a3 : Int32) (a4 : Int32) (a5 : Int32)  : Met l yX12_feed wsX12_feed ({ frames := 1, cells := 0, slots := 0, locals := 22 } : Room) (WQc D cA ad [.ref (ad 387), .int a1, .int a2, .int a3, .int a4, .int a5] σ0 τ0) (va_Qi (fun (r : Int32) (u : SS) => P_X12_feed σ0 a1 a2 a3 a4 a5 r u.1) (WB D cA ad) (AA ad)) 0 0 (AA ad) := by
  refine Met.ofW (cc := cX12_feed) (maxL := 6) (ret := (some .int)) (by decide) rfl ?_
  intro p e s m args below meth c s₁ B hml hv
  obtain ⟨rfl, hP, hK, hN⟩ := hv
  have C : Cy p s m _ meth c cX12_feed 6 wsX12_feed RX12 D cA ad (some .int) := ⟨B.exec, B.bytes, hml, findClass_of_methodNamed B.named, atoms_spec (ws := wsX12_feed) B.pre, hK, B.notSynchronized, B.returns, hI, hN⟩
  have hl := lv_entry ([.ref (ad 387), .int a1, .int a2, .int a3, .int a4, .int a5]) (n := 6) (Nat.le_of_ble_eq_true rfl)
  rw [lg_entry_eq]
  generalize (lg_sl ([.ref (ad 387), .int a1, .int a2, .int a3, .int a4, .int a5]) ++ List.replicate (6 - (lg_sl ([.ref (ad 387), .int a1, .int a2, .int a3, .int a4, .int a5])).length) Slot.unset).toArray = ls at hl ⊢
  have hl : lv_has ls 6 [(0, .ref (ad 387)), (1, .int a1), (2, .int a2), (3, .int a3), (4, .int a4), (5, .int a5)] := hl
  have hS : va_S (AA ad) s.heap s.heap [] := va_S.rf
  have hF : Fr L_X12_feed σ0 σ0 := Fr.rf
  obtain ⟨hx, hb, _, hown, hts, _, hk, hr, _, _⟩ := C
  have hrt2 := rg_12_2 hR (k := 387) (by decide) (by decide)
  refine lv_aload_n hx hb dX12_feed_0 rfl (lv_at hl 0 rfl) ?_
  refine r_iconst hx hb dX12_feed_1 (by decide) (fun z1 ez1 => ?_)
  refine fp_12_0 (k := 387) hx hb hts in_X12_feed_12 hown hK hP (by decide) (by decide) (hts _ lk_X12_feed_1) hI hR hS (by omega) dX12_feed_2 (fun σ2 H2 locs2 u2 v2 hR hP hS => ?_)
  have hF := hF.puts u2 0 rfl (by decide) (by decide) (by decide) (by decide)
  have t3 : (σ2 387 2).toInt = (σ0 387 2).toInt := congrArg Int32.toInt (u2 387 2 (by omega))
  refine lv_aload_n hx hb dX12_feed_5 rfl (lv_at hl 0 rfl) ?_
  refine fg_12_2 (k := 387) hx hb hts in_X12_feed_12 hown hK hP (by decide) (by decide) (hts _ lk_X12_feed_7) dX12_feed_6 ?_
  refine r_bipush hx hb dX12_feed_9 (by decide) (fun z4 ez4 => ?_)
  refine r_iadd hx hb dX12_feed_11 (by omega) (fun z5 ez5 => ?_)
  refine r_sipush hx hb dX12_feed_12 (by decide) (fun z6 ez6 => ?_)
  refine r_icmp_le (tgt := 20) hx hb dX12_feed_15 (by decide) (fun c7 => ?_) (fun c7 => ?_)
  · refine lv_aload_n hx hb dX12_feed_20 rfl (lv_at hl 0 rfl) ?_
    refine lv_iload_n hx hb dX12_feed_21 rfl (lv_at hl 1 rfl) ?_
    refine r_cVv (k := 387) (As := [.int a1]) (rest := []) ⟨hx, hb, hml, hown, hts⟩ hK hP hN hS (c_X12_four l D cA ad hI σ2 τ0 hR a1 (by omega)) (cwV 1 hts gX12_feed_X12_four rfl rfl rfl (by decide +kernel) ⟨by decide, by decide⟩) (rv_M hK hP (by decide) (by decide)) rfl hl.1 rfl (Nat.le_of_ble_eq_true rfl) dX12_feed_22 (Nat.zero_le _) (Nat.zero_le _) (fun u8 H8 locs8 hp8 hP hS => ?_)
    obtain ⟨σ8, τ8⟩ := u8
    obtain ⟨hR, f8, hp8_0⟩ : P_X12_four σ2 a1 σ8 := hp8
    have hP : va_P D vwCl (gw cA ad σ8 τ8) H8 := hP
    have hF := hF.step f8 (by decide)
    have hr9 := rg_12_2 hR (k := 387) (by decide) (by decide)
    refine lv_aload_n hx hb dX12_feed_25 rfl (lv_at hl 0 rfl) ?_
    refine lv_iload_n hx hb dX12_feed_26 rfl (lv_at hl 2 rfl) ?_
    refine r_cVv (k := 387) (As := [.int a2]) (rest := []) ⟨hx, hb, hml, hown, hts⟩ hK hP hN hS (c_X12_four l D cA ad hI σ8 τ8 hR a2 (by omega)) (cwV 1 hts gX12_feed_X12_four rfl rfl rfl (by decide +kernel) ⟨by decide, by decide⟩) (rv_M hK hP (by decide) (by decide)) rfl hl.1 rfl (Nat.le_of_ble_eq_true rfl) dX12_feed_27 (Nat.zero_le _) (Nat.zero_le _) (fun u10 H10 locs10 hp10 hP hS => ?_)
    obtain ⟨σ10, τ10⟩ := u10
    obtain ⟨hR, f10, hp10_0⟩ : P_X12_four σ8 a2 σ10 := hp10
    have hP : va_P D vwCl (gw cA ad σ10 τ10) H10 := hP
    have hF := hF.step f10 (by decide)
    have hr11 := rg_12_2 hR (k := 387) (by decide) (by decide)
    refine lv_aload_n hx hb dX12_feed_30 rfl (lv_at hl 0 rfl) ?_
    refine lv_iload_n hx hb dX12_feed_31 rfl (lv_at hl 3 rfl) ?_
    refine r_cVv (k := 387) (As := [.int a3]) (rest := []) ⟨hx, hb, hml, hown, hts⟩ hK hP hN hS (c_X12_four l D cA ad hI σ10 τ10 hR a3 (by omega)) (cwV 1 hts gX12_feed_X12_four rfl rfl rfl (by decide +kernel) ⟨by decide, by decide⟩) (rv_M hK hP (by decide) (by decide)) rfl hl.1 rfl (Nat.le_of_ble_eq_true rfl) dX12_feed_32 (Nat.zero_le _) (Nat.zero_le _) (fun u12 H12 locs12 hp12 hP hS => ?_)
    obtain ⟨σ12, τ12⟩ := u12
    obtain ⟨hR, f12, hp12_0⟩ : P_X12_four σ10 a3 σ12 := hp12
    have hP : va_P D vwCl (gw cA ad σ12 τ12) H12 := hP
    have hF := hF.step f12 (by decide)
    have hr13 := rg_12_2 hR (k := 387) (by decide) (by decide)
    refine lv_aload_n hx hb dX12_feed_35 rfl (lv_at hl 0 rfl) ?_
    refine lv_iload hx hb dX12_feed_36 (lv_at hl 4 rfl) ?_
    refine r_cVv (k := 387) (As := [.int a4]) (rest := []) ⟨hx, hb, hml, hown, hts⟩ hK hP hN hS (c_X12_four l D cA ad hI σ12 τ12 hR a4 (by omega)) (cwV 1 hts gX12_feed_X12_four rfl rfl rfl (by decide +kernel) ⟨by decide, by decide⟩) (rv_M hK hP (by decide) (by decide)) rfl hl.1 rfl (Nat.le_of_ble_eq_true rfl) dX12_feed_38 (Nat.zero_le _) (Nat.zero_le _) (fun u14 H14 locs14 hp14 hP hS => ?_)
    obtain ⟨σ14, τ14⟩ := u14
    obtain ⟨hR, f14, hp14_0⟩ : P_X12_four σ12 a4 σ14 := hp14
    have hP : va_P D vwCl (gw cA ad σ14 τ14) H14 := hP
    have hF := hF.step f14 (by decide)
    have hr15 := rg_12_2 hR (k := 387) (by decide) (by decide)
    refine lv_aload_n hx hb dX12_feed_41 rfl (lv_at hl 0 rfl) ?_
    refine lv_iload hx hb dX12_feed_42 (lv_at hl 5 rfl) ?_
    refine r_cVv (k := 387) (As := [.int a5]) (rest := []) ⟨hx, hb, hml, hown, hts⟩ hK hP hN hS (c_X12_four l D cA ad hI σ14 τ14 hR a5 (by omega)) (cwV 1 hts gX12_feed_X12_four rfl rfl rfl (by decide +kernel) ⟨by decide, by decide⟩) (rv_M hK hP (by decide) (by decide)) rfl hl.1 rfl (Nat.le_of_ble_eq_true rfl) dX12_feed_44 (Nat.zero_le _) (Nat.zero_le _) (fun u16 H16 locs16 hp16 hP hS => ?_)
    obtain ⟨σ16, τ16⟩ := u16
    obtain ⟨hR, f16, hp16_0⟩ : P_X12_four σ14 a5 σ16 := hp16
    have hP : va_P D vwCl (gw cA ad σ16 τ16) H16 := hP
    have hF := hF.step f16 (by decide)
    have hr17 := rg_12_2 hR (k := 387) (by decide) (by decide)
    refine lv_aload_n hx hb dX12_feed_47 rfl (lv_at hl 0 rfl) ?_
    refine fg_12_2 (k := 387) hx hb hts in_X12_feed_12 hown hK hP (by decide) (by decide) (hts _ lk_X12_feed_7) dX12_feed_48 ?_
    exact r_iret hx hb hr hK hP hS hk dX12_feed_51 (show P_X12_feed σ0 a1 a2 a3 a4 a5 (σ16 387 2) σ16 from ⟨hR, hF, by omega, by omega⟩)
  · refine r_iconst hx hb dX12_feed_18 (by decide) (fun z18 ez18 => ?_)
    exact r_iret hx hb hr hK hP hS hk dX12_feed_19 (show P_X12_feed σ0 a1 a2 a3 a4 a5 z18 σ2 from ⟨hR, hF, by omega, by omega⟩)
theorem in_X12_end_12 : ∀ w ∈ u_ws RX12 TX12 47, w ∈ wsX12_end := by decide +kernel
theorem lk_X12_end_1 : Cond.fieldLink RX12 1 "CuckooSharesModel" "thrown" "I" ∈ wsX12_end := by decide +kernel
theorem lk_X12_end_7 : Cond.fieldLink RX12 7 "CuckooSharesModel" "length" "I" ∈ wsX12_end := by decide +kernel
abbrev L_X12_end : List Rc := [(387, 387, 0, 0), (387, 387, 2, 2)]
def P_X12_end (σ0 : Nat → Nat → Int32) (a1 : Int32) (r : Int32) (σ : Nat → Nat → Int32) : Prop := Rg σ ∧ Fr L_X12_end σ0 σ ∧ (0 ≤ r.toInt ∧ r.toInt ≤ 1) ∧ ((r.toInt = 0 ∧ (σ 387 2).toInt = (σ0 387 2).toInt ∧ (a1.toInt < 0 ∨ (σ0 387 2).toInt < a1.toInt)) ∨ (r.toInt = 1 ∧ (σ 387 2).toInt = a1.toInt ∧ 0 ≤ a1.toInt ∧ a1.toInt ≤ (σ0 387 2).toInt))
set_option maxHeartbeats 4000000 in
theorem c_X12_end (l : Launch) (D : va_G) (cA : Nat → ClassId) (ad : Nat → Nat) (hI : Inj ad) (σ0 : Nat → Nat → Int32) (τ0 : Nat → Nat → Int64) (hR : Rg σ0) (a1 : Int32)  : Met l yX12_end wsX12_end ({ frames := 0, cells := 0, slots := 0, locals := 0 } : Room) (WQc D cA ad [.ref (ad 387), .int a1] σ0 τ0) (va_Qi (fun (r : Int32) (u : SS) => P_X12_end σ0 a1 r u.1) (WB D cA ad) (AA ad)) 0 0 (AA ad) := by
  refine Met.ofW (cc := cX12_end) (maxL := 2) (ret := (some .boolean)) (by decide) rfl ?_
  intro p e s m args below meth c s₁ B hml hv
  obtain ⟨rfl, hP, hK, hN⟩ := hv
  have C : Cy p s m _ meth c cX12_end 2 wsX12_end RX12 D cA ad (some .boolean) := ⟨B.exec, B.bytes, hml, findClass_of_methodNamed B.named, atoms_spec (ws := wsX12_end) B.pre, hK, B.notSynchronized, B.returns, hI, hN⟩
  have hl := lv_entry ([.ref (ad 387), .int a1]) (n := 2) (Nat.le_of_ble_eq_true rfl)
  rw [lg_entry_eq]
  generalize (lg_sl ([.ref (ad 387), .int a1]) ++ List.replicate (2 - (lg_sl ([.ref (ad 387), .int a1])).length) Slot.unset).toArray = ls at hl ⊢
  have hl : lv_has ls 2 [(0, .ref (ad 387)), (1, .int a1)] := hl
  have hS : va_S (AA ad) s.heap s.heap [] := va_S.rf
  have hF : Fr L_X12_end σ0 σ0 := Fr.rf
  obtain ⟨hx, hb, _, hown, hts, _, hk, hr, _, _⟩ := C
  have hrt2 := rg_12_2 hR (k := 387) (by decide) (by decide)
  refine lv_aload_n hx hb dX12_end_0 rfl (lv_at hl 0 rfl) ?_
  refine r_iconst hx hb dX12_end_1 (by decide) (fun z1 ez1 => ?_)
  refine fp_12_0 (k := 387) hx hb hts in_X12_end_12 hown hK hP (by decide) (by decide) (hts _ lk_X12_end_1) hI hR hS (by omega) dX12_end_2 (fun σ2 H2 locs2 u2 v2 hR hP hS => ?_)
  have hF := hF.puts u2 0 rfl (by decide) (by decide) (by decide) (by decide)
  have t3 : (σ2 387 2).toInt = (σ0 387 2).toInt := congrArg Int32.toInt (u2 387 2 (by omega))
  refine lv_iload_n hx hb dX12_end_5 rfl (lv_at hl 1 rfl) ?_
  refine r_if_lt (tgt := 17) hx hb dX12_end_6 (by decide) (fun c4 => ?_) (fun c4 => ?_)
  · refine r_iconst hx hb dX12_end_17 (by decide) (fun z5 ez5 => ?_)
    exact r_zret hx hb hr hK hP hS hk (by omega) dX12_end_18 (show P_X12_end σ0 a1 z5 σ2 from ⟨hR, hF, by omega, by omega⟩)
  · refine lv_iload_n hx hb dX12_end_9 rfl (lv_at hl 1 rfl) ?_
    refine lv_aload_n hx hb dX12_end_10 rfl (lv_at hl 0 rfl) ?_
    refine fg_12_2 (k := 387) hx hb hts in_X12_end_12 hown hK hP (by decide) (by decide) (hts _ lk_X12_end_7) dX12_end_11 ?_
    refine r_icmp_le (tgt := 19) hx hb dX12_end_14 (by decide) (fun c6 => ?_) (fun c6 => ?_)
    · refine lv_aload_n hx hb dX12_end_19 rfl (lv_at hl 0 rfl) ?_
      refine lv_iload_n hx hb dX12_end_20 rfl (lv_at hl 1 rfl) ?_
      refine fp_12_2 (k := 387) hx hb hts in_X12_end_12 hown hK hP (by decide) (by decide) (hts _ lk_X12_end_7) hI hR hS (by omega) dX12_end_21 (fun σ7 H7 locs7 u7 v7 hR hP hS => ?_)
      have hF := hF.puts u7 1 rfl (by decide) (by decide) (by decide) (by decide)
      refine r_iconst hx hb dX12_end_24 (by decide) (fun z8 ez8 => ?_)
      exact r_zret hx hb hr hK hP hS hk (by omega) dX12_end_25 (show P_X12_end σ0 a1 z8 σ7 from ⟨hR, hF, by omega, by omega⟩)
    · refine r_iconst hx hb dX12_end_17 (by decide) (fun z9 ez9 => ?_)
      exact r_zret hx hb hr hK hP hS hk (by omega) dX12_end_18 (show P_X12_end σ0 a1 z9 σ2 from ⟨hR, hF, by omega, by omega⟩)
theorem in_X12_bad_12 : ∀ w ∈ u_ws RX12 TX12 47, w ∈ wsX12_bad := by decide +kernel
theorem lk_X12_bad_153 : Cond.fieldLink RX12 153 "CuckooSharesModel" "at" "I" ∈ wsX12_bad := by decide +kernel
theorem lk_X12_bad_176 : Cond.fieldLink RX12 176 "CuckooSharesModel" "fault" "I" ∈ wsX12_bad := by decide +kernel
theorem lk_X12_bad_179 : Cond.fieldLink RX12 179 "CuckooSharesModel" "faultAt" "I" ∈ wsX12_bad := by decide +kernel
abbrev L_X12_bad : List Rc := [(387, 387, 15, 16)]
def P_X12_bad (σ0 : Nat → Nat → Int32) (a1 : Int32) (r : Int32) (σ : Nat → Nat → Int32) : Prop := Rg σ ∧ Fr L_X12_bad σ0 σ ∧ (0 ≤ r.toInt ∧ r.toInt ≤ 0)
set_option maxHeartbeats 4000000 in
theorem c_X12_bad (l : Launch) (D : va_G) (cA : Nat → ClassId) (ad : Nat → Nat) (hI : Inj ad) (σ0 : Nat → Nat → Int32) (τ0 : Nat → Nat → Int64) (hR : Rg σ0) (a1 : Int32) (ha1 : 1 ≤ a1.toInt ∧ a1.toInt ≤ 4) : Met l yX12_bad wsX12_bad ({ frames := 0, cells := 0, slots := 0, locals := 0 } : Room) (WQc D cA ad [.ref (ad 387), .int a1] σ0 τ0) (va_Qi (fun (r : Int32) (u : SS) => P_X12_bad σ0 a1 r u.1) (WB D cA ad) (AA ad)) 0 0 (AA ad) := by
  refine Met.ofW (cc := cX12_bad) (maxL := 2) (ret := (some .boolean)) (by decide) rfl ?_
  intro p e s m args below meth c s₁ B hml hv
  obtain ⟨rfl, hP, hK, hN⟩ := hv
  have C : Cy p s m _ meth c cX12_bad 2 wsX12_bad RX12 D cA ad (some .boolean) := ⟨B.exec, B.bytes, hml, findClass_of_methodNamed B.named, atoms_spec (ws := wsX12_bad) B.pre, hK, B.notSynchronized, B.returns, hI, hN⟩
  have hl := lv_entry ([.ref (ad 387), .int a1]) (n := 2) (Nat.le_of_ble_eq_true rfl)
  rw [lg_entry_eq]
  generalize (lg_sl ([.ref (ad 387), .int a1]) ++ List.replicate (2 - (lg_sl ([.ref (ad 387), .int a1])).length) Slot.unset).toArray = ls at hl ⊢
  have hl : lv_has ls 2 [(0, .ref (ad 387)), (1, .int a1)] := hl
  have hS : va_S (AA ad) s.heap s.heap [] := va_S.rf
  have hF : Fr L_X12_bad σ0 σ0 := Fr.rf
  obtain ⟨hx, hb, _, hown, hts, _, hk, hr, _, _⟩ := C
  refine lv_aload_n hx hb dX12_bad_0 rfl (lv_at hl 0 rfl) ?_
  refine lv_iload_n hx hb dX12_bad_1 rfl (lv_at hl 1 rfl) ?_
  refine fp_12_15 (k := 387) hx hb hts in_X12_bad_12 hown hK hP (by decide) (by decide) (hts _ lk_X12_bad_176) hI hR hS dX12_bad_2 (fun σ1 H1 locs1 u1 v1 hR hP hS => ?_)
  have hF := hF.puts u1 0 rfl (by decide) (by decide) (by decide) (by decide)
  refine lv_aload_n hx hb dX12_bad_5 rfl (lv_at hl 0 rfl) ?_
  refine lv_aload_n hx hb dX12_bad_6 rfl (lv_at hl 0 rfl) ?_
  refine fg_12_12 (k := 387) hx hb hts in_X12_bad_12 hown hK hP (by decide) (by decide) (hts _ lk_X12_bad_153) dX12_bad_7 ?_
  refine fp_12_16 (k := 387) hx hb hts in_X12_bad_12 hown hK hP (by decide) (by decide) (hts _ lk_X12_bad_179) hI hR hS dX12_bad_10 (fun σ2 H2 locs2 u2 v2 hR hP hS => ?_)
  have hF := hF.puts u2 0 rfl (by decide) (by decide) (by decide) (by decide)
  refine r_iconst hx hb dX12_bad_13 (by decide) (fun z3 ez3 => ?_)
  exact r_zret hx hb hr hK hP hS hk (by omega) dX12_bad_14 (show P_X12_bad σ0 a1 z3 σ2 from ⟨hR, hF, by omega⟩)
abbrev L_X12_bitOf : List Rc := []
def P_X12_bitOf (σ0 : Nat → Nat → Int32) (a0 : Int32) (a1 : Int32) (r : Int32) (σ : Nat → Nat → Int32) : Prop := Rg σ ∧ Fr L_X12_bitOf σ0 σ ∧ (0 ≤ r.toInt ∧ r.toInt ≤ 1) ∧ (r.toInt = BT a0 a1)
set_option maxHeartbeats 4000000 in
theorem c_X12_bitOf (l : Launch) (D : va_G) (cA : Nat → ClassId) (ad : Nat → Nat) (hI : Inj ad) (σ0 : Nat → Nat → Int32) (τ0 : Nat → Nat → Int64) (hR : Rg σ0) (a0 : Int32) (a1 : Int32) (ha1 : 0 ≤ a1.toInt ∧ a1.toInt ≤ 7) : Met l yX12_bitOf wsX12_bitOf ({ frames := 0, cells := 0, slots := 0, locals := 0 } : Room) (WQc D cA ad [.int a0, .int a1] σ0 τ0) (va_Qi (fun (r : Int32) (u : SS) => P_X12_bitOf σ0 a0 a1 r u.1) (WB D cA ad) (AA ad)) 0 0 (AA ad) := by
  refine Met.ofW (cc := cX12_bitOf) (maxL := 2) (ret := (some .boolean)) (by decide) rfl ?_
  intro p e s m args below meth c s₁ B hml hv
  obtain ⟨rfl, hP, hK, hN⟩ := hv
  have C : Cy p s m _ meth c cX12_bitOf 2 wsX12_bitOf RX12 D cA ad (some .boolean) := ⟨B.exec, B.bytes, hml, findClass_of_methodNamed B.named, atoms_spec (ws := wsX12_bitOf) B.pre, hK, B.notSynchronized, B.returns, hI, hN⟩
  have hl := lv_entry ([.int a0, .int a1]) (n := 2) (Nat.le_of_ble_eq_true rfl)
  rw [lg_entry_eq]
  generalize (lg_sl ([.int a0, .int a1]) ++ List.replicate (2 - (lg_sl ([.int a0, .int a1])).length) Slot.unset).toArray = ls at hl ⊢
  have hl : lv_has ls 2 [(0, .int a0), (1, .int a1)] := hl
  have hS : va_S (AA ad) s.heap s.heap [] := va_S.rf
  have hF : Fr L_X12_bitOf σ0 σ0 := Fr.rf
  obtain ⟨hx, hb, _, hown, hts, _, hk, hr, _, _⟩ := C
  refine lv_iload_n hx hb dX12_bitOf_0 rfl (lv_at hl 0 rfl) ?_
  refine lv_iload_n hx hb dX12_bitOf_1 rfl (lv_at hl 1 rfl) ?_
  refine lv_ishr hx hb dX12_bitOf_2 ?_
  refine lv_iconst (v := 1) hx hb dX12_bitOf_3 (by decide) ?_
  have kcz1 : (1 : Int32).toInt = 1 := rfl
  refine lv_iand hx hb dX12_bitOf_4 ?_
  refine r_iconst hx hb dX12_bitOf_5 (by decide) (fun z2 ez2 => ?_)
  refine r_icmp_ne (tgt := 13) hx hb dX12_bitOf_6 (by decide) (fun c3 => ?_) (fun c3 => ?_)
  · refine r_iconst hx hb dX12_bitOf_13 (by decide) (fun z4 ez4 => ?_)
    exact r_zret hx hb hr hK hP hS hk (by omega) dX12_bitOf_14 (show P_X12_bitOf σ0 a0 a1 z4 σ0 from ⟨hR, hF, by omega, by unfold BT; first | (rw [if_pos (by omega)]; omega) | (rw [if_neg (by omega)]; omega)⟩)
  · refine r_iconst hx hb dX12_bitOf_9 (by decide) (fun z5 ez5 => ?_)
    refine lv_goto (tgt := 14) hx hb dX12_bitOf_10 (by decide) ?_
    exact r_zret hx hb hr hK hP hS hk (by omega) dX12_bitOf_14 (show P_X12_bitOf σ0 a0 a1 z5 σ0 from ⟨hR, hF, by omega, by unfold BT; first | (rw [if_pos (by omega)]; omega) | (rw [if_neg (by omega)]; omega)⟩)
theorem in_X12_find_12 : ∀ w ∈ u_ws RX12 TX12 47, w ∈ wsX12_find := by decide +kernel
theorem lk_X12_find_172 : Cond.fieldLink RX12 172 "CuckooSharesModel" "word" "J" ∈ wsX12_find := by decide +kernel
theorem lk_X12_find_43 : Cond.fieldLink RX12 43 "CuckooSharesModel" "names" "[J" ∈ wsX12_find := by decide +kernel
abbrev L_X12_find : List Rc := []
def P_X12_find (σ0 : Nat → Nat → Int32) (a1 : Int32) (a2 : Int32) (r : Int32) (σ : Nat → Nat → Int32) : Prop := Rg σ ∧ Fr L_X12_find σ0 σ ∧ (-1 ≤ r.toInt ∧ r.toInt ≤ 7) ∧ (r.toInt = -1 ∨ r.toInt < a2.toInt)
def J_X12_find_2 (p : Program) (l : Launch) (e : Env) (s : State) (m : MethodId) (args : Array Value) (below : List Frame) (meth : Method) (c : Code) (D : va_G) (cA : Nat → ClassId) (ad : Nat → Nat) (σ0 : Nat → Nat → Int32) (a1 : Int32) (a2 : Int32) (n : Nat) : Prop := ∀ (σ : Nat → Nat → Int32) (τ : Nat → Nat → Int64) (H : Heap) (locs : List Loc) (x3 : Int32) (ls : Array Slot), Rg σ → Fr L_X12_find σ0 σ → va_P D vwCl (gw cA ad σ τ) H → va_S (AA ad) s.heap H locs → (0 ≤ x3.toInt ∧ x3.toInt ≤ 8) → lv_has ls 4 [(0, .ref (ad 387)), (1, .int a1), (2, .int a2), (3, .int x3)] → 2 * (8 - x3.toInt) + 1 < (n : Int) → W p l e ({ frames := 0, cells := 0, slots := 0, locals := 0 } : Room) s m args below meth c H locs 0 0 (MQ below (va_Qi (fun (r : Int32) (u : SS) => P_X12_find σ0 a1 a2 r u.1) (WB D cA ad) (AA ad)) args s 0 0 (AA ad)) (F0 m 2 ls [])
set_option maxHeartbeats 4000000 in
theorem B_X12_find_2 (p : Program) (l : Launch) (e : Env) (s : State) (m : MethodId) (args : Array Value) (below : List Frame) (meth : Method) (c : Code) (D : va_G) (cA : Nat → ClassId) (ad : Nat → Nat) (σ0 : Nat → Nat → Int32) (a1 : Int32) (a2 : Int32) (n : Nat) (C : Cy p s m args meth c cX12_find 4 wsX12_find RX12 D cA ad (some .int)) (ha1 : 0 ≤ a1.toInt ∧ a1.toInt ≤ 24) (ha2 : 0 ≤ a2.toInt ∧ a2.toInt ≤ 8) (K2 : J_X12_find_2 p l e s m args below meth c D cA ad σ0 a1 a2 n) : J_X12_find_2 p l e s m args below meth c D cA ad σ0 a1 a2 (n + 1) := by
  obtain ⟨hx, hb, hml, hown, hts, hK, hk, hr, hI, hN⟩ := C
  intro σ τ H locs x3 ls hR hF hP hS hc0 hl hm
  obtain rfl := Fr.nil hF
  refine lv_iload_n hx hb dX12_find_2 rfl (lv_at hl 3 rfl) ?_
  refine lv_iload_n hx hb dX12_find_3 rfl (lv_at hl 2 rfl) ?_
  refine r_icmp_ge (tgt := 31) hx hb dX12_find_4 (by decide) (fun c1 => ?_) (fun c1 => ?_)
  · refine r_iconst hx hb dX12_find_31 (by decide) (fun z2 ez2 => ?_)
    exact r_iret hx hb hr hK hP hS hk dX12_find_32 (show P_X12_find σ0 a1 a2 z2 σ0 from ⟨hR, hF, by omega, by omega⟩)
  · refine lv_aload_n hx hb dX12_find_7 rfl (lv_at hl 0 rfl) ?_
    refine fg_12_9 (k := 387) hx hb hts in_X12_find_12 hown hK hP (by decide) (by decide) (hts _ lk_X12_find_43) dX12_find_8 ?_
    refine lv_iload_n hx hb dX12_find_11 rfl (lv_at hl 1 rfl) ?_
    refine lv_iload_n hx hb dX12_find_12 rfl (lv_at hl 3 rfl) ?_
    refine r_iadd hx hb dX12_find_13 (by omega) (fun z3 ez3 => ?_)
    obtain ⟨j4, ej4⟩ : ∃ j : Nat, z3.toInt = (j : Int) := ⟨_, ti_nat (by omega)⟩
    refine ad_mnames (k := 392) (j := j4) hx hb hK hP (by decide) (by decide) ej4 (by omega) dX12_find_14 (fun z5 => ?_)
    refine lv_aload_n hx hb dX12_find_15 rfl (lv_at hl 0 rfl) ?_
    refine fg_12_17 (k := 387) hx hb hts in_X12_find_12 hown hK hP (by decide) (by decide) (hts _ lk_X12_find_172) dX12_find_16 ?_
    refine r_lcmp hx hb dX12_find_19 (fun z6 => ?_)
    refine r_if_ne (tgt := 25) hx hb dX12_find_20 (by decide) (fun c7 => ?_) (fun c7 => ?_)
    · refine r_iinc (k := 3) (lv1 := fun z8 => [(3, .int z8), (0, .ref (ad 387)), (1, .int a1), (2, .int a2)]) hx hb dX12_find_25 hl rfl (by decide) (fun _ => rfl) (by decide) (by omega) (fun z8 ls ez8 hl => ?_)
      refine lv_goto (tgt := 2) hx hb dX12_find_28 (by decide) ?_
      exact K2 σ0 τ H locs z8 ls hR hF hP hS (by omega) (lv_sub hl [1, 2, 3, 0] rfl) (by omega)
    · refine lv_iload_n hx hb dX12_find_23 rfl (lv_at hl 3 rfl) ?_
      exact r_iret hx hb hr hK hP hS hk dX12_find_24 (show P_X12_find σ0 a1 a2 x3 σ0 from ⟨hR, hF, by omega, by omega⟩)
theorem A_X12_find (p : Program) (l : Launch) (e : Env) (s : State) (m : MethodId) (args : Array Value) (below : List Frame) (meth : Method) (c : Code) (D : va_G) (cA : Nat → ClassId) (ad : Nat → Nat) (σ0 : Nat → Nat → Int32) (a1 : Int32) (a2 : Int32) (C : Cy p s m args meth c cX12_find 4 wsX12_find RX12 D cA ad (some .int)) (ha1 : 0 ≤ a1.toInt ∧ a1.toInt ≤ 24) (ha2 : 0 ≤ a2.toInt ∧ a2.toInt ≤ 8) : ∀ n : Nat, J_X12_find_2 p l e s m args below meth c D cA ad σ0 a1 a2 n := by
  intro n
  induction n with
  | zero =>
    exact (by intro σ τ H locs x3 ls hR hF hP hS hc0 hl hm; exfalso; omega)
  | succ n ih =>
    exact B_X12_find_2 p l e s m args below meth c D cA ad σ0 a1 a2 n C ha1 ha2 ih
set_option maxHeartbeats 4000000 in
theorem c_X12_find (l : Launch) (D : va_G) (cA : Nat → ClassId) (ad : Nat → Nat) (hI : Inj ad) (σ0 : Nat → Nat → Int32) (τ0 : Nat → Nat → Int64) (hR : Rg σ0) (a1 : Int32) (a2 : Int32) (ha1 : 0 ≤ a1.toInt ∧ a1.toInt ≤ 24) (ha2 : 0 ≤ a2.toInt ∧ a2.toInt ≤ 8) : Met l yX12_find wsX12_find ({ frames := 0, cells := 0, slots := 0, locals := 0 } : Room) (WQc D cA ad [.ref (ad 387), .int a1, .int a2] σ0 τ0) (va_Qi (fun (r : Int32) (u : SS) => P_X12_find σ0 a1 a2 r u.1) (WB D cA ad) (AA ad)) 0 0 (AA ad) := by
  refine Met.ofW (cc := cX12_find) (maxL := 4) (ret := (some .int)) (by decide) rfl ?_
  intro p e s m args below meth c s₁ B hml hv
  obtain ⟨rfl, hP, hK, hN⟩ := hv
  have C : Cy p s m _ meth c cX12_find 4 wsX12_find RX12 D cA ad (some .int) := ⟨B.exec, B.bytes, hml, findClass_of_methodNamed B.named, atoms_spec (ws := wsX12_find) B.pre, hK, B.notSynchronized, B.returns, hI, hN⟩
  have hl := lv_entry ([.ref (ad 387), .int a1, .int a2]) (n := 4) (Nat.le_of_ble_eq_true rfl)
  rw [lg_entry_eq]
  generalize (lg_sl ([.ref (ad 387), .int a1, .int a2]) ++ List.replicate (4 - (lg_sl ([.ref (ad 387), .int a1, .int a2])).length) Slot.unset).toArray = ls at hl ⊢
  have hl : lv_has ls 4 [(0, .ref (ad 387)), (1, .int a1), (2, .int a2)] := hl
  have hS : va_S (AA ad) s.heap s.heap [] := va_S.rf
  have hF : Fr L_X12_find σ0 σ0 := Fr.rf
  have hA := A_X12_find p l e s m _ below meth c D cA ad σ0 a1 a2 C ha1 ha2 42
  have K2 := hA
  clear hA
  obtain ⟨hx, hb, _, hown, hts, _, hk, hr, _, _⟩ := C
  refine r_iconst hx hb dX12_find_0 (by decide) (fun z1 ez1 => ?_)
  refine lv_istore_n (lv' := [(3, .int z1), (0, .ref (ad 387)), (1, .int a1), (2, .int a2)]) hx hb dX12_find_1 rfl hl (by decide) rfl (fun ls hl => ?_)
  exact K2 σ0 τ0 s.heap [] z1 ls hR hF hP hS (by omega) (lv_sub hl [1, 2, 3, 0] rfl) (by omega)
theorem in_X12_isName_12 : ∀ w ∈ u_ws RX12 TX12 47, w ∈ wsX12_isName := by decide +kernel
theorem lk_X12_isName_159 : Cond.fieldLink RX12 159 "CuckooSharesModel" "token" "I" ∈ wsX12_isName := by decide +kernel
theorem lk_X12_isName_172 : Cond.fieldLink RX12 172 "CuckooSharesModel" "word" "J" ∈ wsX12_isName := by decide +kernel
theorem lk_X12_isName_47 : Cond.fieldLink RX12 47 "CuckooSharesModel" "reserved" "[J" ∈ wsX12_isName := by decide +kernel
abbrev L_X12_isName : List Rc := []
def P_X12_isName (σ0 : Nat → Nat → Int32)  (r : Int32) (σ : Nat → Nat → Int32) : Prop := Rg σ ∧ Fr L_X12_isName σ0 σ ∧ (0 ≤ r.toInt ∧ r.toInt ≤ 1)
def J_X12_isName_16 (p : Program) (l : Launch) (e : Env) (s : State) (m : MethodId) (args : Array Value) (below : List Frame) (meth : Method) (c : Code) (D : va_G) (cA : Nat → ClassId) (ad : Nat → Nat) (σ0 : Nat → Nat → Int32)  (n : Nat) : Prop := ∀ (σ : Nat → Nat → Int32) (τ : Nat → Nat → Int64) (H : Heap) (locs : List Loc) (x1 : Int32) (x2 : Int32) (ls : Array Slot), Rg σ → Fr L_X12_isName σ0 σ → va_P D vwCl (gw cA ad σ τ) H → va_S (AA ad) s.heap H locs → (0 ≤ x1.toInt ∧ x1.toInt ≤ 1) → (0 ≤ x2.toInt ∧ x2.toInt ≤ 39) → lv_has ls 3 [(0, .ref (ad 387)), (1, .int x1), (2, .int x2)] → 2 * (39 - x2.toInt) + 1 < (n : Int) → W p l e ({ frames := 0, cells := 0, slots := 0, locals := 0 } : Room) s m args below meth c H locs 0 0 (MQ below (va_Qi (fun (r : Int32) (u : SS) => P_X12_isName σ0 r u.1) (WB D cA ad) (AA ad)) args s 0 0 (AA ad)) (F0 m 16 ls [])
set_option maxHeartbeats 4000000 in
theorem B_X12_isName_16 (p : Program) (l : Launch) (e : Env) (s : State) (m : MethodId) (args : Array Value) (below : List Frame) (meth : Method) (c : Code) (D : va_G) (cA : Nat → ClassId) (ad : Nat → Nat) (σ0 : Nat → Nat → Int32)  (n : Nat) (C : Cy p s m args meth c cX12_isName 3 wsX12_isName RX12 D cA ad (some .boolean))  (K16 : J_X12_isName_16 p l e s m args below meth c D cA ad σ0 n) : J_X12_isName_16 p l e s m args below meth c D cA ad σ0 (n + 1) := by
  obtain ⟨hx, hb, hml, hown, hts, hK, hk, hr, hI, hN⟩ := C
  intro σ τ H locs x1 x2 ls hR hF hP hS hc0 hc1 hl hm
  obtain rfl := Fr.nil hF
  refine lv_iload_n hx hb dX12_isName_16 rfl (lv_at hl 2 rfl) ?_
  refine r_bipush hx hb dX12_isName_17 (by decide) (fun z1 ez1 => ?_)
  refine r_icmp_ge (tgt := 52) hx hb dX12_isName_19 (by decide) (fun c2 => ?_) (fun c2 => ?_)
  · refine lv_iload_n hx hb dX12_isName_52 rfl (lv_at hl 1 rfl) ?_
    exact r_zret hx hb hr hK hP hS hk (by omega) dX12_isName_53 (show P_X12_isName σ0 x1 σ0 from ⟨hR, hF, by omega⟩)
  · refine lv_iload_n hx hb dX12_isName_22 rfl (lv_at hl 1 rfl) ?_
    refine r_if_eq (tgt := 44) hx hb dX12_isName_23 (by decide) (fun c3 => ?_) (fun c3 => ?_)
    · refine r_iconst hx hb dX12_isName_44 (by decide) (fun z4 ez4 => ?_)
      refine lv_istore_n (lv' := [(1, .int z4), (0, .ref (ad 387)), (2, .int x2)]) hx hb dX12_isName_45 rfl hl (by decide) rfl (fun ls hl => ?_)
      refine r_iinc (k := 2) (lv1 := fun z5 => [(2, .int z5), (1, .int z4), (0, .ref (ad 387))]) hx hb dX12_isName_46 hl rfl (by decide) (fun _ => rfl) (by decide) (by omega) (fun z5 ls ez5 hl => ?_)
      refine lv_goto (tgt := 16) hx hb dX12_isName_49 (by decide) ?_
      exact K16 σ0 τ H locs z4 z5 ls hR hF hP hS (by omega) (by omega) (lv_sub hl [2, 1, 0] rfl) (by omega)
    · refine lv_aload_n hx hb dX12_isName_26 rfl (lv_at hl 0 rfl) ?_
      refine fg_12_17 (k := 387) hx hb hts in_X12_isName_12 hown hK hP (by decide) (by decide) (hts _ lk_X12_isName_172) dX12_isName_27 ?_
      refine lv_aload_n hx hb dX12_isName_30 rfl (lv_at hl 0 rfl) ?_
      refine fg_12_10 (k := 387) hx hb hts in_X12_isName_12 hown hK hP (by decide) (by decide) (hts _ lk_X12_isName_47) dX12_isName_31 ?_
      refine lv_iload_n hx hb dX12_isName_34 rfl (lv_at hl 2 rfl) ?_
      obtain ⟨j6, ej6⟩ : ∃ j : Nat, x2.toInt = (j : Int) := ⟨_, ti_nat (by omega)⟩
      refine ad_mreserved (k := 393) (j := j6) hx hb hK hP (by decide) (by decide) ej6 (by omega) dX12_isName_35 (fun z7 => ?_)
      refine r_lcmp hx hb dX12_isName_36 (fun z8 => ?_)
      refine r_if_eq (tgt := 44) hx hb dX12_isName_37 (by decide) (fun c9 => ?_) (fun c9 => ?_)
      · refine r_iconst hx hb dX12_isName_44 (by decide) (fun z10 ez10 => ?_)
        refine lv_istore_n (lv' := [(1, .int z10), (0, .ref (ad 387)), (2, .int x2)]) hx hb dX12_isName_45 rfl hl (by decide) rfl (fun ls hl => ?_)
        refine r_iinc (k := 2) (lv1 := fun z11 => [(2, .int z11), (1, .int z10), (0, .ref (ad 387))]) hx hb dX12_isName_46 hl rfl (by decide) (fun _ => rfl) (by decide) (by omega) (fun z11 ls ez11 hl => ?_)
        refine lv_goto (tgt := 16) hx hb dX12_isName_49 (by decide) ?_
        exact K16 σ0 τ H locs z10 z11 ls hR hF hP hS (by omega) (by omega) (lv_sub hl [2, 1, 0] rfl) (by omega)
      · refine r_iconst hx hb dX12_isName_40 (by decide) (fun z12 ez12 => ?_)
        refine lv_goto (tgt := 45) hx hb dX12_isName_41 (by decide) ?_
        refine lv_istore_n (lv' := [(1, .int z12), (0, .ref (ad 387)), (2, .int x2)]) hx hb dX12_isName_45 rfl hl (by decide) rfl (fun ls hl => ?_)
        refine r_iinc (k := 2) (lv1 := fun z13 => [(2, .int z13), (1, .int z12), (0, .ref (ad 387))]) hx hb dX12_isName_46 hl rfl (by decide) (fun _ => rfl) (by decide) (by omega) (fun z13 ls ez13 hl => ?_)
        refine lv_goto (tgt := 16) hx hb dX12_isName_49 (by decide) ?_
        exact K16 σ0 τ H locs z12 z13 ls hR hF hP hS (by omega) (by omega) (lv_sub hl [2, 1, 0] rfl) (by omega)
theorem A_X12_isName (p : Program) (l : Launch) (e : Env) (s : State) (m : MethodId) (args : Array Value) (below : List Frame) (meth : Method) (c : Code) (D : va_G) (cA : Nat → ClassId) (ad : Nat → Nat) (σ0 : Nat → Nat → Int32)  (C : Cy p s m args meth c cX12_isName 3 wsX12_isName RX12 D cA ad (some .boolean))  : ∀ n : Nat, J_X12_isName_16 p l e s m args below meth c D cA ad σ0 n := by
  intro n
  induction n with
  | zero =>
    exact (by intro σ τ H locs x1 x2 ls hR hF hP hS hc0 hc1 hl hm; exfalso; omega)
  | succ n ih =>
    exact B_X12_isName_16 p l e s m args below meth c D cA ad σ0 n C  ih
set_option maxHeartbeats 4000000 in
theorem c_X12_isName (l : Launch) (D : va_G) (cA : Nat → ClassId) (ad : Nat → Nat) (hI : Inj ad) (σ0 : Nat → Nat → Int32) (τ0 : Nat → Nat → Int64) (hR : Rg σ0)   : Met l yX12_isName wsX12_isName ({ frames := 0, cells := 0, slots := 0, locals := 0 } : Room) (WQc D cA ad [.ref (ad 387)] σ0 τ0) (va_Qi (fun (r : Int32) (u : SS) => P_X12_isName σ0 r u.1) (WB D cA ad) (AA ad)) 0 0 (AA ad) := by
  refine Met.ofW (cc := cX12_isName) (maxL := 3) (ret := (some .boolean)) (by decide) rfl ?_
  intro p e s m args below meth c s₁ B hml hv
  obtain ⟨rfl, hP, hK, hN⟩ := hv
  have C : Cy p s m _ meth c cX12_isName 3 wsX12_isName RX12 D cA ad (some .boolean) := ⟨B.exec, B.bytes, hml, findClass_of_methodNamed B.named, atoms_spec (ws := wsX12_isName) B.pre, hK, B.notSynchronized, B.returns, hI, hN⟩
  have hl := lv_entry ([.ref (ad 387)]) (n := 3) (Nat.le_of_ble_eq_true rfl)
  rw [lg_entry_eq]
  generalize (lg_sl ([.ref (ad 387)]) ++ List.replicate (3 - (lg_sl ([.ref (ad 387)])).length) Slot.unset).toArray = ls at hl ⊢
  have hl : lv_has ls 3 [(0, .ref (ad 387))] := hl
  have hS : va_S (AA ad) s.heap s.heap [] := va_S.rf
  have hF : Fr L_X12_isName σ0 σ0 := Fr.rf
  have hA := A_X12_isName p l e s m _ below meth c D cA ad σ0 C  166
  have K16 := hA
  clear hA
  obtain ⟨hx, hb, _, hown, hts, _, hk, hr, _, _⟩ := C
  refine lv_aload_n hx hb dX12_isName_0 rfl (lv_at hl 0 rfl) ?_
  refine fg_12_11 (k := 387) hx hb hts in_X12_isName_12 hown hK hP (by decide) (by decide) (hts _ lk_X12_isName_159) dX12_isName_1 ?_
  refine r_iconst hx hb dX12_isName_4 (by decide) (fun z1 ez1 => ?_)
  refine r_icmp_ne (tgt := 12) hx hb dX12_isName_5 (by decide) (fun c2 => ?_) (fun c2 => ?_)
  · refine r_iconst hx hb dX12_isName_12 (by decide) (fun z3 ez3 => ?_)
    refine lv_istore_n (lv' := [(1, .int z3), (0, .ref (ad 387))]) hx hb dX12_isName_13 rfl hl (by decide) rfl (fun ls hl => ?_)
    refine r_iconst hx hb dX12_isName_14 (by decide) (fun z4 ez4 => ?_)
    refine lv_istore_n (lv' := [(2, .int z4), (1, .int z3), (0, .ref (ad 387))]) hx hb dX12_isName_15 rfl hl (by decide) rfl (fun ls hl => ?_)
    exact K16 σ0 τ0 s.heap [] z3 z4 ls hR hF hP hS (by omega) (by omega) (lv_sub hl [2, 1, 0] rfl) (by omega)
  · refine r_iconst hx hb dX12_isName_8 (by decide) (fun z5 ez5 => ?_)
    refine lv_goto (tgt := 13) hx hb dX12_isName_9 (by decide) ?_
    refine lv_istore_n (lv' := [(1, .int z5), (0, .ref (ad 387))]) hx hb dX12_isName_13 rfl hl (by decide) rfl (fun ls hl => ?_)
    refine r_iconst hx hb dX12_isName_14 (by decide) (fun z6 ez6 => ?_)
    refine lv_istore_n (lv' := [(2, .int z6), (1, .int z5), (0, .ref (ad 387))]) hx hb dX12_isName_15 rfl hl (by decide) rfl (fun ls hl => ?_)
    exact K16 σ0 τ0 s.heap [] z5 z6 ls hR hF hP hS (by omega) (by omega) (lv_sub hl [2, 1, 0] rfl) (by omega)
abbrev L_X12_isDigit : List Rc := []
def P_X12_isDigit (σ0 : Nat → Nat → Int32) (a0 : Int32) (r : Int32) (σ : Nat → Nat → Int32) : Prop := Rg σ ∧ Fr L_X12_isDigit σ0 σ ∧ (0 ≤ r.toInt ∧ r.toInt ≤ 1) ∧ ((r.toInt = 0 ∧ (a0.toInt < 48 ∨ 57 < a0.toInt)) ∨ (r.toInt = 1 ∧ 48 ≤ a0.toInt ∧ a0.toInt ≤ 57))
set_option maxHeartbeats 4000000 in
theorem c_X12_isDigit (l : Launch) (D : va_G) (cA : Nat → ClassId) (ad : Nat → Nat) (hI : Inj ad) (σ0 : Nat → Nat → Int32) (τ0 : Nat → Nat → Int64) (hR : Rg σ0) (a0 : Int32) (ha0 : -1 ≤ a0.toInt ∧ a0.toInt ≤ 255) : Met l yX12_isDigit wsX12_isDigit ({ frames := 0, cells := 0, slots := 0, locals := 0 } : Room) (WQc D cA ad [.int a0] σ0 τ0) (va_Qi (fun (r : Int32) (u : SS) => P_X12_isDigit σ0 a0 r u.1) (WB D cA ad) (AA ad)) 0 0 (AA ad) := by
  refine Met.ofW (cc := cX12_isDigit) (maxL := 1) (ret := (some .boolean)) (by decide) rfl ?_
  intro p e s m args below meth c s₁ B hml hv
  obtain ⟨rfl, hP, hK, hN⟩ := hv
  have C : Cy p s m _ meth c cX12_isDigit 1 wsX12_isDigit RX12 D cA ad (some .boolean) := ⟨B.exec, B.bytes, hml, findClass_of_methodNamed B.named, atoms_spec (ws := wsX12_isDigit) B.pre, hK, B.notSynchronized, B.returns, hI, hN⟩
  have hl := lv_entry ([.int a0]) (n := 1) (Nat.le_of_ble_eq_true rfl)
  rw [lg_entry_eq]
  generalize (lg_sl ([.int a0]) ++ List.replicate (1 - (lg_sl ([.int a0])).length) Slot.unset).toArray = ls at hl ⊢
  have hl : lv_has ls 1 [(0, .int a0)] := hl
  have hS : va_S (AA ad) s.heap s.heap [] := va_S.rf
  have hF : Fr L_X12_isDigit σ0 σ0 := Fr.rf
  obtain ⟨hx, hb, _, hown, hts, _, hk, hr, _, _⟩ := C
  refine lv_iload_n hx hb dX12_isDigit_0 rfl (lv_at hl 0 rfl) ?_
  refine r_bipush hx hb dX12_isDigit_1 (by decide) (fun z1 ez1 => ?_)
  refine r_icmp_lt (tgt := 16) hx hb dX12_isDigit_3 (by decide) (fun c2 => ?_) (fun c2 => ?_)
  · refine r_iconst hx hb dX12_isDigit_16 (by decide) (fun z3 ez3 => ?_)
    exact r_zret hx hb hr hK hP hS hk (by omega) dX12_isDigit_17 (show P_X12_isDigit σ0 a0 z3 σ0 from ⟨hR, hF, by omega, by omega⟩)
  · refine lv_iload_n hx hb dX12_isDigit_6 rfl (lv_at hl 0 rfl) ?_
    refine r_bipush hx hb dX12_isDigit_7 (by decide) (fun z4 ez4 => ?_)
    refine r_icmp_gt (tgt := 16) hx hb dX12_isDigit_9 (by decide) (fun c5 => ?_) (fun c5 => ?_)
    · refine r_iconst hx hb dX12_isDigit_16 (by decide) (fun z6 ez6 => ?_)
      exact r_zret hx hb hr hK hP hS hk (by omega) dX12_isDigit_17 (show P_X12_isDigit σ0 a0 z6 σ0 from ⟨hR, hF, by omega, by omega⟩)
    · refine r_iconst hx hb dX12_isDigit_12 (by decide) (fun z7 ez7 => ?_)
      refine lv_goto (tgt := 17) hx hb dX12_isDigit_13 (by decide) ?_
      exact r_zret hx hb hr hK hP hS hk (by omega) dX12_isDigit_17 (show P_X12_isDigit σ0 a0 z7 σ0 from ⟨hR, hF, by omega, by omega⟩)
abbrev L_X12_isSmall : List Rc := []
def P_X12_isSmall (σ0 : Nat → Nat → Int32) (a0 : Int32) (r : Int32) (σ : Nat → Nat → Int32) : Prop := Rg σ ∧ Fr L_X12_isSmall σ0 σ ∧ (0 ≤ r.toInt ∧ r.toInt ≤ 1) ∧ ((r.toInt = 0 ∧ (a0.toInt < 97 ∨ 122 < a0.toInt)) ∨ (r.toInt = 1 ∧ 97 ≤ a0.toInt ∧ a0.toInt ≤ 122))
set_option maxHeartbeats 4000000 in
theorem c_X12_isSmall (l : Launch) (D : va_G) (cA : Nat → ClassId) (ad : Nat → Nat) (hI : Inj ad) (σ0 : Nat → Nat → Int32) (τ0 : Nat → Nat → Int64) (hR : Rg σ0) (a0 : Int32) (ha0 : -1 ≤ a0.toInt ∧ a0.toInt ≤ 255) : Met l yX12_isSmall wsX12_isSmall ({ frames := 0, cells := 0, slots := 0, locals := 0 } : Room) (WQc D cA ad [.int a0] σ0 τ0) (va_Qi (fun (r : Int32) (u : SS) => P_X12_isSmall σ0 a0 r u.1) (WB D cA ad) (AA ad)) 0 0 (AA ad) := by
  refine Met.ofW (cc := cX12_isSmall) (maxL := 1) (ret := (some .boolean)) (by decide) rfl ?_
  intro p e s m args below meth c s₁ B hml hv
  obtain ⟨rfl, hP, hK, hN⟩ := hv
  have C : Cy p s m _ meth c cX12_isSmall 1 wsX12_isSmall RX12 D cA ad (some .boolean) := ⟨B.exec, B.bytes, hml, findClass_of_methodNamed B.named, atoms_spec (ws := wsX12_isSmall) B.pre, hK, B.notSynchronized, B.returns, hI, hN⟩
  have hl := lv_entry ([.int a0]) (n := 1) (Nat.le_of_ble_eq_true rfl)
  rw [lg_entry_eq]
  generalize (lg_sl ([.int a0]) ++ List.replicate (1 - (lg_sl ([.int a0])).length) Slot.unset).toArray = ls at hl ⊢
  have hl : lv_has ls 1 [(0, .int a0)] := hl
  have hS : va_S (AA ad) s.heap s.heap [] := va_S.rf
  have hF : Fr L_X12_isSmall σ0 σ0 := Fr.rf
  obtain ⟨hx, hb, _, hown, hts, _, hk, hr, _, _⟩ := C
  refine lv_iload_n hx hb dX12_isSmall_0 rfl (lv_at hl 0 rfl) ?_
  refine r_bipush hx hb dX12_isSmall_1 (by decide) (fun z1 ez1 => ?_)
  refine r_icmp_lt (tgt := 16) hx hb dX12_isSmall_3 (by decide) (fun c2 => ?_) (fun c2 => ?_)
  · refine r_iconst hx hb dX12_isSmall_16 (by decide) (fun z3 ez3 => ?_)
    exact r_zret hx hb hr hK hP hS hk (by omega) dX12_isSmall_17 (show P_X12_isSmall σ0 a0 z3 σ0 from ⟨hR, hF, by omega, by omega⟩)
  · refine lv_iload_n hx hb dX12_isSmall_6 rfl (lv_at hl 0 rfl) ?_
    refine r_bipush hx hb dX12_isSmall_7 (by decide) (fun z4 ez4 => ?_)
    refine r_icmp_gt (tgt := 16) hx hb dX12_isSmall_9 (by decide) (fun c5 => ?_) (fun c5 => ?_)
    · refine r_iconst hx hb dX12_isSmall_16 (by decide) (fun z6 ez6 => ?_)
      exact r_zret hx hb hr hK hP hS hk (by omega) dX12_isSmall_17 (show P_X12_isSmall σ0 a0 z6 σ0 from ⟨hR, hF, by omega, by omega⟩)
    · refine r_iconst hx hb dX12_isSmall_12 (by decide) (fun z7 ez7 => ?_)
      refine lv_goto (tgt := 17) hx hb dX12_isSmall_13 (by decide) ?_
      exact r_zret hx hb hr hK hP hS hk (by omega) dX12_isSmall_17 (show P_X12_isSmall σ0 a0 z7 σ0 from ⟨hR, hF, by omega, by omega⟩)
theorem in_X12_peek_12 : ∀ w ∈ u_ws RX12 TX12 47, w ∈ wsX12_peek := by decide +kernel
theorem lk_X12_peek_14 : Cond.fieldLink RX12 14 "CuckooSharesModel" "tape" "[B" ∈ wsX12_peek := by decide +kernel
theorem lk_X12_peek_18 : Cond.fieldLink RX12 18 "CuckooSharesModel" "size" "I" ∈ wsX12_peek := by decide +kernel
theorem lk_X12_peek_21 : Cond.fieldLink RX12 21 "CuckooSharesModel" "p" "I" ∈ wsX12_peek := by decide +kernel
abbrev L_X12_peek : List Rc := []
def P_X12_peek (σ0 : Nat → Nat → Int32)  (r : Int32) (σ : Nat → Nat → Int32) : Prop := Rg σ ∧ Fr L_X12_peek σ0 σ ∧ (-1 ≤ r.toInt ∧ r.toInt ≤ 255) ∧ (r.toInt = -1 ∨ (0 ≤ r.toInt ∧ (σ0 387 4).toInt < (σ0 387 3).toInt ∧ (σ0 387 4).toInt ≤ 939))
set_option maxHeartbeats 4000000 in
theorem c_X12_peek (l : Launch) (D : va_G) (cA : Nat → ClassId) (ad : Nat → Nat) (hI : Inj ad) (σ0 : Nat → Nat → Int32) (τ0 : Nat → Nat → Int64) (hR : Rg σ0)   : Met l yX12_peek wsX12_peek ({ frames := 0, cells := 0, slots := 0, locals := 0 } : Room) (WQc D cA ad [.ref (ad 387)] σ0 τ0) (va_Qi (fun (r : Int32) (u : SS) => P_X12_peek σ0 r u.1) (WB D cA ad) (AA ad)) 0 0 (AA ad) := by
  refine Met.ofW (cc := cX12_peek) (maxL := 1) (ret := (some .int)) (by decide) rfl ?_
  intro p e s m args below meth c s₁ B hml hv
  obtain ⟨rfl, hP, hK, hN⟩ := hv
  have C : Cy p s m _ meth c cX12_peek 1 wsX12_peek RX12 D cA ad (some .int) := ⟨B.exec, B.bytes, hml, findClass_of_methodNamed B.named, atoms_spec (ws := wsX12_peek) B.pre, hK, B.notSynchronized, B.returns, hI, hN⟩
  have hl := lv_entry ([.ref (ad 387)]) (n := 1) (Nat.le_of_ble_eq_true rfl)
  rw [lg_entry_eq]
  generalize (lg_sl ([.ref (ad 387)]) ++ List.replicate (1 - (lg_sl ([.ref (ad 387)])).length) Slot.unset).toArray = ls at hl ⊢
  have hl : lv_has ls 1 [(0, .ref (ad 387))] := hl
  have hS : va_S (AA ad) s.heap s.heap [] := va_S.rf
  have hF : Fr L_X12_peek σ0 σ0 := Fr.rf
  obtain ⟨hx, hb, _, hown, hts, _, hk, hr, _, _⟩ := C
  refine lv_aload_n hx hb dX12_peek_0 rfl (lv_at hl 0 rfl) ?_
  refine fg_12_4 (k := 387) hx hb hts in_X12_peek_12 hown hK hP (by decide) (by decide) (hts _ lk_X12_peek_21) dX12_peek_1 ?_
  have hr1 := rg_12_4 hR (k := 387) (by decide) (by decide)
  refine lv_aload_n hx hb dX12_peek_4 rfl (lv_at hl 0 rfl) ?_
  refine fg_12_3 (k := 387) hx hb hts in_X12_peek_12 hown hK hP (by decide) (by decide) (hts _ lk_X12_peek_18) dX12_peek_5 ?_
  have hr2 := rg_12_3 hR (k := 387) (by decide) (by decide)
  refine r_icmp_ge (tgt := 27) hx hb dX12_peek_8 (by decide) (fun c3 => ?_) (fun c3 => ?_)
  · refine r_iconst hx hb dX12_peek_27 (by decide) (fun z4 ez4 => ?_)
    exact r_iret hx hb hr hK hP hS hk dX12_peek_28 (show P_X12_peek σ0 z4 σ0 from ⟨hR, hF, by omega, by omega⟩)
  · refine lv_aload_n hx hb dX12_peek_11 rfl (lv_at hl 0 rfl) ?_
    refine fg_12_1 (k := 387) hx hb hts in_X12_peek_12 hown hK hP (by decide) (by decide) (hts _ lk_X12_peek_14) dX12_peek_12 ?_
    refine lv_aload_n hx hb dX12_peek_15 rfl (lv_at hl 0 rfl) ?_
    refine fg_12_4 (k := 387) hx hb hts in_X12_peek_12 hown hK hP (by decide) (by decide) (hts _ lk_X12_peek_21) dX12_peek_16 ?_
    obtain ⟨j5, ej5⟩ : ∃ j : Nat, (σ0 387 4).toInt = (j : Int) := ⟨_, ti_nat (by omega)⟩
    refine ad_mtape (k := 388) (j := j5) hx hb hK hP (by decide) (by decide) ej5 (by omega) dX12_peek_19 ?_
    refine r_sipush hx hb dX12_peek_20 (by decide) (fun z6 ez6 => ?_)
    refine r_iand (w := 255) hx hb 8 dX12_peek_23 (by omega) (by decide) (fun z7 ez7 => ?_)
    refine lv_goto (tgt := 28) hx hb dX12_peek_24 (by decide) ?_
    exact r_iret hx hb hr hK hP hS hk dX12_peek_28 (show P_X12_peek σ0 z7 σ0 from ⟨hR, hF, by omega, by omega⟩)
theorem in_X12_next_12 : ∀ w ∈ u_ws RX12 TX12 47, w ∈ wsX12_next := by decide +kernel
theorem lk_X12_next_153 : Cond.fieldLink RX12 153 "CuckooSharesModel" "at" "I" ∈ wsX12_next := by decide +kernel
theorem lk_X12_next_156 : Cond.fieldLink RX12 156 "CuckooSharesModel" "span" "I" ∈ wsX12_next := by decide +kernel
theorem lk_X12_next_159 : Cond.fieldLink RX12 159 "CuckooSharesModel" "token" "I" ∈ wsX12_next := by decide +kernel
theorem lk_X12_next_169 : Cond.fieldLink RX12 169 "CuckooSharesModel" "number" "I" ∈ wsX12_next := by decide +kernel
theorem lk_X12_next_172 : Cond.fieldLink RX12 172 "CuckooSharesModel" "word" "J" ∈ wsX12_next := by decide +kernel
theorem lk_X12_next_18 : Cond.fieldLink RX12 18 "CuckooSharesModel" "size" "I" ∈ wsX12_next := by decide +kernel
theorem lk_X12_next_21 : Cond.fieldLink RX12 21 "CuckooSharesModel" "p" "I" ∈ wsX12_next := by decide +kernel
theorem lk_X12_next_24 : Cond.fieldLink RX12 24 "CuckooSharesModel" "limit" "I" ∈ wsX12_next := by decide +kernel
abbrev L_X12_next : List Rc := [(387, 387, 4, 4), (387, 387, 11, 14)]
def P_X12_next (σ0 : Nat → Nat → Int32)  (σ : Nat → Nat → Int32) : Prop := Rg σ ∧ Fr L_X12_next σ0 σ ∧ ((σ0 387 4).toInt ≤ (σ 387 4).toInt) ∧ ((σ 387 11).toInt ≠ 3 ∨ (σ0 387 4).toInt < (σ 387 4).toInt) ∧ (0 ≤ (σ 387 11).toInt ∧ (σ 387 11).toInt ≤ 4)
def J_X12_next_0 (p : Program) (l : Launch) (e : Env) (s : State) (m : MethodId) (args : Array Value) (below : List Frame) (meth : Method) (c : Code) (D : va_G) (cA : Nat → ClassId) (ad : Nat → Nat) (σ0 : Nat → Nat → Int32)  (n : Nat) : Prop := ∀ (σ : Nat → Nat → Int32) (τ : Nat → Nat → Int64) (H : Heap) (locs : List Loc)  (ls : Array Slot), Rg σ → Fr L_X12_next σ0 σ → va_P D vwCl (gw cA ad σ τ) H → va_S (AA ad) s.heap H locs → (0 ≤ (σ 387 3).toInt ∧ (σ 387 3).toInt ≤ 940) → (0 ≤ (σ 387 4).toInt ∧ (σ 387 4).toInt ≤ 940) → ((σ0 387 4).toInt ≤ (σ 387 4).toInt) → lv_has ls 4 [(0, .ref (ad 387))] → 3770 * (940 - (σ 387 4).toInt) + 3769 < (n : Int) → W p l e ({ frames := 1, cells := 0, slots := 0, locals := 20 } : Room) s m args below meth c H locs 0 0 (MQ below (va_Qv (fun u : SS => P_X12_next σ0 u.1) (WB D cA ad) (AA ad)) args s 0 0 (AA ad)) (F0 m 0 ls [])
def J_X12_next_80 (p : Program) (l : Launch) (e : Env) (s : State) (m : MethodId) (args : Array Value) (below : List Frame) (meth : Method) (c : Code) (D : va_G) (cA : Nat → ClassId) (ad : Nat → Nat) (σ0 : Nat → Nat → Int32)  (n : Nat) : Prop := ∀ (σ : Nat → Nat → Int32) (τ : Nat → Nat → Int64) (H : Heap) (locs : List Loc)  (ls : Array Slot), Rg σ → Fr L_X12_next σ0 σ → va_P D vwCl (gw cA ad σ τ) H → va_S (AA ad) s.heap H locs → (0 ≤ (σ 387 4).toInt ∧ (σ 387 4).toInt ≤ 940) → (0 ≤ (σ 387 3).toInt ∧ (σ 387 3).toInt ≤ 940) → (0 ≤ (σ 387 13).toInt ∧ (σ 387 13).toInt ≤ 0) → (0 ≤ (σ 387 5).toInt ∧ (σ 387 5).toInt ≤ 940) → ((σ0 387 4).toInt ≤ (σ 387 4).toInt) → lv_has ls 4 [(0, .ref (ad 387))] → 3768 < (n : Int) → W p l e ({ frames := 1, cells := 0, slots := 0, locals := 20 } : Room) s m args below meth c H locs 0 0 (MQ below (va_Qv (fun u : SS => P_X12_next σ0 u.1) (WB D cA ad) (AA ad)) args s 0 0 (AA ad)) (F0 m 80 ls [])
def J_X12_next_181 (p : Program) (l : Launch) (e : Env) (s : State) (m : MethodId) (args : Array Value) (below : List Frame) (meth : Method) (c : Code) (D : va_G) (cA : Nat → ClassId) (ad : Nat → Nat) (σ0 : Nat → Nat → Int32)  (n : Nat) : Prop := ∀ (σ : Nat → Nat → Int32) (τ : Nat → Nat → Int64) (H : Heap) (locs : List Loc) (x1 : Int32) (x2 : Int32) (x3 : Int32) (ls : Array Slot), Rg σ → Fr L_X12_next σ0 σ → va_P D vwCl (gw cA ad σ τ) H → va_S (AA ad) s.heap H locs → (48 ≤ x1.toInt ∧ x1.toInt ≤ 122) → (0 ≤ x2.toInt ∧ x2.toInt ≤ 1) → (0 ≤ x3.toInt ∧ x3.toInt ≤ 1) → (0 ≤ (σ 387 4).toInt ∧ (σ 387 4).toInt ≤ 940) → (0 ≤ (σ 387 3).toInt ∧ (σ 387 3).toInt ≤ 940) → (0 ≤ (σ 387 5).toInt ∧ (σ 387 5).toInt ≤ 940) → ((σ0 387 4).toInt ≤ (σ 387 4).toInt) → lv_has ls 4 [(0, .ref (ad 387)), (1, .int x1), (2, .int x2), (3, .int x3)] → 4 * (940 - (σ 387 4).toInt) + 3 < (n : Int) → W p l e ({ frames := 1, cells := 0, slots := 0, locals := 20 } : Room) s m args below meth c H locs 0 0 (MQ below (va_Qv (fun u : SS => P_X12_next σ0 u.1) (WB D cA ad) (AA ad)) args s 0 0 (AA ad)) (F0 m 181 ls [])
def J_X12_next_221 (p : Program) (l : Launch) (e : Env) (s : State) (m : MethodId) (args : Array Value) (below : List Frame) (meth : Method) (c : Code) (D : va_G) (cA : Nat → ClassId) (ad : Nat → Nat) (σ0 : Nat → Nat → Int32)  (n : Nat) : Prop := ∀ (σ : Nat → Nat → Int32) (τ : Nat → Nat → Int64) (H : Heap) (locs : List Loc) (x1 : Int32) (x2 : Int32) (x3 : Int32) (w0 : Int32) (ls : Array Slot), Rg σ → Fr L_X12_next σ0 σ → va_P D vwCl (gw cA ad σ τ) H → va_S (AA ad) s.heap H locs → (48 ≤ x1.toInt ∧ x1.toInt ≤ 122) → (0 ≤ x2.toInt ∧ x2.toInt ≤ 1) → (0 ≤ x3.toInt ∧ x3.toInt ≤ 1) → (0 ≤ w0.toInt ∧ w0.toInt ≤ 1) → (0 ≤ (σ 387 4).toInt ∧ (σ 387 4).toInt ≤ 940) → (0 ≤ (σ 387 3).toInt ∧ (σ 387 3).toInt ≤ 940) → (0 ≤ (σ 387 5).toInt ∧ (σ 387 5).toInt ≤ 940) → ((σ0 387 4).toInt ≤ (σ 387 4).toInt) → ((σ 387 4).toInt < (σ 387 3).toInt) → lv_has ls 4 [(0, .ref (ad 387)), (1, .int x1), (2, .int x2), (3, .int x3)] → 4 * (940 - (σ 387 4).toInt) + 2 < (n : Int) → W p l e ({ frames := 1, cells := 0, slots := 0, locals := 20 } : Room) s m args below meth c H locs 0 0 (MQ below (va_Qv (fun u : SS => P_X12_next σ0 u.1) (WB D cA ad) (AA ad)) args s 0 0 (AA ad)) (F0 m 221 ls [.int w0])
def J_X12_next_248 (p : Program) (l : Launch) (e : Env) (s : State) (m : MethodId) (args : Array Value) (below : List Frame) (meth : Method) (c : Code) (D : va_G) (cA : Nat → ClassId) (ad : Nat → Nat) (σ0 : Nat → Nat → Int32)  (n : Nat) : Prop := ∀ (σ : Nat → Nat → Int32) (τ : Nat → Nat → Int64) (H : Heap) (locs : List Loc) (x1 : Int32) (x2 : Int32) (x3 : Int32) (ls : Array Slot), Rg σ → Fr L_X12_next σ0 σ → va_P D vwCl (gw cA ad σ τ) H → va_S (AA ad) s.heap H locs → (48 ≤ x1.toInt ∧ x1.toInt ≤ 122) → (0 ≤ x2.toInt ∧ x2.toInt ≤ 1) → (0 ≤ x3.toInt ∧ x3.toInt ≤ 1) → (0 ≤ (σ 387 4).toInt ∧ (σ 387 4).toInt ≤ 940) → (0 ≤ (σ 387 3).toInt ∧ (σ 387 3).toInt ≤ 940) → (0 ≤ (σ 387 5).toInt ∧ (σ 387 5).toInt ≤ 940) → ((σ0 387 4).toInt ≤ (σ 387 4).toInt) → ((σ 387 4).toInt < (σ 387 3).toInt) → lv_has ls 4 [(0, .ref (ad 387)), (1, .int x1), (2, .int x2), (3, .int x3)] → 4 * (940 - (σ 387 4).toInt) + 1 < (n : Int) → W p l e ({ frames := 1, cells := 0, slots := 0, locals := 20 } : Room) s m args below meth c H locs 0 0 (MQ below (va_Qv (fun u : SS => P_X12_next σ0 u.1) (WB D cA ad) (AA ad)) args s 0 0 (AA ad)) (F0 m 248 ls [])
set_option maxHeartbeats 4000000 in
theorem B_X12_next_0 (p : Program) (l : Launch) (e : Env) (s : State) (m : MethodId) (args : Array Value) (below : List Frame) (meth : Method) (c : Code) (D : va_G) (cA : Nat → ClassId) (ad : Nat → Nat) (σ0 : Nat → Nat → Int32)  (n : Nat) (C : Cy p s m args meth c cX12_next 4 wsX12_next RX12 D cA ad none)  (K0 : J_X12_next_0 p l e s m args below meth c D cA ad σ0 n) (K80 : J_X12_next_80 p l e s m args below meth c D cA ad σ0 n) (K181 : J_X12_next_181 p l e s m args below meth c D cA ad σ0 n) (K221 : J_X12_next_221 p l e s m args below meth c D cA ad σ0 n) (K248 : J_X12_next_248 p l e s m args below meth c D cA ad σ0 n) : J_X12_next_0 p l e s m args below meth c D cA ad σ0 (n + 1) := by
  obtain ⟨hx, hb, hml, hown, hts, hK, hk, hr, hI, hN⟩ := C
  intro σ τ H locs ls hR hF hP hS hc0 hc1 hi0 hl hm
  refine lv_aload_n hx hb dX12_next_0 rfl (lv_at hl 0 rfl) ?_
  refine r_cVi (k := 387) (As := []) (rest := []) ⟨hx, hb, hml, hown, hts⟩ hK hP hN hS (c_X12_peek l D cA ad hI σ τ hR) (cwV 0 hts gX12_next_X12_peek rfl rfl rfl (by decide +kernel) ⟨by decide, by decide⟩) (rv_M hK hP (by decide) (by decide)) rfl hl.1 rfl (Nat.le_of_ble_eq_true rfl) dX12_next_1 (Nat.zero_le _) (Nat.zero_le _) (fun r1 u1 H1 locs1 hp1 hP hS => ?_)
  obtain ⟨σ1, τ1⟩ := u1
  obtain ⟨hR, f1, hq1, hp1_0⟩ : P_X12_peek σ r1 σ1 := hp1
  have hP : va_P D vwCl (gw cA ad σ1 τ1) H1 := hP
  obtain rfl := Fr.nil f1
  refine r_bipush hx hb dX12_next_4 (by decide) (fun z2 ez2 => ?_)
  refine r_icmp_eq (tgt := 18) hx hb dX12_next_6 (by decide) (fun c3 => ?_) (fun c3 => ?_)
  · refine lv_aload_n hx hb dX12_next_18 rfl (lv_at hl 0 rfl) ?_
    refine lv_dup hx hb dX12_next_19 rfl ?_
    refine fg_12_4 (k := 387) hx hb hts in_X12_next_12 hown hK hP (by decide) (by decide) (hts _ lk_X12_next_21) dX12_next_20 ?_
    refine r_iconst hx hb dX12_next_23 (by decide) (fun z4 ez4 => ?_)
    refine r_iadd hx hb dX12_next_24 (by omega) (fun z5 ez5 => ?_)
    refine fp_12_4 (k := 387) hx hb hts in_X12_next_12 hown hK hP (by decide) (by decide) (hts _ lk_X12_next_21) hI hR hS (by omega) dX12_next_25 (fun σ6 H6 locs6 u6 v6 hR hP hS => ?_)
    have hF := hF.puts u6 0 rfl (by decide) (by decide) (by decide) (by decide)
    have t7 : (σ6 387 3).toInt = (σ 387 3).toInt := congrArg Int32.toInt (u6 387 3 (by omega))
    have t8 : (σ6 387 11).toInt = (σ 387 11).toInt := congrArg Int32.toInt (u6 387 11 (by omega))
    refine lv_goto (tgt := 0) hx hb dX12_next_28 (by decide) ?_
    exact K0 σ6 τ1 H6 locs6  ls hR hF hP hS (by omega) (by omega) (by omega) (lv_sub hl [0] rfl) (by omega)
  · refine lv_aload_n hx hb dX12_next_9 rfl (lv_at hl 0 rfl) ?_
    refine r_cVi (k := 387) (As := []) (rest := []) ⟨hx, hb, hml, hown, hts⟩ hK hP hN hS (c_X12_peek l D cA ad hI σ τ1 hR) (cwV 0 hts gX12_next_X12_peek rfl rfl rfl (by decide +kernel) ⟨by decide, by decide⟩) (rv_M hK hP (by decide) (by decide)) rfl hl.1 rfl (Nat.le_of_ble_eq_true rfl) dX12_next_10 (Nat.zero_le _) (Nat.zero_le _) (fun r9 u9 H9 locs9 hp9 hP hS => ?_)
    obtain ⟨σ9, τ9⟩ := u9
    obtain ⟨hR, f9, hq9, hp9_0⟩ : P_X12_peek σ r9 σ9 := hp9
    have hP : va_P D vwCl (gw cA ad σ9 τ9) H9 := hP
    obtain rfl := Fr.nil f9
    refine r_bipush hx hb dX12_next_13 (by decide) (fun z10 ez10 => ?_)
    refine r_icmp_ne (tgt := 31) hx hb dX12_next_15 (by decide) (fun c11 => ?_) (fun c11 => ?_)
    · refine lv_aload_n hx hb dX12_next_31 rfl (lv_at hl 0 rfl) ?_
      refine lv_aload_n hx hb dX12_next_32 rfl (lv_at hl 0 rfl) ?_
      refine fg_12_4 (k := 387) hx hb hts in_X12_next_12 hown hK hP (by decide) (by decide) (hts _ lk_X12_next_21) dX12_next_33 ?_
      refine fp_12_12 (k := 387) hx hb hts in_X12_next_12 hown hK hP (by decide) (by decide) (hts _ lk_X12_next_153) hI hR hS dX12_next_36 (fun σ12 H12 locs12 u12 v12 hR hP hS => ?_)
      have hF := hF.puts u12 1 rfl (by decide) (by decide) (by decide) (by decide)
      have t13 : (σ12 387 3).toInt = (σ 387 3).toInt := congrArg Int32.toInt (u12 387 3 (by omega))
      have t14 : (σ12 387 11).toInt = (σ 387 11).toInt := congrArg Int32.toInt (u12 387 11 (by omega))
      have t15 : (σ12 387 4).toInt = (σ 387 4).toInt := congrArg Int32.toInt (u12 387 4 (by omega))
      refine lv_aload_n hx hb dX12_next_39 rfl (lv_at hl 0 rfl) ?_
      refine r_iconst hx hb dX12_next_40 (by decide) (fun z16 ez16 => ?_)
      refine fp_12_13 (k := 387) hx hb hts in_X12_next_12 hown hK hP (by decide) (by decide) (hts _ lk_X12_next_156) hI hR hS dX12_next_41 (fun σ17 H17 locs17 u17 v17 hR hP hS => ?_)
      have hF := hF.puts u17 1 rfl (by decide) (by decide) (by decide) (by decide)
      have t18 : (σ17 387 3).toInt = (σ12 387 3).toInt := congrArg Int32.toInt (u17 387 3 (by omega))
      have t19 : (σ17 387 11).toInt = (σ12 387 11).toInt := congrArg Int32.toInt (u17 387 11 (by omega))
      have t20 : (σ17 387 4).toInt = (σ12 387 4).toInt := congrArg Int32.toInt (u17 387 4 (by omega))
      refine lv_aload_n hx hb dX12_next_44 rfl (lv_at hl 0 rfl) ?_
      refine fg_12_3 (k := 387) hx hb hts in_X12_next_12 hown hK hP (by decide) (by decide) (hts _ lk_X12_next_18) dX12_next_45 ?_
      refine lv_aload_n hx hb dX12_next_48 rfl (lv_at hl 0 rfl) ?_
      refine fg_12_5 (k := 387) hx hb hts in_X12_next_12 hown hK hP (by decide) (by decide) (hts _ lk_X12_next_24) dX12_next_49 ?_
      have hr21 := rg_12_5 hR (k := 387) (by decide) (by decide)
      refine r_icmp_le (tgt := 80) hx hb dX12_next_52 (by decide) (fun c22 => ?_) (fun c22 => ?_)
      · exact K80 σ17 τ9 H17 locs17  ls hR hF hP hS (by omega) (by omega) (by omega) (by omega) (by omega) (lv_sub hl [0] rfl) (by omega)
      · refine lv_aload_n hx hb dX12_next_55 rfl (lv_at hl 0 rfl) ?_
        refine fg_12_4 (k := 387) hx hb hts in_X12_next_12 hown hK hP (by decide) (by decide) (hts _ lk_X12_next_21) dX12_next_56 ?_
        refine lv_aload_n hx hb dX12_next_59 rfl (lv_at hl 0 rfl) ?_
        refine fg_12_5 (k := 387) hx hb hts in_X12_next_12 hown hK hP (by decide) (by decide) (hts _ lk_X12_next_24) dX12_next_60 ?_
        refine r_icmp_lt (tgt := 80) hx hb dX12_next_63 (by decide) (fun c23 => ?_) (fun c23 => ?_)
        · exact K80 σ17 τ9 H17 locs17  ls hR hF hP hS (by omega) (by omega) (by omega) (by omega) (by omega) (lv_sub hl [0] rfl) (by omega)
        · refine lv_aload_n hx hb dX12_next_66 rfl (lv_at hl 0 rfl) ?_
          refine lv_aload_n hx hb dX12_next_67 rfl (lv_at hl 0 rfl) ?_
          refine fg_12_5 (k := 387) hx hb hts in_X12_next_12 hown hK hP (by decide) (by decide) (hts _ lk_X12_next_24) dX12_next_68 ?_
          refine fp_12_12 (k := 387) hx hb hts in_X12_next_12 hown hK hP (by decide) (by decide) (hts _ lk_X12_next_153) hI hR hS dX12_next_71 (fun σ24 H24 locs24 u24 v24 hR hP hS => ?_)
          have hF := hF.puts u24 1 rfl (by decide) (by decide) (by decide) (by decide)
          have t25 : (σ24 387 3).toInt = (σ17 387 3).toInt := congrArg Int32.toInt (u24 387 3 (by omega))
          have t26 : (σ24 387 11).toInt = (σ17 387 11).toInt := congrArg Int32.toInt (u24 387 11 (by omega))
          have t27 : (σ24 387 4).toInt = (σ17 387 4).toInt := congrArg Int32.toInt (u24 387 4 (by omega))
          have t28 : (σ24 387 13).toInt = (σ17 387 13).toInt := congrArg Int32.toInt (u24 387 13 (by omega))
          have t29 : (σ24 387 5).toInt = (σ17 387 5).toInt := congrArg Int32.toInt (u24 387 5 (by omega))
          refine lv_aload_n hx hb dX12_next_74 rfl (lv_at hl 0 rfl) ?_
          refine r_iconst hx hb dX12_next_75 (by decide) (fun z30 ez30 => ?_)
          refine fp_12_11 (k := 387) hx hb hts in_X12_next_12 hown hK hP (by decide) (by decide) (hts _ lk_X12_next_159) hI hR hS dX12_next_76 (fun σ31 H31 locs31 u31 v31 hR hP hS => ?_)
          have hF := hF.puts u31 1 rfl (by decide) (by decide) (by decide) (by decide)
          have t32 : (σ31 387 3).toInt = (σ24 387 3).toInt := congrArg Int32.toInt (u31 387 3 (by omega))
          have t33 : (σ31 387 4).toInt = (σ24 387 4).toInt := congrArg Int32.toInt (u31 387 4 (by omega))
          have t34 : (σ31 387 13).toInt = (σ24 387 13).toInt := congrArg Int32.toInt (u31 387 13 (by omega))
          have t35 : (σ31 387 5).toInt = (σ24 387 5).toInt := congrArg Int32.toInt (u31 387 5 (by omega))
          exact r_vret hx hb hr hK hP hS hk dX12_next_79 (show P_X12_next σ0 σ31 from ⟨hR, hF, by omega, by omega, by omega⟩)
    · refine lv_aload_n hx hb dX12_next_18 rfl (lv_at hl 0 rfl) ?_
      refine lv_dup hx hb dX12_next_19 rfl ?_
      refine fg_12_4 (k := 387) hx hb hts in_X12_next_12 hown hK hP (by decide) (by decide) (hts _ lk_X12_next_21) dX12_next_20 ?_
      refine r_iconst hx hb dX12_next_23 (by decide) (fun z36 ez36 => ?_)
      refine r_iadd hx hb dX12_next_24 (by omega) (fun z37 ez37 => ?_)
      refine fp_12_4 (k := 387) hx hb hts in_X12_next_12 hown hK hP (by decide) (by decide) (hts _ lk_X12_next_21) hI hR hS (by omega) dX12_next_25 (fun σ38 H38 locs38 u38 v38 hR hP hS => ?_)
      have hF := hF.puts u38 0 rfl (by decide) (by decide) (by decide) (by decide)
      have t39 : (σ38 387 3).toInt = (σ 387 3).toInt := congrArg Int32.toInt (u38 387 3 (by omega))
      have t40 : (σ38 387 11).toInt = (σ 387 11).toInt := congrArg Int32.toInt (u38 387 11 (by omega))
      refine lv_goto (tgt := 0) hx hb dX12_next_28 (by decide) ?_
      exact K0 σ38 τ9 H38 locs38  ls hR hF hP hS (by omega) (by omega) (by omega) (lv_sub hl [0] rfl) (by omega)
set_option maxHeartbeats 4000000 in
theorem B_X12_next_80 (p : Program) (l : Launch) (e : Env) (s : State) (m : MethodId) (args : Array Value) (below : List Frame) (meth : Method) (c : Code) (D : va_G) (cA : Nat → ClassId) (ad : Nat → Nat) (σ0 : Nat → Nat → Int32)  (n : Nat) (C : Cy p s m args meth c cX12_next 4 wsX12_next RX12 D cA ad none)  (K0 : J_X12_next_0 p l e s m args below meth c D cA ad σ0 n) (K80 : J_X12_next_80 p l e s m args below meth c D cA ad σ0 n) (K181 : J_X12_next_181 p l e s m args below meth c D cA ad σ0 n) (K221 : J_X12_next_221 p l e s m args below meth c D cA ad σ0 n) (K248 : J_X12_next_248 p l e s m args below meth c D cA ad σ0 n) : J_X12_next_80 p l e s m args below meth c D cA ad σ0 (n + 1) := by
  obtain ⟨hx, hb, hml, hown, hts, hK, hk, hr, hI, hN⟩ := C
  intro σ τ H locs ls hR hF hP hS hc0 hc1 hc2 hc3 hi0 hl hm
  refine lv_aload_n hx hb dX12_next_80 rfl (lv_at hl 0 rfl) ?_
  refine r_cVi (k := 387) (As := []) (rest := []) ⟨hx, hb, hml, hown, hts⟩ hK hP hN hS (c_X12_peek l D cA ad hI σ τ hR) (cwV 0 hts gX12_next_X12_peek rfl rfl rfl (by decide +kernel) ⟨by decide, by decide⟩) (rv_M hK hP (by decide) (by decide)) rfl hl.1 rfl (Nat.le_of_ble_eq_true rfl) dX12_next_81 (Nat.zero_le _) (Nat.zero_le _) (fun r1 u1 H1 locs1 hp1 hP hS => ?_)
  obtain ⟨σ1, τ1⟩ := u1
  obtain ⟨hR, f1, hq1, hp1_0⟩ : P_X12_peek σ r1 σ1 := hp1
  have hP : va_P D vwCl (gw cA ad σ1 τ1) H1 := hP
  obtain rfl := Fr.nil f1
  refine lv_istore_n (lv' := [(1, .int r1), (0, .ref (ad 387))]) hx hb dX12_next_84 rfl hl (by decide) rfl (fun ls hl => ?_)
  refine lv_iload_n hx hb dX12_next_85 rfl (lv_at hl 0 rfl) ?_
  refine r_if_ge (tgt := 95) hx hb dX12_next_86 (by decide) (fun c2 => ?_) (fun c2 => ?_)
  · refine lv_iload_n hx hb dX12_next_95 rfl (lv_at hl 0 rfl) ?_
    refine r_cSi (As := [.int r1]) (rest := []) ⟨hx, hb, hml, hown, hts⟩ hK hP hN hS (c_X12_isSmall l D cA ad hI σ τ1 hR r1 (by omega)) (va_cwS 1 hts gX12_next_X12_isSmall rfl rfl rfl (by decide +kernel) ⟨by decide, by decide⟩) rfl hl.1 rfl (Nat.le_of_ble_eq_true rfl) dX12_next_96 (Nat.zero_le _) (Nat.zero_le _) (fun r3 u3 H3 locs3 hp3 hP hS => ?_)
    obtain ⟨σ3, τ3⟩ := u3
    obtain ⟨hR, f3, hq3, hp3_0⟩ : P_X12_isSmall σ r1 r3 σ3 := hp3
    have hP : va_P D vwCl (gw cA ad σ3 τ3) H3 := hP
    obtain rfl := Fr.nil f3
    refine r_if_ne (tgt := 164) hx hb dX12_next_99 (by decide) (fun c4 => ?_) (fun c4 => ?_)
    · refine lv_iload_n hx hb dX12_next_164 rfl (lv_at hl 0 rfl) ?_
      refine r_cSi (As := [.int r1]) (rest := []) ⟨hx, hb, hml, hown, hts⟩ hK hP hN hS (c_X12_isSmall l D cA ad hI σ τ3 hR r1 (by omega)) (va_cwS 1 hts gX12_next_X12_isSmall rfl rfl rfl (by decide +kernel) ⟨by decide, by decide⟩) rfl hl.1 rfl (Nat.le_of_ble_eq_true rfl) dX12_next_165 (Nat.zero_le _) (Nat.zero_le _) (fun r5 u5 H5 locs5 hp5 hP hS => ?_)
      obtain ⟨σ5, τ5⟩ := u5
      obtain ⟨hR, f5, hq5, hp5_0⟩ : P_X12_isSmall σ r1 r5 σ5 := hp5
      have hP : va_P D vwCl (gw cA ad σ5 τ5) H5 := hP
      obtain rfl := Fr.nil f5
      refine lv_istore_n (lv' := [(2, .int r5), (1, .int r1), (0, .ref (ad 387))]) hx hb dX12_next_168 rfl hl (by decide) rfl (fun ls hl => ?_)
      refine r_iconst hx hb dX12_next_169 (by decide) (fun z6 ez6 => ?_)
      refine lv_istore_n (lv' := [(3, .int z6), (2, .int r5), (1, .int r1), (0, .ref (ad 387))]) hx hb dX12_next_170 rfl hl (by decide) rfl (fun ls hl => ?_)
      refine lv_aload_n hx hb dX12_next_171 rfl (lv_at hl 3 rfl) ?_
      refine lv_lconst (v := 0) hx hb dX12_next_172 (by decide) ?_
      refine fp_12_17 (k := 387) hx hb hts in_X12_next_12 hown hK hP (by decide) (by decide) (hts _ lk_X12_next_172) hI hS dX12_next_173 (fun τ7 H7 locs7 hP hS => ?_)
      refine lv_aload_n hx hb dX12_next_176 rfl (lv_at hl 3 rfl) ?_
      refine r_iconst hx hb dX12_next_177 (by decide) (fun z8 ez8 => ?_)
      refine fp_12_14 (k := 387) hx hb hts in_X12_next_12 hown hK hP (by decide) (by decide) (hts _ lk_X12_next_169) hI hR hS dX12_next_178 (fun σ9 H9 locs9 u9 v9 hR hP hS => ?_)
      have hF := hF.puts u9 1 rfl (by decide) (by decide) (by decide) (by decide)
      have t10 : (σ9 387 4).toInt = (σ 387 4).toInt := congrArg Int32.toInt (u9 387 4 (by omega))
      have t11 : (σ9 387 3).toInt = (σ 387 3).toInt := congrArg Int32.toInt (u9 387 3 (by omega))
      have t12 : (σ9 387 11).toInt = (σ 387 11).toInt := congrArg Int32.toInt (u9 387 11 (by omega))
      have t13 : (σ9 387 13).toInt = (σ 387 13).toInt := congrArg Int32.toInt (u9 387 13 (by omega))
      have t14 : (σ9 387 5).toInt = (σ 387 5).toInt := congrArg Int32.toInt (u9 387 5 (by omega))
      exact K181 σ9 τ7 H9 locs9 r1 r5 z6 ls hR hF hP hS (by omega) (by omega) (by omega) (by omega) (by omega) (by omega) (by omega) (lv_sub hl [3, 2, 1, 0] rfl) (by omega)
    · refine lv_iload_n hx hb dX12_next_102 rfl (lv_at hl 0 rfl) ?_
      refine r_cSi (As := [.int r1]) (rest := []) ⟨hx, hb, hml, hown, hts⟩ hK hP hN hS (c_X12_isDigit l D cA ad hI σ τ3 hR r1 (by omega)) (va_cwS 1 hts gX12_next_X12_isDigit rfl rfl rfl (by decide +kernel) ⟨by decide, by decide⟩) rfl hl.1 rfl (Nat.le_of_ble_eq_true rfl) dX12_next_103 (Nat.zero_le _) (Nat.zero_le _) (fun r15 u15 H15 locs15 hp15 hP hS => ?_)
      obtain ⟨σ15, τ15⟩ := u15
      obtain ⟨hR, f15, hq15, hp15_0⟩ : P_X12_isDigit σ r1 r15 σ15 := hp15
      have hP : va_P D vwCl (gw cA ad σ15 τ15) H15 := hP
      obtain rfl := Fr.nil f15
      refine r_if_ne (tgt := 164) hx hb dX12_next_106 (by decide) (fun c16 => ?_) (fun c16 => ?_)
      · refine lv_iload_n hx hb dX12_next_164 rfl (lv_at hl 0 rfl) ?_
        refine r_cSi (As := [.int r1]) (rest := []) ⟨hx, hb, hml, hown, hts⟩ hK hP hN hS (c_X12_isSmall l D cA ad hI σ τ15 hR r1 (by omega)) (va_cwS 1 hts gX12_next_X12_isSmall rfl rfl rfl (by decide +kernel) ⟨by decide, by decide⟩) rfl hl.1 rfl (Nat.le_of_ble_eq_true rfl) dX12_next_165 (Nat.zero_le _) (Nat.zero_le _) (fun r17 u17 H17 locs17 hp17 hP hS => ?_)
        obtain ⟨σ17, τ17⟩ := u17
        obtain ⟨hR, f17, hq17, hp17_0⟩ : P_X12_isSmall σ r1 r17 σ17 := hp17
        have hP : va_P D vwCl (gw cA ad σ17 τ17) H17 := hP
        obtain rfl := Fr.nil f17
        refine lv_istore_n (lv' := [(2, .int r17), (1, .int r1), (0, .ref (ad 387))]) hx hb dX12_next_168 rfl hl (by decide) rfl (fun ls hl => ?_)
        refine r_iconst hx hb dX12_next_169 (by decide) (fun z18 ez18 => ?_)
        refine lv_istore_n (lv' := [(3, .int z18), (2, .int r17), (1, .int r1), (0, .ref (ad 387))]) hx hb dX12_next_170 rfl hl (by decide) rfl (fun ls hl => ?_)
        refine lv_aload_n hx hb dX12_next_171 rfl (lv_at hl 3 rfl) ?_
        refine lv_lconst (v := 0) hx hb dX12_next_172 (by decide) ?_
        refine fp_12_17 (k := 387) hx hb hts in_X12_next_12 hown hK hP (by decide) (by decide) (hts _ lk_X12_next_172) hI hS dX12_next_173 (fun τ19 H19 locs19 hP hS => ?_)
        refine lv_aload_n hx hb dX12_next_176 rfl (lv_at hl 3 rfl) ?_
        refine r_iconst hx hb dX12_next_177 (by decide) (fun z20 ez20 => ?_)
        refine fp_12_14 (k := 387) hx hb hts in_X12_next_12 hown hK hP (by decide) (by decide) (hts _ lk_X12_next_169) hI hR hS dX12_next_178 (fun σ21 H21 locs21 u21 v21 hR hP hS => ?_)
        have hF := hF.puts u21 1 rfl (by decide) (by decide) (by decide) (by decide)
        have t22 : (σ21 387 4).toInt = (σ 387 4).toInt := congrArg Int32.toInt (u21 387 4 (by omega))
        have t23 : (σ21 387 3).toInt = (σ 387 3).toInt := congrArg Int32.toInt (u21 387 3 (by omega))
        have t24 : (σ21 387 11).toInt = (σ 387 11).toInt := congrArg Int32.toInt (u21 387 11 (by omega))
        have t25 : (σ21 387 13).toInt = (σ 387 13).toInt := congrArg Int32.toInt (u21 387 13 (by omega))
        have t26 : (σ21 387 5).toInt = (σ 387 5).toInt := congrArg Int32.toInt (u21 387 5 (by omega))
        exact K181 σ21 τ19 H21 locs21 r1 r17 z18 ls hR hF hP hS (by omega) (by omega) (by omega) (by omega) (by omega) (by omega) (by omega) (lv_sub hl [3, 2, 1, 0] rfl) (by omega)
      · refine lv_aload_n hx hb dX12_next_109 rfl (lv_at hl 1 rfl) ?_
        refine lv_iload_n hx hb dX12_next_110 rfl (lv_at hl 0 rfl) ?_
        refine r_bipush hx hb dX12_next_111 (by decide) (fun z27 ez27 => ?_)
        refine r_icmp_eq (tgt := 140) hx hb dX12_next_113 (by decide) (fun c28 => ?_) (fun c28 => ?_)
        · refine r_iconst hx hb dX12_next_140 (by decide) (fun z29 ez29 => ?_)
          refine lv_goto (tgt := 145) hx hb dX12_next_141 (by decide) ?_
          refine fp_12_11 (k := 387) hx hb hts in_X12_next_12 hown hK hP (by decide) (by decide) (hts _ lk_X12_next_159) hI hR hS dX12_next_145 (fun σ30 H30 locs30 u30 v30 hR hP hS => ?_)
          have hF := hF.puts u30 1 rfl (by decide) (by decide) (by decide) (by decide)
          have t31 : (σ30 387 4).toInt = (σ 387 4).toInt := congrArg Int32.toInt (u30 387 4 (by omega))
          have t32 : (σ30 387 3).toInt = (σ 387 3).toInt := congrArg Int32.toInt (u30 387 3 (by omega))
          have t33 : (σ30 387 13).toInt = (σ 387 13).toInt := congrArg Int32.toInt (u30 387 13 (by omega))
          have t34 : (σ30 387 5).toInt = (σ 387 5).toInt := congrArg Int32.toInt (u30 387 5 (by omega))
          refine lv_aload_n hx hb dX12_next_148 rfl (lv_at hl 1 rfl) ?_
          refine lv_iload_n hx hb dX12_next_149 rfl (lv_at hl 0 rfl) ?_
          refine fp_12_14 (k := 387) hx hb hts in_X12_next_12 hown hK hP (by decide) (by decide) (hts _ lk_X12_next_169) hI hR hS dX12_next_150 (fun σ35 H35 locs35 u35 v35 hR hP hS => ?_)
          have hF := hF.puts u35 1 rfl (by decide) (by decide) (by decide) (by decide)
          have t36 : (σ35 387 4).toInt = (σ30 387 4).toInt := congrArg Int32.toInt (u35 387 4 (by omega))
          have t37 : (σ35 387 3).toInt = (σ30 387 3).toInt := congrArg Int32.toInt (u35 387 3 (by omega))
          have t38 : (σ35 387 13).toInt = (σ30 387 13).toInt := congrArg Int32.toInt (u35 387 13 (by omega))
          have t39 : (σ35 387 5).toInt = (σ30 387 5).toInt := congrArg Int32.toInt (u35 387 5 (by omega))
          have t40 : (σ35 387 11).toInt = (σ30 387 11).toInt := congrArg Int32.toInt (u35 387 11 (by omega))
          refine lv_aload_n hx hb dX12_next_153 rfl (lv_at hl 1 rfl) ?_
          refine lv_dup hx hb dX12_next_154 rfl ?_
          refine fg_12_4 (k := 387) hx hb hts in_X12_next_12 hown hK hP (by decide) (by decide) (hts _ lk_X12_next_21) dX12_next_155 ?_
          refine r_iconst hx hb dX12_next_158 (by decide) (fun z41 ez41 => ?_)
          refine r_iadd hx hb dX12_next_159 (by omega) (fun z42 ez42 => ?_)
          refine fp_12_4 (k := 387) hx hb hts in_X12_next_12 hown hK hP (by decide) (by decide) (hts _ lk_X12_next_21) hI hR hS (by omega) dX12_next_160 (fun σ43 H43 locs43 u43 v43 hR hP hS => ?_)
          have hF := hF.puts u43 0 rfl (by decide) (by decide) (by decide) (by decide)
          have t44 : (σ43 387 3).toInt = (σ35 387 3).toInt := congrArg Int32.toInt (u43 387 3 (by omega))
          have t45 : (σ43 387 13).toInt = (σ35 387 13).toInt := congrArg Int32.toInt (u43 387 13 (by omega))
          have t46 : (σ43 387 5).toInt = (σ35 387 5).toInt := congrArg Int32.toInt (u43 387 5 (by omega))
          have t47 : (σ43 387 11).toInt = (σ35 387 11).toInt := congrArg Int32.toInt (u43 387 11 (by omega))
          exact r_vret hx hb hr hK hP hS hk dX12_next_163 (show P_X12_next σ0 σ43 from ⟨hR, hF, by omega, by omega, by omega⟩)
        · refine lv_iload_n hx hb dX12_next_116 rfl (lv_at hl 0 rfl) ?_
          refine r_bipush hx hb dX12_next_117 (by decide) (fun z48 ez48 => ?_)
          refine r_icmp_eq (tgt := 140) hx hb dX12_next_119 (by decide) (fun c49 => ?_) (fun c49 => ?_)
          · refine r_iconst hx hb dX12_next_140 (by decide) (fun z50 ez50 => ?_)
            refine lv_goto (tgt := 145) hx hb dX12_next_141 (by decide) ?_
            refine fp_12_11 (k := 387) hx hb hts in_X12_next_12 hown hK hP (by decide) (by decide) (hts _ lk_X12_next_159) hI hR hS dX12_next_145 (fun σ51 H51 locs51 u51 v51 hR hP hS => ?_)
            have hF := hF.puts u51 1 rfl (by decide) (by decide) (by decide) (by decide)
            have t52 : (σ51 387 4).toInt = (σ 387 4).toInt := congrArg Int32.toInt (u51 387 4 (by omega))
            have t53 : (σ51 387 3).toInt = (σ 387 3).toInt := congrArg Int32.toInt (u51 387 3 (by omega))
            have t54 : (σ51 387 13).toInt = (σ 387 13).toInt := congrArg Int32.toInt (u51 387 13 (by omega))
            have t55 : (σ51 387 5).toInt = (σ 387 5).toInt := congrArg Int32.toInt (u51 387 5 (by omega))
            refine lv_aload_n hx hb dX12_next_148 rfl (lv_at hl 1 rfl) ?_
            refine lv_iload_n hx hb dX12_next_149 rfl (lv_at hl 0 rfl) ?_
            refine fp_12_14 (k := 387) hx hb hts in_X12_next_12 hown hK hP (by decide) (by decide) (hts _ lk_X12_next_169) hI hR hS dX12_next_150 (fun σ56 H56 locs56 u56 v56 hR hP hS => ?_)
            have hF := hF.puts u56 1 rfl (by decide) (by decide) (by decide) (by decide)
            have t57 : (σ56 387 4).toInt = (σ51 387 4).toInt := congrArg Int32.toInt (u56 387 4 (by omega))
            have t58 : (σ56 387 3).toInt = (σ51 387 3).toInt := congrArg Int32.toInt (u56 387 3 (by omega))
            have t59 : (σ56 387 13).toInt = (σ51 387 13).toInt := congrArg Int32.toInt (u56 387 13 (by omega))
            have t60 : (σ56 387 5).toInt = (σ51 387 5).toInt := congrArg Int32.toInt (u56 387 5 (by omega))
            have t61 : (σ56 387 11).toInt = (σ51 387 11).toInt := congrArg Int32.toInt (u56 387 11 (by omega))
            refine lv_aload_n hx hb dX12_next_153 rfl (lv_at hl 1 rfl) ?_
            refine lv_dup hx hb dX12_next_154 rfl ?_
            refine fg_12_4 (k := 387) hx hb hts in_X12_next_12 hown hK hP (by decide) (by decide) (hts _ lk_X12_next_21) dX12_next_155 ?_
            refine r_iconst hx hb dX12_next_158 (by decide) (fun z62 ez62 => ?_)
            refine r_iadd hx hb dX12_next_159 (by omega) (fun z63 ez63 => ?_)
            refine fp_12_4 (k := 387) hx hb hts in_X12_next_12 hown hK hP (by decide) (by decide) (hts _ lk_X12_next_21) hI hR hS (by omega) dX12_next_160 (fun σ64 H64 locs64 u64 v64 hR hP hS => ?_)
            have hF := hF.puts u64 0 rfl (by decide) (by decide) (by decide) (by decide)
            have t65 : (σ64 387 3).toInt = (σ56 387 3).toInt := congrArg Int32.toInt (u64 387 3 (by omega))
            have t66 : (σ64 387 13).toInt = (σ56 387 13).toInt := congrArg Int32.toInt (u64 387 13 (by omega))
            have t67 : (σ64 387 5).toInt = (σ56 387 5).toInt := congrArg Int32.toInt (u64 387 5 (by omega))
            have t68 : (σ64 387 11).toInt = (σ56 387 11).toInt := congrArg Int32.toInt (u64 387 11 (by omega))
            exact r_vret hx hb hr hK hP hS hk dX12_next_163 (show P_X12_next σ0 σ64 from ⟨hR, hF, by omega, by omega, by omega⟩)
          · refine lv_iload_n hx hb dX12_next_122 rfl (lv_at hl 0 rfl) ?_
            refine r_bipush hx hb dX12_next_123 (by decide) (fun z69 ez69 => ?_)
            refine r_icmp_eq (tgt := 140) hx hb dX12_next_125 (by decide) (fun c70 => ?_) (fun c70 => ?_)
            · refine r_iconst hx hb dX12_next_140 (by decide) (fun z71 ez71 => ?_)
              refine lv_goto (tgt := 145) hx hb dX12_next_141 (by decide) ?_
              refine fp_12_11 (k := 387) hx hb hts in_X12_next_12 hown hK hP (by decide) (by decide) (hts _ lk_X12_next_159) hI hR hS dX12_next_145 (fun σ72 H72 locs72 u72 v72 hR hP hS => ?_)
              have hF := hF.puts u72 1 rfl (by decide) (by decide) (by decide) (by decide)
              have t73 : (σ72 387 4).toInt = (σ 387 4).toInt := congrArg Int32.toInt (u72 387 4 (by omega))
              have t74 : (σ72 387 3).toInt = (σ 387 3).toInt := congrArg Int32.toInt (u72 387 3 (by omega))
              have t75 : (σ72 387 13).toInt = (σ 387 13).toInt := congrArg Int32.toInt (u72 387 13 (by omega))
              have t76 : (σ72 387 5).toInt = (σ 387 5).toInt := congrArg Int32.toInt (u72 387 5 (by omega))
              refine lv_aload_n hx hb dX12_next_148 rfl (lv_at hl 1 rfl) ?_
              refine lv_iload_n hx hb dX12_next_149 rfl (lv_at hl 0 rfl) ?_
              refine fp_12_14 (k := 387) hx hb hts in_X12_next_12 hown hK hP (by decide) (by decide) (hts _ lk_X12_next_169) hI hR hS dX12_next_150 (fun σ77 H77 locs77 u77 v77 hR hP hS => ?_)
              have hF := hF.puts u77 1 rfl (by decide) (by decide) (by decide) (by decide)
              have t78 : (σ77 387 4).toInt = (σ72 387 4).toInt := congrArg Int32.toInt (u77 387 4 (by omega))
              have t79 : (σ77 387 3).toInt = (σ72 387 3).toInt := congrArg Int32.toInt (u77 387 3 (by omega))
              have t80 : (σ77 387 13).toInt = (σ72 387 13).toInt := congrArg Int32.toInt (u77 387 13 (by omega))
              have t81 : (σ77 387 5).toInt = (σ72 387 5).toInt := congrArg Int32.toInt (u77 387 5 (by omega))
              have t82 : (σ77 387 11).toInt = (σ72 387 11).toInt := congrArg Int32.toInt (u77 387 11 (by omega))
              refine lv_aload_n hx hb dX12_next_153 rfl (lv_at hl 1 rfl) ?_
              refine lv_dup hx hb dX12_next_154 rfl ?_
              refine fg_12_4 (k := 387) hx hb hts in_X12_next_12 hown hK hP (by decide) (by decide) (hts _ lk_X12_next_21) dX12_next_155 ?_
              refine r_iconst hx hb dX12_next_158 (by decide) (fun z83 ez83 => ?_)
              refine r_iadd hx hb dX12_next_159 (by omega) (fun z84 ez84 => ?_)
              refine fp_12_4 (k := 387) hx hb hts in_X12_next_12 hown hK hP (by decide) (by decide) (hts _ lk_X12_next_21) hI hR hS (by omega) dX12_next_160 (fun σ85 H85 locs85 u85 v85 hR hP hS => ?_)
              have hF := hF.puts u85 0 rfl (by decide) (by decide) (by decide) (by decide)
              have t86 : (σ85 387 3).toInt = (σ77 387 3).toInt := congrArg Int32.toInt (u85 387 3 (by omega))
              have t87 : (σ85 387 13).toInt = (σ77 387 13).toInt := congrArg Int32.toInt (u85 387 13 (by omega))
              have t88 : (σ85 387 5).toInt = (σ77 387 5).toInt := congrArg Int32.toInt (u85 387 5 (by omega))
              have t89 : (σ85 387 11).toInt = (σ77 387 11).toInt := congrArg Int32.toInt (u85 387 11 (by omega))
              exact r_vret hx hb hr hK hP hS hk dX12_next_163 (show P_X12_next σ0 σ85 from ⟨hR, hF, by omega, by omega, by omega⟩)
            · refine lv_iload_n hx hb dX12_next_128 rfl (lv_at hl 0 rfl) ?_
              refine r_bipush hx hb dX12_next_129 (by decide) (fun z90 ez90 => ?_)
              refine r_icmp_lt (tgt := 144) hx hb dX12_next_131 (by decide) (fun c91 => ?_) (fun c91 => ?_)
              · refine r_iconst hx hb dX12_next_144 (by decide) (fun z92 ez92 => ?_)
                refine fp_12_11 (k := 387) hx hb hts in_X12_next_12 hown hK hP (by decide) (by decide) (hts _ lk_X12_next_159) hI hR hS dX12_next_145 (fun σ93 H93 locs93 u93 v93 hR hP hS => ?_)
                have hF := hF.puts u93 1 rfl (by decide) (by decide) (by decide) (by decide)
                have t94 : (σ93 387 4).toInt = (σ 387 4).toInt := congrArg Int32.toInt (u93 387 4 (by omega))
                have t95 : (σ93 387 3).toInt = (σ 387 3).toInt := congrArg Int32.toInt (u93 387 3 (by omega))
                have t96 : (σ93 387 13).toInt = (σ 387 13).toInt := congrArg Int32.toInt (u93 387 13 (by omega))
                have t97 : (σ93 387 5).toInt = (σ 387 5).toInt := congrArg Int32.toInt (u93 387 5 (by omega))
                refine lv_aload_n hx hb dX12_next_148 rfl (lv_at hl 1 rfl) ?_
                refine lv_iload_n hx hb dX12_next_149 rfl (lv_at hl 0 rfl) ?_
                refine fp_12_14 (k := 387) hx hb hts in_X12_next_12 hown hK hP (by decide) (by decide) (hts _ lk_X12_next_169) hI hR hS dX12_next_150 (fun σ98 H98 locs98 u98 v98 hR hP hS => ?_)
                have hF := hF.puts u98 1 rfl (by decide) (by decide) (by decide) (by decide)
                have t99 : (σ98 387 4).toInt = (σ93 387 4).toInt := congrArg Int32.toInt (u98 387 4 (by omega))
                have t100 : (σ98 387 3).toInt = (σ93 387 3).toInt := congrArg Int32.toInt (u98 387 3 (by omega))
                have t101 : (σ98 387 13).toInt = (σ93 387 13).toInt := congrArg Int32.toInt (u98 387 13 (by omega))
                have t102 : (σ98 387 5).toInt = (σ93 387 5).toInt := congrArg Int32.toInt (u98 387 5 (by omega))
                have t103 : (σ98 387 11).toInt = (σ93 387 11).toInt := congrArg Int32.toInt (u98 387 11 (by omega))
                refine lv_aload_n hx hb dX12_next_153 rfl (lv_at hl 1 rfl) ?_
                refine lv_dup hx hb dX12_next_154 rfl ?_
                refine fg_12_4 (k := 387) hx hb hts in_X12_next_12 hown hK hP (by decide) (by decide) (hts _ lk_X12_next_21) dX12_next_155 ?_
                refine r_iconst hx hb dX12_next_158 (by decide) (fun z104 ez104 => ?_)
                refine r_iadd hx hb dX12_next_159 (by omega) (fun z105 ez105 => ?_)
                refine fp_12_4 (k := 387) hx hb hts in_X12_next_12 hown hK hP (by decide) (by decide) (hts _ lk_X12_next_21) hI hR hS (by omega) dX12_next_160 (fun σ106 H106 locs106 u106 v106 hR hP hS => ?_)
                have hF := hF.puts u106 0 rfl (by decide) (by decide) (by decide) (by decide)
                have t107 : (σ106 387 3).toInt = (σ98 387 3).toInt := congrArg Int32.toInt (u106 387 3 (by omega))
                have t108 : (σ106 387 13).toInt = (σ98 387 13).toInt := congrArg Int32.toInt (u106 387 13 (by omega))
                have t109 : (σ106 387 5).toInt = (σ98 387 5).toInt := congrArg Int32.toInt (u106 387 5 (by omega))
                have t110 : (σ106 387 11).toInt = (σ98 387 11).toInt := congrArg Int32.toInt (u106 387 11 (by omega))
                exact r_vret hx hb hr hK hP hS hk dX12_next_163 (show P_X12_next σ0 σ106 from ⟨hR, hF, by omega, by omega, by omega⟩)
              · refine lv_iload_n hx hb dX12_next_134 rfl (lv_at hl 0 rfl) ?_
                refine r_bipush hx hb dX12_next_135 (by decide) (fun z111 ez111 => ?_)
                refine r_icmp_gt (tgt := 144) hx hb dX12_next_137 (by decide) (fun c112 => ?_) (fun c112 => ?_)
                · refine r_iconst hx hb dX12_next_144 (by decide) (fun z113 ez113 => ?_)
                  refine fp_12_11 (k := 387) hx hb hts in_X12_next_12 hown hK hP (by decide) (by decide) (hts _ lk_X12_next_159) hI hR hS dX12_next_145 (fun σ114 H114 locs114 u114 v114 hR hP hS => ?_)
                  have hF := hF.puts u114 1 rfl (by decide) (by decide) (by decide) (by decide)
                  have t115 : (σ114 387 4).toInt = (σ 387 4).toInt := congrArg Int32.toInt (u114 387 4 (by omega))
                  have t116 : (σ114 387 3).toInt = (σ 387 3).toInt := congrArg Int32.toInt (u114 387 3 (by omega))
                  have t117 : (σ114 387 13).toInt = (σ 387 13).toInt := congrArg Int32.toInt (u114 387 13 (by omega))
                  have t118 : (σ114 387 5).toInt = (σ 387 5).toInt := congrArg Int32.toInt (u114 387 5 (by omega))
                  refine lv_aload_n hx hb dX12_next_148 rfl (lv_at hl 1 rfl) ?_
                  refine lv_iload_n hx hb dX12_next_149 rfl (lv_at hl 0 rfl) ?_
                  refine fp_12_14 (k := 387) hx hb hts in_X12_next_12 hown hK hP (by decide) (by decide) (hts _ lk_X12_next_169) hI hR hS dX12_next_150 (fun σ119 H119 locs119 u119 v119 hR hP hS => ?_)
                  have hF := hF.puts u119 1 rfl (by decide) (by decide) (by decide) (by decide)
                  have t120 : (σ119 387 4).toInt = (σ114 387 4).toInt := congrArg Int32.toInt (u119 387 4 (by omega))
                  have t121 : (σ119 387 3).toInt = (σ114 387 3).toInt := congrArg Int32.toInt (u119 387 3 (by omega))
                  have t122 : (σ119 387 13).toInt = (σ114 387 13).toInt := congrArg Int32.toInt (u119 387 13 (by omega))
                  have t123 : (σ119 387 5).toInt = (σ114 387 5).toInt := congrArg Int32.toInt (u119 387 5 (by omega))
                  have t124 : (σ119 387 11).toInt = (σ114 387 11).toInt := congrArg Int32.toInt (u119 387 11 (by omega))
                  refine lv_aload_n hx hb dX12_next_153 rfl (lv_at hl 1 rfl) ?_
                  refine lv_dup hx hb dX12_next_154 rfl ?_
                  refine fg_12_4 (k := 387) hx hb hts in_X12_next_12 hown hK hP (by decide) (by decide) (hts _ lk_X12_next_21) dX12_next_155 ?_
                  refine r_iconst hx hb dX12_next_158 (by decide) (fun z125 ez125 => ?_)
                  refine r_iadd hx hb dX12_next_159 (by omega) (fun z126 ez126 => ?_)
                  refine fp_12_4 (k := 387) hx hb hts in_X12_next_12 hown hK hP (by decide) (by decide) (hts _ lk_X12_next_21) hI hR hS (by omega) dX12_next_160 (fun σ127 H127 locs127 u127 v127 hR hP hS => ?_)
                  have hF := hF.puts u127 0 rfl (by decide) (by decide) (by decide) (by decide)
                  have t128 : (σ127 387 3).toInt = (σ119 387 3).toInt := congrArg Int32.toInt (u127 387 3 (by omega))
                  have t129 : (σ127 387 13).toInt = (σ119 387 13).toInt := congrArg Int32.toInt (u127 387 13 (by omega))
                  have t130 : (σ127 387 5).toInt = (σ119 387 5).toInt := congrArg Int32.toInt (u127 387 5 (by omega))
                  have t131 : (σ127 387 11).toInt = (σ119 387 11).toInt := congrArg Int32.toInt (u127 387 11 (by omega))
                  exact r_vret hx hb hr hK hP hS hk dX12_next_163 (show P_X12_next σ0 σ127 from ⟨hR, hF, by omega, by omega, by omega⟩)
                · refine r_iconst hx hb dX12_next_140 (by decide) (fun z132 ez132 => ?_)
                  refine lv_goto (tgt := 145) hx hb dX12_next_141 (by decide) ?_
                  refine fp_12_11 (k := 387) hx hb hts in_X12_next_12 hown hK hP (by decide) (by decide) (hts _ lk_X12_next_159) hI hR hS dX12_next_145 (fun σ133 H133 locs133 u133 v133 hR hP hS => ?_)
                  have hF := hF.puts u133 1 rfl (by decide) (by decide) (by decide) (by decide)
                  have t134 : (σ133 387 4).toInt = (σ 387 4).toInt := congrArg Int32.toInt (u133 387 4 (by omega))
                  have t135 : (σ133 387 3).toInt = (σ 387 3).toInt := congrArg Int32.toInt (u133 387 3 (by omega))
                  have t136 : (σ133 387 13).toInt = (σ 387 13).toInt := congrArg Int32.toInt (u133 387 13 (by omega))
                  have t137 : (σ133 387 5).toInt = (σ 387 5).toInt := congrArg Int32.toInt (u133 387 5 (by omega))
                  refine lv_aload_n hx hb dX12_next_148 rfl (lv_at hl 1 rfl) ?_
                  refine lv_iload_n hx hb dX12_next_149 rfl (lv_at hl 0 rfl) ?_
                  refine fp_12_14 (k := 387) hx hb hts in_X12_next_12 hown hK hP (by decide) (by decide) (hts _ lk_X12_next_169) hI hR hS dX12_next_150 (fun σ138 H138 locs138 u138 v138 hR hP hS => ?_)
                  have hF := hF.puts u138 1 rfl (by decide) (by decide) (by decide) (by decide)
                  have t139 : (σ138 387 4).toInt = (σ133 387 4).toInt := congrArg Int32.toInt (u138 387 4 (by omega))
                  have t140 : (σ138 387 3).toInt = (σ133 387 3).toInt := congrArg Int32.toInt (u138 387 3 (by omega))
                  have t141 : (σ138 387 13).toInt = (σ133 387 13).toInt := congrArg Int32.toInt (u138 387 13 (by omega))
                  have t142 : (σ138 387 5).toInt = (σ133 387 5).toInt := congrArg Int32.toInt (u138 387 5 (by omega))
                  have t143 : (σ138 387 11).toInt = (σ133 387 11).toInt := congrArg Int32.toInt (u138 387 11 (by omega))
                  refine lv_aload_n hx hb dX12_next_153 rfl (lv_at hl 1 rfl) ?_
                  refine lv_dup hx hb dX12_next_154 rfl ?_
                  refine fg_12_4 (k := 387) hx hb hts in_X12_next_12 hown hK hP (by decide) (by decide) (hts _ lk_X12_next_21) dX12_next_155 ?_
                  refine r_iconst hx hb dX12_next_158 (by decide) (fun z144 ez144 => ?_)
                  refine r_iadd hx hb dX12_next_159 (by omega) (fun z145 ez145 => ?_)
                  refine fp_12_4 (k := 387) hx hb hts in_X12_next_12 hown hK hP (by decide) (by decide) (hts _ lk_X12_next_21) hI hR hS (by omega) dX12_next_160 (fun σ146 H146 locs146 u146 v146 hR hP hS => ?_)
                  have hF := hF.puts u146 0 rfl (by decide) (by decide) (by decide) (by decide)
                  have t147 : (σ146 387 3).toInt = (σ138 387 3).toInt := congrArg Int32.toInt (u146 387 3 (by omega))
                  have t148 : (σ146 387 13).toInt = (σ138 387 13).toInt := congrArg Int32.toInt (u146 387 13 (by omega))
                  have t149 : (σ146 387 5).toInt = (σ138 387 5).toInt := congrArg Int32.toInt (u146 387 5 (by omega))
                  have t150 : (σ146 387 11).toInt = (σ138 387 11).toInt := congrArg Int32.toInt (u146 387 11 (by omega))
                  exact r_vret hx hb hr hK hP hS hk dX12_next_163 (show P_X12_next σ0 σ146 from ⟨hR, hF, by omega, by omega, by omega⟩)
  · refine lv_aload_n hx hb dX12_next_89 rfl (lv_at hl 1 rfl) ?_
    refine r_iconst hx hb dX12_next_90 (by decide) (fun z151 ez151 => ?_)
    refine fp_12_11 (k := 387) hx hb hts in_X12_next_12 hown hK hP (by decide) (by decide) (hts _ lk_X12_next_159) hI hR hS dX12_next_91 (fun σ152 H152 locs152 u152 v152 hR hP hS => ?_)
    have hF := hF.puts u152 1 rfl (by decide) (by decide) (by decide) (by decide)
    have t153 : (σ152 387 4).toInt = (σ 387 4).toInt := congrArg Int32.toInt (u152 387 4 (by omega))
    have t154 : (σ152 387 3).toInt = (σ 387 3).toInt := congrArg Int32.toInt (u152 387 3 (by omega))
    have t155 : (σ152 387 13).toInt = (σ 387 13).toInt := congrArg Int32.toInt (u152 387 13 (by omega))
    have t156 : (σ152 387 5).toInt = (σ 387 5).toInt := congrArg Int32.toInt (u152 387 5 (by omega))
    exact r_vret hx hb hr hK hP hS hk dX12_next_94 (show P_X12_next σ0 σ152 from ⟨hR, hF, by omega, by omega, by omega⟩)
set_option maxHeartbeats 4000000 in
theorem B_X12_next_181 (p : Program) (l : Launch) (e : Env) (s : State) (m : MethodId) (args : Array Value) (below : List Frame) (meth : Method) (c : Code) (D : va_G) (cA : Nat → ClassId) (ad : Nat → Nat) (σ0 : Nat → Nat → Int32)  (n : Nat) (C : Cy p s m args meth c cX12_next 4 wsX12_next RX12 D cA ad none)  (K0 : J_X12_next_0 p l e s m args below meth c D cA ad σ0 n) (K80 : J_X12_next_80 p l e s m args below meth c D cA ad σ0 n) (K181 : J_X12_next_181 p l e s m args below meth c D cA ad σ0 n) (K221 : J_X12_next_221 p l e s m args below meth c D cA ad σ0 n) (K248 : J_X12_next_248 p l e s m args below meth c D cA ad σ0 n) : J_X12_next_181 p l e s m args below meth c D cA ad σ0 (n + 1) := by
  obtain ⟨hx, hb, hml, hown, hts, hK, hk, hr, hI, hN⟩ := C
  intro σ τ H locs x1 x2 x3 ls hR hF hP hS hc0 hc1 hc2 hc3 hc4 hc5 hi0 hl hm
  refine lv_aload_n hx hb dX12_next_181 rfl (lv_at hl 0 rfl) ?_
  refine r_cVi (k := 387) (As := []) (rest := []) ⟨hx, hb, hml, hown, hts⟩ hK hP hN hS (c_X12_peek l D cA ad hI σ τ hR) (cwV 0 hts gX12_next_X12_peek rfl rfl rfl (by decide +kernel) ⟨by decide, by decide⟩) (rv_M hK hP (by decide) (by decide)) rfl hl.1 rfl (Nat.le_of_ble_eq_true rfl) dX12_next_182 (Nat.zero_le _) (Nat.zero_le _) (fun r1 u1 H1 locs1 hp1 hP hS => ?_)
  obtain ⟨σ1, τ1⟩ := u1
  obtain ⟨hR, f1, hq1, hp1_0⟩ : P_X12_peek σ r1 σ1 := hp1
  have hP : va_P D vwCl (gw cA ad σ1 τ1) H1 := hP
  obtain rfl := Fr.nil f1
  refine r_cSi (As := [.int r1]) (rest := []) ⟨hx, hb, hml, hown, hts⟩ hK hP hN hS (c_X12_isSmall l D cA ad hI σ τ1 hR r1 (by omega)) (va_cwS 1 hts gX12_next_X12_isSmall rfl rfl rfl (by decide +kernel) ⟨by decide, by decide⟩) rfl hl.1 rfl (Nat.le_of_ble_eq_true rfl) dX12_next_185 (Nat.zero_le _) (Nat.zero_le _) (fun r2 u2 H2 locs2 hp2 hP hS => ?_)
  obtain ⟨σ2, τ2⟩ := u2
  obtain ⟨hR, f2, hq2, hp2_0⟩ : P_X12_isSmall σ r1 r2 σ2 := hp2
  have hP : va_P D vwCl (gw cA ad σ2 τ2) H2 := hP
  obtain rfl := Fr.nil f2
  refine r_if_ne (tgt := 201) hx hb dX12_next_188 (by decide) (fun c3 => ?_) (fun c3 => ?_)
  · refine lv_iload_n hx hb dX12_next_201 rfl (lv_at hl 3 rfl) ?_
    refine r_if_eq (tgt := 220) hx hb dX12_next_202 (by decide) (fun c4 => ?_) (fun c4 => ?_)
    · refine r_iconst hx hb dX12_next_220 (by decide) (fun z5 ez5 => ?_)
      exact K221 σ τ2 H2 locs2 x1 x2 x3 z5 ls hR hF hP hS (by omega) (by omega) (by omega) (by omega) (by omega) (by omega) (by omega) (by omega) (by omega) (lv_sub hl [0, 1, 2, 3] rfl) (by omega)
    · refine lv_aload_n hx hb dX12_next_205 rfl (lv_at hl 0 rfl) ?_
      refine r_cVi (k := 387) (As := []) (rest := []) ⟨hx, hb, hml, hown, hts⟩ hK hP hN hS (c_X12_peek l D cA ad hI σ τ2 hR) (cwV 0 hts gX12_next_X12_peek rfl rfl rfl (by decide +kernel) ⟨by decide, by decide⟩) (rv_M hK hP (by decide) (by decide)) rfl hl.1 rfl (Nat.le_of_ble_eq_true rfl) dX12_next_206 (Nat.zero_le _) (Nat.zero_le _) (fun r6 u6 H6 locs6 hp6 hP hS => ?_)
      obtain ⟨σ6, τ6⟩ := u6
      obtain ⟨hR, f6, hq6, hp6_0⟩ : P_X12_peek σ r6 σ6 := hp6
      have hP : va_P D vwCl (gw cA ad σ6 τ6) H6 := hP
      obtain rfl := Fr.nil f6
      refine r_cSi (As := [.int r6]) (rest := []) ⟨hx, hb, hml, hown, hts⟩ hK hP hN hS (c_X12_isSmall l D cA ad hI σ τ6 hR r6 (by omega)) (va_cwS 1 hts gX12_next_X12_isSmall rfl rfl rfl (by decide +kernel) ⟨by decide, by decide⟩) rfl hl.1 rfl (Nat.le_of_ble_eq_true rfl) dX12_next_209 (Nat.zero_le _) (Nat.zero_le _) (fun r7 u7 H7 locs7 hp7 hP hS => ?_)
      obtain ⟨σ7, τ7⟩ := u7
      obtain ⟨hR, f7, hq7, hp7_0⟩ : P_X12_isSmall σ r6 r7 σ7 := hp7
      have hP : va_P D vwCl (gw cA ad σ7 τ7) H7 := hP
      obtain rfl := Fr.nil f7
      refine lv_iload_n hx hb dX12_next_212 rfl (lv_at hl 2 rfl) ?_
      refine r_icmp_ne (tgt := 220) hx hb dX12_next_213 (by decide) (fun c8 => ?_) (fun c8 => ?_)
      · refine r_iconst hx hb dX12_next_220 (by decide) (fun z9 ez9 => ?_)
        exact K221 σ τ7 H7 locs7 x1 x2 x3 z9 ls hR hF hP hS (by omega) (by omega) (by omega) (by omega) (by omega) (by omega) (by omega) (by omega) (by omega) (lv_sub hl [0, 1, 2, 3] rfl) (by omega)
      · refine r_iconst hx hb dX12_next_216 (by decide) (fun z10 ez10 => ?_)
        refine lv_goto (tgt := 221) hx hb dX12_next_217 (by decide) ?_
        exact K221 σ τ7 H7 locs7 x1 x2 x3 z10 ls hR hF hP hS (by omega) (by omega) (by omega) (by omega) (by omega) (by omega) (by omega) (by omega) (by omega) (lv_sub hl [0, 1, 2, 3] rfl) (by omega)
  · refine lv_aload_n hx hb dX12_next_191 rfl (lv_at hl 0 rfl) ?_
    refine r_cVi (k := 387) (As := []) (rest := []) ⟨hx, hb, hml, hown, hts⟩ hK hP hN hS (c_X12_peek l D cA ad hI σ τ2 hR) (cwV 0 hts gX12_next_X12_peek rfl rfl rfl (by decide +kernel) ⟨by decide, by decide⟩) (rv_M hK hP (by decide) (by decide)) rfl hl.1 rfl (Nat.le_of_ble_eq_true rfl) dX12_next_192 (Nat.zero_le _) (Nat.zero_le _) (fun r11 u11 H11 locs11 hp11 hP hS => ?_)
    obtain ⟨σ11, τ11⟩ := u11
    obtain ⟨hR, f11, hq11, hp11_0⟩ : P_X12_peek σ r11 σ11 := hp11
    have hP : va_P D vwCl (gw cA ad σ11 τ11) H11 := hP
    obtain rfl := Fr.nil f11
    refine r_cSi (As := [.int r11]) (rest := []) ⟨hx, hb, hml, hown, hts⟩ hK hP hN hS (c_X12_isDigit l D cA ad hI σ τ11 hR r11 (by omega)) (va_cwS 1 hts gX12_next_X12_isDigit rfl rfl rfl (by decide +kernel) ⟨by decide, by decide⟩) rfl hl.1 rfl (Nat.le_of_ble_eq_true rfl) dX12_next_195 (Nat.zero_le _) (Nat.zero_le _) (fun r12 u12 H12 locs12 hp12 hP hS => ?_)
    obtain ⟨σ12, τ12⟩ := u12
    obtain ⟨hR, f12, hq12, hp12_0⟩ : P_X12_isDigit σ r11 r12 σ12 := hp12
    have hP : va_P D vwCl (gw cA ad σ12 τ12) H12 := hP
    obtain rfl := Fr.nil f12
    refine r_if_eq (tgt := 298) hx hb dX12_next_198 (by decide) (fun c13 => ?_) (fun c13 => ?_)
    · refine lv_aload_n hx hb dX12_next_298 rfl (lv_at hl 0 rfl) ?_
      refine lv_iload_n hx hb dX12_next_299 rfl (lv_at hl 3 rfl) ?_
      refine r_if_eq (tgt := 320) hx hb dX12_next_300 (by decide) (fun c14 => ?_) (fun c14 => ?_)
      · refine r_iconst hx hb dX12_next_320 (by decide) (fun z15 ez15 => ?_)
        refine lv_goto (tgt := 333) hx hb dX12_next_321 (by decide) ?_
        refine fp_12_11 (k := 387) hx hb hts in_X12_next_12 hown hK hP (by decide) (by decide) (hts _ lk_X12_next_159) hI hR hS dX12_next_333 (fun σ16 H16 locs16 u16 v16 hR hP hS => ?_)
        have hF := hF.puts u16 1 rfl (by decide) (by decide) (by decide) (by decide)
        have t17 : (σ16 387 4).toInt = (σ 387 4).toInt := congrArg Int32.toInt (u16 387 4 (by omega))
        have t18 : (σ16 387 3).toInt = (σ 387 3).toInt := congrArg Int32.toInt (u16 387 3 (by omega))
        have t19 : (σ16 387 13).toInt = (σ 387 13).toInt := congrArg Int32.toInt (u16 387 13 (by omega))
        have t20 : (σ16 387 5).toInt = (σ 387 5).toInt := congrArg Int32.toInt (u16 387 5 (by omega))
        exact r_vret hx hb hr hK hP hS hk dX12_next_336 (show P_X12_next σ0 σ16 from ⟨hR, hF, by omega, by omega, by omega⟩)
      · refine lv_aload_n hx hb dX12_next_303 rfl (lv_at hl 0 rfl) ?_
        refine fg_12_13 (k := 387) hx hb hts in_X12_next_12 hown hK hP (by decide) (by decide) (hts _ lk_X12_next_156) dX12_next_304 ?_
        refine lv_iload_n hx hb dX12_next_307 rfl (lv_at hl 2 rfl) ?_
        refine r_if_eq (tgt := 316) hx hb dX12_next_308 (by decide) (fun c21 => ?_) (fun c21 => ?_)
        · refine r_iconst hx hb dX12_next_316 (by decide) (fun z22 ez22 => ?_)
          refine r_icmp_le (tgt := 324) hx hb dX12_next_317 (by decide) (fun c23 => ?_) (fun c23 => ?_)
          · refine lv_iload_n hx hb dX12_next_324 rfl (lv_at hl 2 rfl) ?_
            refine r_if_eq (tgt := 332) hx hb dX12_next_325 (by decide) (fun c24 => ?_) (fun c24 => ?_)
            · refine r_iconst hx hb dX12_next_332 (by decide) (fun z25 ez25 => ?_)
              refine fp_12_11 (k := 387) hx hb hts in_X12_next_12 hown hK hP (by decide) (by decide) (hts _ lk_X12_next_159) hI hR hS dX12_next_333 (fun σ26 H26 locs26 u26 v26 hR hP hS => ?_)
              have hF := hF.puts u26 1 rfl (by decide) (by decide) (by decide) (by decide)
              have t27 : (σ26 387 4).toInt = (σ 387 4).toInt := congrArg Int32.toInt (u26 387 4 (by omega))
              have t28 : (σ26 387 3).toInt = (σ 387 3).toInt := congrArg Int32.toInt (u26 387 3 (by omega))
              have t29 : (σ26 387 13).toInt = (σ 387 13).toInt := congrArg Int32.toInt (u26 387 13 (by omega))
              have t30 : (σ26 387 5).toInt = (σ 387 5).toInt := congrArg Int32.toInt (u26 387 5 (by omega))
              exact r_vret hx hb hr hK hP hS hk dX12_next_336 (show P_X12_next σ0 σ26 from ⟨hR, hF, by omega, by omega, by omega⟩)
            · exfalso; omega
          · refine r_iconst hx hb dX12_next_320 (by decide) (fun z31 ez31 => ?_)
            refine lv_goto (tgt := 333) hx hb dX12_next_321 (by decide) ?_
            refine fp_12_11 (k := 387) hx hb hts in_X12_next_12 hown hK hP (by decide) (by decide) (hts _ lk_X12_next_159) hI hR hS dX12_next_333 (fun σ32 H32 locs32 u32 v32 hR hP hS => ?_)
            have hF := hF.puts u32 1 rfl (by decide) (by decide) (by decide) (by decide)
            have t33 : (σ32 387 4).toInt = (σ 387 4).toInt := congrArg Int32.toInt (u32 387 4 (by omega))
            have t34 : (σ32 387 3).toInt = (σ 387 3).toInt := congrArg Int32.toInt (u32 387 3 (by omega))
            have t35 : (σ32 387 13).toInt = (σ 387 13).toInt := congrArg Int32.toInt (u32 387 13 (by omega))
            have t36 : (σ32 387 5).toInt = (σ 387 5).toInt := congrArg Int32.toInt (u32 387 5 (by omega))
            exact r_vret hx hb hr hK hP hS hk dX12_next_336 (show P_X12_next σ0 σ32 from ⟨hR, hF, by omega, by omega, by omega⟩)
        · refine r_bipush hx hb dX12_next_311 (by decide) (fun z37 ez37 => ?_)
          refine lv_goto (tgt := 317) hx hb dX12_next_313 (by decide) ?_
          refine r_icmp_le (tgt := 324) hx hb dX12_next_317 (by decide) (fun c38 => ?_) (fun c38 => ?_)
          · refine lv_iload_n hx hb dX12_next_324 rfl (lv_at hl 2 rfl) ?_
            refine r_if_eq (tgt := 332) hx hb dX12_next_325 (by decide) (fun c39 => ?_) (fun c39 => ?_)
            · exfalso; omega
            · refine r_iconst hx hb dX12_next_328 (by decide) (fun z40 ez40 => ?_)
              refine lv_goto (tgt := 333) hx hb dX12_next_329 (by decide) ?_
              refine fp_12_11 (k := 387) hx hb hts in_X12_next_12 hown hK hP (by decide) (by decide) (hts _ lk_X12_next_159) hI hR hS dX12_next_333 (fun σ41 H41 locs41 u41 v41 hR hP hS => ?_)
              have hF := hF.puts u41 1 rfl (by decide) (by decide) (by decide) (by decide)
              have t42 : (σ41 387 4).toInt = (σ 387 4).toInt := congrArg Int32.toInt (u41 387 4 (by omega))
              have t43 : (σ41 387 3).toInt = (σ 387 3).toInt := congrArg Int32.toInt (u41 387 3 (by omega))
              have t44 : (σ41 387 13).toInt = (σ 387 13).toInt := congrArg Int32.toInt (u41 387 13 (by omega))
              have t45 : (σ41 387 5).toInt = (σ 387 5).toInt := congrArg Int32.toInt (u41 387 5 (by omega))
              exact r_vret hx hb hr hK hP hS hk dX12_next_336 (show P_X12_next σ0 σ41 from ⟨hR, hF, by omega, by omega, by omega⟩)
          · refine r_iconst hx hb dX12_next_320 (by decide) (fun z46 ez46 => ?_)
            refine lv_goto (tgt := 333) hx hb dX12_next_321 (by decide) ?_
            refine fp_12_11 (k := 387) hx hb hts in_X12_next_12 hown hK hP (by decide) (by decide) (hts _ lk_X12_next_159) hI hR hS dX12_next_333 (fun σ47 H47 locs47 u47 v47 hR hP hS => ?_)
            have hF := hF.puts u47 1 rfl (by decide) (by decide) (by decide) (by decide)
            have t48 : (σ47 387 4).toInt = (σ 387 4).toInt := congrArg Int32.toInt (u47 387 4 (by omega))
            have t49 : (σ47 387 3).toInt = (σ 387 3).toInt := congrArg Int32.toInt (u47 387 3 (by omega))
            have t50 : (σ47 387 13).toInt = (σ 387 13).toInt := congrArg Int32.toInt (u47 387 13 (by omega))
            have t51 : (σ47 387 5).toInt = (σ 387 5).toInt := congrArg Int32.toInt (u47 387 5 (by omega))
            exact r_vret hx hb hr hK hP hS hk dX12_next_336 (show P_X12_next σ0 σ47 from ⟨hR, hF, by omega, by omega, by omega⟩)
    · refine lv_iload_n hx hb dX12_next_201 rfl (lv_at hl 3 rfl) ?_
      refine r_if_eq (tgt := 220) hx hb dX12_next_202 (by decide) (fun c52 => ?_) (fun c52 => ?_)
      · refine r_iconst hx hb dX12_next_220 (by decide) (fun z53 ez53 => ?_)
        exact K221 σ τ12 H12 locs12 x1 x2 x3 z53 ls hR hF hP hS (by omega) (by omega) (by omega) (by omega) (by omega) (by omega) (by omega) (by omega) (by omega) (lv_sub hl [0, 1, 2, 3] rfl) (by omega)
      · refine lv_aload_n hx hb dX12_next_205 rfl (lv_at hl 0 rfl) ?_
        refine r_cVi (k := 387) (As := []) (rest := []) ⟨hx, hb, hml, hown, hts⟩ hK hP hN hS (c_X12_peek l D cA ad hI σ τ12 hR) (cwV 0 hts gX12_next_X12_peek rfl rfl rfl (by decide +kernel) ⟨by decide, by decide⟩) (rv_M hK hP (by decide) (by decide)) rfl hl.1 rfl (Nat.le_of_ble_eq_true rfl) dX12_next_206 (Nat.zero_le _) (Nat.zero_le _) (fun r54 u54 H54 locs54 hp54 hP hS => ?_)
        obtain ⟨σ54, τ54⟩ := u54
        obtain ⟨hR, f54, hq54, hp54_0⟩ : P_X12_peek σ r54 σ54 := hp54
        have hP : va_P D vwCl (gw cA ad σ54 τ54) H54 := hP
        obtain rfl := Fr.nil f54
        refine r_cSi (As := [.int r54]) (rest := []) ⟨hx, hb, hml, hown, hts⟩ hK hP hN hS (c_X12_isSmall l D cA ad hI σ τ54 hR r54 (by omega)) (va_cwS 1 hts gX12_next_X12_isSmall rfl rfl rfl (by decide +kernel) ⟨by decide, by decide⟩) rfl hl.1 rfl (Nat.le_of_ble_eq_true rfl) dX12_next_209 (Nat.zero_le _) (Nat.zero_le _) (fun r55 u55 H55 locs55 hp55 hP hS => ?_)
        obtain ⟨σ55, τ55⟩ := u55
        obtain ⟨hR, f55, hq55, hp55_0⟩ : P_X12_isSmall σ r54 r55 σ55 := hp55
        have hP : va_P D vwCl (gw cA ad σ55 τ55) H55 := hP
        obtain rfl := Fr.nil f55
        refine lv_iload_n hx hb dX12_next_212 rfl (lv_at hl 2 rfl) ?_
        refine r_icmp_ne (tgt := 220) hx hb dX12_next_213 (by decide) (fun c56 => ?_) (fun c56 => ?_)
        · refine r_iconst hx hb dX12_next_220 (by decide) (fun z57 ez57 => ?_)
          exact K221 σ τ55 H55 locs55 x1 x2 x3 z57 ls hR hF hP hS (by omega) (by omega) (by omega) (by omega) (by omega) (by omega) (by omega) (by omega) (by omega) (lv_sub hl [0, 1, 2, 3] rfl) (by omega)
        · refine r_iconst hx hb dX12_next_216 (by decide) (fun z58 ez58 => ?_)
          refine lv_goto (tgt := 221) hx hb dX12_next_217 (by decide) ?_
          exact K221 σ τ55 H55 locs55 x1 x2 x3 z58 ls hR hF hP hS (by omega) (by omega) (by omega) (by omega) (by omega) (by omega) (by omega) (by omega) (by omega) (lv_sub hl [0, 1, 2, 3] rfl) (by omega)
set_option maxHeartbeats 4000000 in
theorem B_X12_next_221 (p : Program) (l : Launch) (e : Env) (s : State) (m : MethodId) (args : Array Value) (below : List Frame) (meth : Method) (c : Code) (D : va_G) (cA : Nat → ClassId) (ad : Nat → Nat) (σ0 : Nat → Nat → Int32)  (n : Nat) (C : Cy p s m args meth c cX12_next 4 wsX12_next RX12 D cA ad none)  (K0 : J_X12_next_0 p l e s m args below meth c D cA ad σ0 n) (K80 : J_X12_next_80 p l e s m args below meth c D cA ad σ0 n) (K181 : J_X12_next_181 p l e s m args below meth c D cA ad σ0 n) (K221 : J_X12_next_221 p l e s m args below meth c D cA ad σ0 n) (K248 : J_X12_next_248 p l e s m args below meth c D cA ad σ0 n) : J_X12_next_221 p l e s m args below meth c D cA ad σ0 (n + 1) := by
  obtain ⟨hx, hb, hml, hown, hts, hK, hk, hr, hI, hN⟩ := C
  intro σ τ H locs x1 x2 x3 w0 ls hR hF hP hS hc0 hc1 hc2 hc3 hc4 hc5 hc6 hi0 hi1 hl hm
  refine lv_istore_n (lv' := [(3, .int w0), (0, .ref (ad 387)), (1, .int x1), (2, .int x2)]) hx hb dX12_next_221 rfl hl (by decide) rfl (fun ls hl => ?_)
  refine lv_aload_n hx hb dX12_next_222 rfl (lv_at hl 1 rfl) ?_
  refine fg_12_13 (k := 387) hx hb hts in_X12_next_12 hown hK hP (by decide) (by decide) (hts _ lk_X12_next_156) dX12_next_223 ?_
  refine r_bipush hx hb dX12_next_226 (by decide) (fun z1 ez1 => ?_)
  refine r_icmp_ge (tgt := 248) hx hb dX12_next_228 (by decide) (fun c2 => ?_) (fun c2 => ?_)
  · exact K248 σ τ H locs x1 x2 w0 ls hR hF hP hS (by omega) (by omega) (by omega) (by omega) (by omega) (by omega) (by omega) (by omega) (lv_sub hl [1, 2, 3, 0] rfl) (by omega)
  · refine lv_aload_n hx hb dX12_next_231 rfl (lv_at hl 1 rfl) ?_
    refine lv_aload_n hx hb dX12_next_232 rfl (lv_at hl 1 rfl) ?_
    refine fg_12_17 (k := 387) hx hb hts in_X12_next_12 hown hK hP (by decide) (by decide) (hts _ lk_X12_next_172) dX12_next_233 ?_
    refine r_bipush hx hb dX12_next_236 (by decide) (fun z3 ez3 => ?_)
    refine r_lshl hx hb dX12_next_238 (fun z4 => ?_)
    refine lv_aload_n hx hb dX12_next_239 rfl (lv_at hl 1 rfl) ?_
    refine r_cVi (k := 387) (As := []) (rest := [.long z4, .ref (ad 387)]) ⟨hx, hb, hml, hown, hts⟩ hK hP hN hS (c_X12_peek l D cA ad hI σ τ hR) (cwV 0 hts gX12_next_X12_peek rfl rfl rfl (by decide +kernel) ⟨by decide, by decide⟩) (rv_M hK hP (by decide) (by decide)) rfl hl.1 rfl (Nat.le_of_ble_eq_true rfl) dX12_next_240 (Nat.zero_le _) (Nat.zero_le _) (fun r5 u5 H5 locs5 hp5 hP hS => ?_)
    obtain ⟨σ5, τ5⟩ := u5
    obtain ⟨hR, f5, hq5, hp5_0⟩ : P_X12_peek σ r5 σ5 := hp5
    have hP : va_P D vwCl (gw cA ad σ5 τ5) H5 := hP
    obtain rfl := Fr.nil f5
    refine r_i2l hx hb dX12_next_243 (fun z6 => ?_)
    refine r_lor hx hb dX12_next_244 (fun z7 => ?_)
    refine fp_12_17 (k := 387) hx hb hts in_X12_next_12 hown hK hP (by decide) (by decide) (hts _ lk_X12_next_172) hI hS dX12_next_245 (fun τ8 H8 locs8 hP hS => ?_)
    exact K248 σ τ8 H8 locs8 x1 x2 w0 ls hR hF hP hS (by omega) (by omega) (by omega) (by omega) (by omega) (by omega) (by omega) (by omega) (lv_sub hl [1, 2, 3, 0] rfl) (by omega)
set_option maxHeartbeats 4000000 in
theorem B_X12_next_248 (p : Program) (l : Launch) (e : Env) (s : State) (m : MethodId) (args : Array Value) (below : List Frame) (meth : Method) (c : Code) (D : va_G) (cA : Nat → ClassId) (ad : Nat → Nat) (σ0 : Nat → Nat → Int32)  (n : Nat) (C : Cy p s m args meth c cX12_next 4 wsX12_next RX12 D cA ad none)  (K0 : J_X12_next_0 p l e s m args below meth c D cA ad σ0 n) (K80 : J_X12_next_80 p l e s m args below meth c D cA ad σ0 n) (K181 : J_X12_next_181 p l e s m args below meth c D cA ad σ0 n) (K221 : J_X12_next_221 p l e s m args below meth c D cA ad σ0 n) (K248 : J_X12_next_248 p l e s m args below meth c D cA ad σ0 n) : J_X12_next_248 p l e s m args below meth c D cA ad σ0 (n + 1) := by
  obtain ⟨hx, hb, hml, hown, hts, hK, hk, hr, hI, hN⟩ := C
  intro σ τ H locs x1 x2 x3 ls hR hF hP hS hc0 hc1 hc2 hc3 hc4 hc5 hi0 hi1 hl hm
  refine lv_aload_n hx hb dX12_next_248 rfl (lv_at hl 0 rfl) ?_
  refine fg_12_13 (k := 387) hx hb hts in_X12_next_12 hown hK hP (by decide) (by decide) (hts _ lk_X12_next_156) dX12_next_249 ?_
  refine r_iconst hx hb dX12_next_252 (by decide) (fun z1 ez1 => ?_)
  refine r_icmp_ge (tgt := 275) hx hb dX12_next_253 (by decide) (fun c2 => ?_) (fun c2 => ?_)
  · refine lv_aload_n hx hb dX12_next_275 rfl (lv_at hl 0 rfl) ?_
    refine lv_dup hx hb dX12_next_276 rfl ?_
    refine fg_12_13 (k := 387) hx hb hts in_X12_next_12 hown hK hP (by decide) (by decide) (hts _ lk_X12_next_156) dX12_next_277 ?_
    refine r_iconst hx hb dX12_next_280 (by decide) (fun z3 ez3 => ?_)
    refine r_iaddU hx hb dX12_next_281 (fun z4 => ?_)
    refine fp_12_13 (k := 387) hx hb hts in_X12_next_12 hown hK hP (by decide) (by decide) (hts _ lk_X12_next_156) hI hR hS dX12_next_282 (fun σ5 H5 locs5 u5 v5 hR hP hS => ?_)
    have hF := hF.puts u5 1 rfl (by decide) (by decide) (by decide) (by decide)
    have t6 : (σ5 387 4).toInt = (σ 387 4).toInt := congrArg Int32.toInt (u5 387 4 (by omega))
    have t7 : (σ5 387 3).toInt = (σ 387 3).toInt := congrArg Int32.toInt (u5 387 3 (by omega))
    have t8 : (σ5 387 11).toInt = (σ 387 11).toInt := congrArg Int32.toInt (u5 387 11 (by omega))
    have t9 : (σ5 387 5).toInt = (σ 387 5).toInt := congrArg Int32.toInt (u5 387 5 (by omega))
    refine lv_aload_n hx hb dX12_next_285 rfl (lv_at hl 0 rfl) ?_
    refine lv_dup hx hb dX12_next_286 rfl ?_
    refine fg_12_4 (k := 387) hx hb hts in_X12_next_12 hown hK hP (by decide) (by decide) (hts _ lk_X12_next_21) dX12_next_287 ?_
    refine r_iconst hx hb dX12_next_290 (by decide) (fun z10 ez10 => ?_)
    refine r_iadd hx hb dX12_next_291 (by omega) (fun z11 ez11 => ?_)
    refine fp_12_4 (k := 387) hx hb hts in_X12_next_12 hown hK hP (by decide) (by decide) (hts _ lk_X12_next_21) hI hR hS (by omega) dX12_next_292 (fun σ12 H12 locs12 u12 v12 hR hP hS => ?_)
    have hF := hF.puts u12 0 rfl (by decide) (by decide) (by decide) (by decide)
    have t13 : (σ12 387 3).toInt = (σ5 387 3).toInt := congrArg Int32.toInt (u12 387 3 (by omega))
    have t14 : (σ12 387 11).toInt = (σ5 387 11).toInt := congrArg Int32.toInt (u12 387 11 (by omega))
    have t15 : (σ12 387 5).toInt = (σ5 387 5).toInt := congrArg Int32.toInt (u12 387 5 (by omega))
    have t16 : (σ12 387 13).toInt = (σ5 387 13).toInt := congrArg Int32.toInt (u12 387 13 (by omega))
    refine lv_goto (tgt := 181) hx hb dX12_next_295 (by decide) ?_
    exact K181 σ12 τ H12 locs12 x1 x2 x3 ls hR hF hP hS (by omega) (by omega) (by omega) (by omega) (by omega) (by omega) (by omega) (lv_sub hl [0, 1, 2, 3] rfl) (by omega)
  · refine lv_aload_n hx hb dX12_next_256 rfl (lv_at hl 0 rfl) ?_
    refine r_bipush hx hb dX12_next_257 (by decide) (fun z17 ez17 => ?_)
    refine lv_aload_n hx hb dX12_next_259 rfl (lv_at hl 0 rfl) ?_
    refine fg_12_14 (k := 387) hx hb hts in_X12_next_12 hown hK hP (by decide) (by decide) (hts _ lk_X12_next_169) dX12_next_260 ?_
    refine r_imulU hx hb dX12_next_263 (fun z18 => ?_)
    refine lv_aload_n hx hb dX12_next_264 rfl (lv_at hl 0 rfl) ?_
    refine r_cVi (k := 387) (As := []) (rest := [.int z18, .ref (ad 387)]) ⟨hx, hb, hml, hown, hts⟩ hK hP hN hS (c_X12_peek l D cA ad hI σ τ hR) (cwV 0 hts gX12_next_X12_peek rfl rfl rfl (by decide +kernel) ⟨by decide, by decide⟩) (rv_M hK hP (by decide) (by decide)) rfl hl.1 rfl (Nat.le_of_ble_eq_true rfl) dX12_next_265 (Nat.zero_le _) (Nat.zero_le _) (fun r19 u19 H19 locs19 hp19 hP hS => ?_)
    obtain ⟨σ19, τ19⟩ := u19
    obtain ⟨hR, f19, hq19, hp19_0⟩ : P_X12_peek σ r19 σ19 := hp19
    have hP : va_P D vwCl (gw cA ad σ19 τ19) H19 := hP
    obtain rfl := Fr.nil f19
    refine r_iaddU hx hb dX12_next_268 (fun z20 => ?_)
    refine r_bipush hx hb dX12_next_269 (by decide) (fun z21 ez21 => ?_)
    refine r_isubU hx hb dX12_next_271 (fun z22 => ?_)
    refine fp_12_14 (k := 387) hx hb hts in_X12_next_12 hown hK hP (by decide) (by decide) (hts _ lk_X12_next_169) hI hR hS dX12_next_272 (fun σ23 H23 locs23 u23 v23 hR hP hS => ?_)
    have hF := hF.puts u23 1 rfl (by decide) (by decide) (by decide) (by decide)
    have t24 : (σ23 387 4).toInt = (σ 387 4).toInt := congrArg Int32.toInt (u23 387 4 (by omega))
    have t25 : (σ23 387 3).toInt = (σ 387 3).toInt := congrArg Int32.toInt (u23 387 3 (by omega))
    have t26 : (σ23 387 11).toInt = (σ 387 11).toInt := congrArg Int32.toInt (u23 387 11 (by omega))
    have t27 : (σ23 387 13).toInt = (σ 387 13).toInt := congrArg Int32.toInt (u23 387 13 (by omega))
    have t28 : (σ23 387 5).toInt = (σ 387 5).toInt := congrArg Int32.toInt (u23 387 5 (by omega))
    refine lv_aload_n hx hb dX12_next_275 rfl (lv_at hl 0 rfl) ?_
    refine lv_dup hx hb dX12_next_276 rfl ?_
    refine fg_12_13 (k := 387) hx hb hts in_X12_next_12 hown hK hP (by decide) (by decide) (hts _ lk_X12_next_156) dX12_next_277 ?_
    refine r_iconst hx hb dX12_next_280 (by decide) (fun z29 ez29 => ?_)
    have b31 := And.intro (ti_lo (σ23 387 13)) (ti_hi (σ23 387 13))
    refine r_iadd hx hb dX12_next_281 (by omega) (fun z30 ez30 => ?_)
    refine fp_12_13 (k := 387) hx hb hts in_X12_next_12 hown hK hP (by decide) (by decide) (hts _ lk_X12_next_156) hI hR hS dX12_next_282 (fun σ32 H32 locs32 u32 v32 hR hP hS => ?_)
    have hF := hF.puts u32 1 rfl (by decide) (by decide) (by decide) (by decide)
    have t33 : (σ32 387 4).toInt = (σ23 387 4).toInt := congrArg Int32.toInt (u32 387 4 (by omega))
    have t34 : (σ32 387 3).toInt = (σ23 387 3).toInt := congrArg Int32.toInt (u32 387 3 (by omega))
    have t35 : (σ32 387 11).toInt = (σ23 387 11).toInt := congrArg Int32.toInt (u32 387 11 (by omega))
    have t36 : (σ32 387 5).toInt = (σ23 387 5).toInt := congrArg Int32.toInt (u32 387 5 (by omega))
    refine lv_aload_n hx hb dX12_next_285 rfl (lv_at hl 0 rfl) ?_
    refine lv_dup hx hb dX12_next_286 rfl ?_
    refine fg_12_4 (k := 387) hx hb hts in_X12_next_12 hown hK hP (by decide) (by decide) (hts _ lk_X12_next_21) dX12_next_287 ?_
    refine r_iconst hx hb dX12_next_290 (by decide) (fun z37 ez37 => ?_)
    refine r_iadd hx hb dX12_next_291 (by omega) (fun z38 ez38 => ?_)
    refine fp_12_4 (k := 387) hx hb hts in_X12_next_12 hown hK hP (by decide) (by decide) (hts _ lk_X12_next_21) hI hR hS (by omega) dX12_next_292 (fun σ39 H39 locs39 u39 v39 hR hP hS => ?_)
    have hF := hF.puts u39 0 rfl (by decide) (by decide) (by decide) (by decide)
    have t40 : (σ39 387 3).toInt = (σ32 387 3).toInt := congrArg Int32.toInt (u39 387 3 (by omega))
    have t41 : (σ39 387 11).toInt = (σ32 387 11).toInt := congrArg Int32.toInt (u39 387 11 (by omega))
    have t42 : (σ39 387 5).toInt = (σ32 387 5).toInt := congrArg Int32.toInt (u39 387 5 (by omega))
    have t43 : (σ39 387 13).toInt = (σ32 387 13).toInt := congrArg Int32.toInt (u39 387 13 (by omega))
    refine lv_goto (tgt := 181) hx hb dX12_next_295 (by decide) ?_
    exact K181 σ39 τ19 H39 locs39 x1 x2 x3 ls hR hF hP hS (by omega) (by omega) (by omega) (by omega) (by omega) (by omega) (by omega) (lv_sub hl [0, 1, 2, 3] rfl) (by omega)
theorem A_X12_next (p : Program) (l : Launch) (e : Env) (s : State) (m : MethodId) (args : Array Value) (below : List Frame) (meth : Method) (c : Code) (D : va_G) (cA : Nat → ClassId) (ad : Nat → Nat) (σ0 : Nat → Nat → Int32)  (C : Cy p s m args meth c cX12_next 4 wsX12_next RX12 D cA ad none)  : ∀ n : Nat, J_X12_next_0 p l e s m args below meth c D cA ad σ0 n ∧ J_X12_next_80 p l e s m args below meth c D cA ad σ0 n ∧ J_X12_next_181 p l e s m args below meth c D cA ad σ0 n ∧ J_X12_next_221 p l e s m args below meth c D cA ad σ0 n ∧ J_X12_next_248 p l e s m args below meth c D cA ad σ0 n := by
  intro n
  induction n with
  | zero =>
    exact ⟨(by intro σ τ H locs ls hR hF hP hS hc0 hc1 hi0 hl hm; exfalso; omega), (by intro σ τ H locs ls hR hF hP hS hc0 hc1 hc2 hc3 hi0 hl hm; exfalso; omega), (by intro σ τ H locs x1 x2 x3 ls hR hF hP hS hc0 hc1 hc2 hc3 hc4 hc5 hi0 hl hm; exfalso; omega), (by intro σ τ H locs x1 x2 x3 w0 ls hR hF hP hS hc0 hc1 hc2 hc3 hc4 hc5 hc6 hi0 hi1 hl hm; exfalso; omega), (by intro σ τ H locs x1 x2 x3 ls hR hF hP hS hc0 hc1 hc2 hc3 hc4 hc5 hi0 hi1 hl hm; exfalso; omega)⟩
  | succ n ih =>
    exact ⟨B_X12_next_0 p l e s m args below meth c D cA ad σ0 n C  ih.1 ih.2.1 ih.2.2.1 ih.2.2.2.1 ih.2.2.2.2, B_X12_next_80 p l e s m args below meth c D cA ad σ0 n C  ih.1 ih.2.1 ih.2.2.1 ih.2.2.2.1 ih.2.2.2.2, B_X12_next_181 p l e s m args below meth c D cA ad σ0 n C  ih.1 ih.2.1 ih.2.2.1 ih.2.2.2.1 ih.2.2.2.2, B_X12_next_221 p l e s m args below meth c D cA ad σ0 n C  ih.1 ih.2.1 ih.2.2.1 ih.2.2.2.1 ih.2.2.2.2, B_X12_next_248 p l e s m args below meth c D cA ad σ0 n C  ih.1 ih.2.1 ih.2.2.1 ih.2.2.2.1 ih.2.2.2.2⟩
set_option maxHeartbeats 4000000 in
theorem c_X12_next (l : Launch) (D : va_G) (cA : Nat → ClassId) (ad : Nat → Nat) (hI : Inj ad) (σ0 : Nat → Nat → Int32) (τ0 : Nat → Nat → Int64) (hR : Rg σ0)   : Met l yX12_next wsX12_next ({ frames := 1, cells := 0, slots := 0, locals := 20 } : Room) (WQc D cA ad [.ref (ad 387)] σ0 τ0) (va_Qv (fun u : SS => P_X12_next σ0 u.1) (WB D cA ad) (AA ad)) 0 0 (AA ad) := by
  refine Met.ofW (cc := cX12_next) (maxL := 4) (ret := none) (by decide) rfl ?_
  intro p e s m args below meth c s₁ B hml hv
  obtain ⟨rfl, hP, hK, hN⟩ := hv
  have C : Cy p s m _ meth c cX12_next 4 wsX12_next RX12 D cA ad none := ⟨B.exec, B.bytes, hml, findClass_of_methodNamed B.named, atoms_spec (ws := wsX12_next) B.pre, hK, B.notSynchronized, B.returns, hI, hN⟩
  have hl := lv_entry ([.ref (ad 387)]) (n := 4) (Nat.le_of_ble_eq_true rfl)
  rw [lg_entry_eq]
  generalize (lg_sl ([.ref (ad 387)]) ++ List.replicate (4 - (lg_sl ([.ref (ad 387)])).length) Slot.unset).toArray = ls at hl ⊢
  have hl : lv_has ls 4 [(0, .ref (ad 387))] := hl
  have hS : va_S (AA ad) s.heap s.heap [] := va_S.rf
  have hF : Fr L_X12_next σ0 σ0 := Fr.rf
  have hA := A_X12_next p l e s m _ below meth c D cA ad σ0 C  7102678
  have K0 := hA.1
  have K80 := hA.2.1
  have K181 := hA.2.2.1
  have K221 := hA.2.2.2.1
  have K248 := hA.2.2.2.2
  clear hA
  obtain ⟨hx, hb, _, hown, hts, _, hk, hr, _, _⟩ := C
  have hrt4 := rg_12_4 hR (k := 387) (by decide) (by decide)
  have hrt3 := rg_12_3 hR (k := 387) (by decide) (by decide)
  exact K0 σ0 τ0 s.heap []  ls hR hF hP hS (by omega) (by omega) (by omega) (lv_sub hl [0] rfl) (by omega)
theorem in_X12_fresh_12 : ∀ w ∈ u_ws RX12 TX12 47, w ∈ wsX12_fresh := by decide +kernel
theorem lk_X12_fresh_172 : Cond.fieldLink RX12 172 "CuckooSharesModel" "word" "J" ∈ wsX12_fresh := by decide +kernel
theorem lk_X12_fresh_37 : Cond.fieldLink RX12 37 "CuckooSharesModel" "h" "[I" ∈ wsX12_fresh := by decide +kernel
theorem lk_X12_fresh_43 : Cond.fieldLink RX12 43 "CuckooSharesModel" "names" "[J" ∈ wsX12_fresh := by decide +kernel
abbrev L_X12_fresh : List Rc := [(387, 387, 4, 4), (387, 387, 11, 16)]
def P_X12_fresh (σ0 : Nat → Nat → Int32) (a1 : Int32) (r : Int32) (σ : Nat → Nat → Int32) : Prop := Rg σ ∧ Fr L_X12_fresh σ0 σ ∧ (0 ≤ r.toInt ∧ r.toInt ≤ 1) ∧ ((σ0 387 4).toInt ≤ (σ 387 4).toInt) ∧ (r.toInt = 0 ∨ (σ 387 11).toInt ≠ 3 ∨ (σ0 387 4).toInt < (σ 387 4).toInt)
set_option maxHeartbeats 4000000 in
theorem c_X12_fresh (l : Launch) (D : va_G) (cA : Nat → ClassId) (ad : Nat → Nat) (hI : Inj ad) (σ0 : Nat → Nat → Int32) (τ0 : Nat → Nat → Int64) (hR : Rg σ0) (a1 : Int32) (ha1 : 16 ≤ a1.toInt ∧ a1.toInt ≤ 31) : Met l yX12_fresh wsX12_fresh ({ frames := 2, cells := 0, slots := 0, locals := 43 } : Room) (WQc D cA ad [.ref (ad 387), .int a1] σ0 τ0) (va_Qi (fun (r : Int32) (u : SS) => P_X12_fresh σ0 a1 r u.1) (WB D cA ad) (AA ad)) 0 0 (AA ad) := by
  refine Met.ofW (cc := cX12_fresh) (maxL := 2) (ret := (some .boolean)) (by decide) rfl ?_
  intro p e s m args below meth c s₁ B hml hv
  obtain ⟨rfl, hP, hK, hN⟩ := hv
  have C : Cy p s m _ meth c cX12_fresh 2 wsX12_fresh RX12 D cA ad (some .boolean) := ⟨B.exec, B.bytes, hml, findClass_of_methodNamed B.named, atoms_spec (ws := wsX12_fresh) B.pre, hK, B.notSynchronized, B.returns, hI, hN⟩
  have hl := lv_entry ([.ref (ad 387), .int a1]) (n := 2) (Nat.le_of_ble_eq_true rfl)
  rw [lg_entry_eq]
  generalize (lg_sl ([.ref (ad 387), .int a1]) ++ List.replicate (2 - (lg_sl ([.ref (ad 387), .int a1])).length) Slot.unset).toArray = ls at hl ⊢
  have hl : lv_has ls 2 [(0, .ref (ad 387)), (1, .int a1)] := hl
  have hS : va_S (AA ad) s.heap s.heap [] := va_S.rf
  have hF : Fr L_X12_fresh σ0 σ0 := Fr.rf
  obtain ⟨hx, hb, _, hown, hts, _, hk, hr, _, _⟩ := C
  have hrt4 := rg_12_4 hR (k := 387) (by decide) (by decide)
  have hrt3 := rg_12_3 hR (k := 387) (by decide) (by decide)
  refine lv_aload_n hx hb dX12_fresh_0 rfl (lv_at hl 0 rfl) ?_
  refine r_cVi (k := 387) (As := []) (rest := []) ⟨hx, hb, hml, hown, hts⟩ hK hP hN hS (c_X12_isName l D cA ad hI σ0 τ0 hR) (cwV 0 hts gX12_fresh_X12_isName rfl rfl rfl (by decide +kernel) ⟨by decide, by decide⟩) (rv_M hK hP (by decide) (by decide)) rfl hl.1 rfl (Nat.le_of_ble_eq_true rfl) dX12_fresh_1 (Nat.zero_le _) (Nat.zero_le _) (fun r1 u1 H1 locs1 hp1 hP hS => ?_)
  obtain ⟨σ1, τ1⟩ := u1
  obtain ⟨hR, f1, hq1⟩ : P_X12_isName σ0 r1 σ1 := hp1
  have hP : va_P D vwCl (gw cA ad σ1 τ1) H1 := hP
  obtain rfl := Fr.nil f1
  refine r_if_ne (tgt := 13) hx hb dX12_fresh_4 (by decide) (fun c2 => ?_) (fun c2 => ?_)
  · refine lv_aload_n hx hb dX12_fresh_13 rfl (lv_at hl 0 rfl) ?_
    refine r_bipush hx hb dX12_fresh_14 (by decide) (fun z3 ez3 => ?_)
    refine lv_aload_n hx hb dX12_fresh_16 rfl (lv_at hl 0 rfl) ?_
    refine fg_12_7 (k := 387) hx hb hts in_X12_fresh_12 hown hK hP (by decide) (by decide) (hts _ lk_X12_fresh_37) dX12_fresh_17 ?_
    refine r_iconst hx hb dX12_fresh_20 (by decide) (fun z4 ez4 => ?_)
    refine ad_mh (k := 390) (j := 0) hx hb hK hP (by decide) (by decide) (by omega) (by omega) dX12_fresh_21 ?_
    have hr5 := ra_mh_0 hR (k := 390) (j := 0) (by decide) (by decide) (by decide) (by decide)
    refine r_cVi (k := 387) (As := [.int z3, .int (σ0 390 0)]) (rest := []) ⟨hx, hb, hml, hown, hts⟩ hK hP hN hS (c_X12_find l D cA ad hI σ0 τ1 hR z3 (σ0 390 0) (by omega) (by omega)) (cwV 2 hts gX12_fresh_X12_find rfl rfl rfl (by decide +kernel) ⟨by decide, by decide⟩) (rv_M hK hP (by decide) (by decide)) rfl hl.1 rfl (Nat.le_of_ble_eq_true rfl) dX12_fresh_22 (Nat.zero_le _) (Nat.zero_le _) (fun r6 u6 H6 locs6 hp6 hP hS => ?_)
    obtain ⟨σ6, τ6⟩ := u6
    obtain ⟨hR, f6, hq6, hp6_0⟩ : P_X12_find σ0 z3 (σ0 390 0) r6 σ6 := hp6
    have hP : va_P D vwCl (gw cA ad σ6 τ6) H6 := hP
    obtain rfl := Fr.nil f6
    refine r_if_ge (tgt := 43) hx hb dX12_fresh_25 (by decide) (fun c7 => ?_) (fun c7 => ?_)
    · refine lv_aload_n hx hb dX12_fresh_43 rfl (lv_at hl 0 rfl) ?_
      refine r_iconst hx hb dX12_fresh_44 (by decide) (fun z8 ez8 => ?_)
      refine r_cVi (k := 387) (As := [.int z8]) (rest := []) ⟨hx, hb, hml, hown, hts⟩ hK hP hN hS (c_X12_bad l D cA ad hI σ0 τ6 hR z8 (by omega)) (cwV 1 hts gX12_fresh_X12_bad rfl rfl rfl (by decide +kernel) ⟨by decide, by decide⟩) (rv_M hK hP (by decide) (by decide)) rfl hl.1 rfl (Nat.le_of_ble_eq_true rfl) dX12_fresh_45 (Nat.zero_le _) (Nat.zero_le _) (fun r9 u9 H9 locs9 hp9 hP hS => ?_)
      obtain ⟨σ9, τ9⟩ := u9
      obtain ⟨hR, f9, hq9⟩ : P_X12_bad σ0 z8 r9 σ9 := hp9
      have hP : va_P D vwCl (gw cA ad σ9 τ9) H9 := hP
      have hF := hF.step f9 (by decide)
      have t10 : (σ9 387 4).toInt = (σ0 387 4).toInt := congrArg Int32.toInt (f9.at 387 4 (by decide))
      have t11 : (σ9 387 3).toInt = (σ0 387 3).toInt := congrArg Int32.toInt (f9.at 387 3 (by decide))
      have t12 : (σ9 387 11).toInt = (σ0 387 11).toInt := congrArg Int32.toInt (f9.at 387 11 (by decide))
      exact r_zret hx hb hr hK hP hS hk (by omega) dX12_fresh_48 (show P_X12_fresh σ0 a1 r9 σ9 from ⟨hR, hF, by omega, by omega, by omega⟩)
    · refine lv_aload_n hx hb dX12_fresh_28 rfl (lv_at hl 0 rfl) ?_
      refine r_bipush hx hb dX12_fresh_29 (by decide) (fun z13 ez13 => ?_)
      refine lv_aload_n hx hb dX12_fresh_31 rfl (lv_at hl 0 rfl) ?_
      refine fg_12_7 (k := 387) hx hb hts in_X12_fresh_12 hown hK hP (by decide) (by decide) (hts _ lk_X12_fresh_37) dX12_fresh_32 ?_
      refine r_iconst hx hb dX12_fresh_35 (by decide) (fun z14 ez14 => ?_)
      refine ad_mh (k := 390) (j := 1) hx hb hK hP (by decide) (by decide) (by omega) (by omega) dX12_fresh_36 ?_
      have hr15 := ra_mh_0 hR (k := 390) (j := 1) (by decide) (by decide) (by decide) (by decide)
      refine r_cVi (k := 387) (As := [.int z13, .int (σ0 390 1)]) (rest := []) ⟨hx, hb, hml, hown, hts⟩ hK hP hN hS (c_X12_find l D cA ad hI σ0 τ6 hR z13 (σ0 390 1) (by omega) (by omega)) (cwV 2 hts gX12_fresh_X12_find rfl rfl rfl (by decide +kernel) ⟨by decide, by decide⟩) (rv_M hK hP (by decide) (by decide)) rfl hl.1 rfl (Nat.le_of_ble_eq_true rfl) dX12_fresh_37 (Nat.zero_le _) (Nat.zero_le _) (fun r16 u16 H16 locs16 hp16 hP hS => ?_)
      obtain ⟨σ16, τ16⟩ := u16
      obtain ⟨hR, f16, hq16, hp16_0⟩ : P_X12_find σ0 z13 (σ0 390 1) r16 σ16 := hp16
      have hP : va_P D vwCl (gw cA ad σ16 τ16) H16 := hP
      obtain rfl := Fr.nil f16
      refine r_if_lt (tgt := 49) hx hb dX12_fresh_40 (by decide) (fun c17 => ?_) (fun c17 => ?_)
      · refine lv_aload_n hx hb dX12_fresh_49 rfl (lv_at hl 0 rfl) ?_
        refine fg_12_9 (k := 387) hx hb hts in_X12_fresh_12 hown hK hP (by decide) (by decide) (hts _ lk_X12_fresh_43) dX12_fresh_50 ?_
        refine lv_iload_n hx hb dX12_fresh_53 rfl (lv_at hl 1 rfl) ?_
        refine lv_aload_n hx hb dX12_fresh_54 rfl (lv_at hl 0 rfl) ?_
        refine fg_12_17 (k := 387) hx hb hts in_X12_fresh_12 hown hK hP (by decide) (by decide) (hts _ lk_X12_fresh_172) dX12_fresh_55 ?_
        obtain ⟨j18, ej18⟩ : ∃ j : Nat, a1.toInt = (j : Int) := ⟨_, ti_nat (by omega)⟩
        refine as_mnames (k := 392) (j := j18) hx hb hK hP hI hS (by decide) (by decide) ej18 (by omega) dX12_fresh_58 (fun τ19 H19 locs19 hP hS => ?_)
        refine lv_aload_n hx hb dX12_fresh_59 rfl (lv_at hl 0 rfl) ?_
        refine r_cVv (k := 387) (As := []) (rest := []) ⟨hx, hb, hml, hown, hts⟩ hK hP hN hS (c_X12_next l D cA ad hI σ0 τ19 hR) (cwV 0 hts gX12_fresh_X12_next rfl rfl rfl (by decide +kernel) ⟨by decide, by decide⟩) (rv_M hK hP (by decide) (by decide)) rfl hl.1 rfl (Nat.le_of_ble_eq_true rfl) dX12_fresh_60 (Nat.zero_le _) (Nat.zero_le _) (fun u20 H20 locs20 hp20 hP hS => ?_)
        obtain ⟨σ20, τ20⟩ := u20
        obtain ⟨hR, f20, hp20_0, hp20_1, hp20_2⟩ : P_X12_next σ0 σ20 := hp20
        have hP : va_P D vwCl (gw cA ad σ20 τ20) H20 := hP
        have hF := hF.step f20 (by decide)
        have t21 : (σ20 387 3).toInt = (σ0 387 3).toInt := congrArg Int32.toInt (f20.at 387 3 (by decide))
        have hr22 := rg_12_4 hR (k := 387) (by decide) (by decide)
        refine r_iconst hx hb dX12_fresh_63 (by decide) (fun z23 ez23 => ?_)
        exact r_zret hx hb hr hK hP hS hk (by omega) dX12_fresh_64 (show P_X12_fresh σ0 a1 z23 σ20 from ⟨hR, hF, by omega, by omega, by omega⟩)
      · refine lv_aload_n hx hb dX12_fresh_43 rfl (lv_at hl 0 rfl) ?_
        refine r_iconst hx hb dX12_fresh_44 (by decide) (fun z24 ez24 => ?_)
        refine r_cVi (k := 387) (As := [.int z24]) (rest := []) ⟨hx, hb, hml, hown, hts⟩ hK hP hN hS (c_X12_bad l D cA ad hI σ0 τ16 hR z24 (by omega)) (cwV 1 hts gX12_fresh_X12_bad rfl rfl rfl (by decide +kernel) ⟨by decide, by decide⟩) (rv_M hK hP (by decide) (by decide)) rfl hl.1 rfl (Nat.le_of_ble_eq_true rfl) dX12_fresh_45 (Nat.zero_le _) (Nat.zero_le _) (fun r25 u25 H25 locs25 hp25 hP hS => ?_)
        obtain ⟨σ25, τ25⟩ := u25
        obtain ⟨hR, f25, hq25⟩ : P_X12_bad σ0 z24 r25 σ25 := hp25
        have hP : va_P D vwCl (gw cA ad σ25 τ25) H25 := hP
        have hF := hF.step f25 (by decide)
        have t26 : (σ25 387 4).toInt = (σ0 387 4).toInt := congrArg Int32.toInt (f25.at 387 4 (by decide))
        have t27 : (σ25 387 3).toInt = (σ0 387 3).toInt := congrArg Int32.toInt (f25.at 387 3 (by decide))
        have t28 : (σ25 387 11).toInt = (σ0 387 11).toInt := congrArg Int32.toInt (f25.at 387 11 (by decide))
        exact r_zret hx hb hr hK hP hS hk (by omega) dX12_fresh_48 (show P_X12_fresh σ0 a1 r25 σ25 from ⟨hR, hF, by omega, by omega, by omega⟩)
  · refine lv_aload_n hx hb dX12_fresh_7 rfl (lv_at hl 0 rfl) ?_
    refine r_iconst hx hb dX12_fresh_8 (by decide) (fun z29 ez29 => ?_)
    refine r_cVi (k := 387) (As := [.int z29]) (rest := []) ⟨hx, hb, hml, hown, hts⟩ hK hP hN hS (c_X12_bad l D cA ad hI σ0 τ1 hR z29 (by omega)) (cwV 1 hts gX12_fresh_X12_bad rfl rfl rfl (by decide +kernel) ⟨by decide, by decide⟩) (rv_M hK hP (by decide) (by decide)) rfl hl.1 rfl (Nat.le_of_ble_eq_true rfl) dX12_fresh_9 (Nat.zero_le _) (Nat.zero_le _) (fun r30 u30 H30 locs30 hp30 hP hS => ?_)
    obtain ⟨σ30, τ30⟩ := u30
    obtain ⟨hR, f30, hq30⟩ : P_X12_bad σ0 z29 r30 σ30 := hp30
    have hP : va_P D vwCl (gw cA ad σ30 τ30) H30 := hP
    have hF := hF.step f30 (by decide)
    have t31 : (σ30 387 4).toInt = (σ0 387 4).toInt := congrArg Int32.toInt (f30.at 387 4 (by decide))
    have t32 : (σ30 387 3).toInt = (σ0 387 3).toInt := congrArg Int32.toInt (f30.at 387 3 (by decide))
    have t33 : (σ30 387 11).toInt = (σ0 387 11).toInt := congrArg Int32.toInt (f30.at 387 11 (by decide))
    exact r_zret hx hb hr hK hP hS hk (by omega) dX12_fresh_12 (show P_X12_fresh σ0 a1 r30 σ30 from ⟨hR, hF, by omega, by omega, by omega⟩)
theorem in_X12_isOnce_12 : ∀ w ∈ u_ws RX12 TX12 47, w ∈ wsX12_isOnce := by decide +kernel
theorem lk_X12_isOnce_213 : Cond.fieldLink RX12 213 "CuckooSharesModel" "onces" "I" ∈ wsX12_isOnce := by decide +kernel
abbrev L_X12_isOnce : List Rc := [(387, 387, 20, 20), (387, 387, 4, 4), (387, 387, 11, 16)]
def P_X12_isOnce (σ0 : Nat → Nat → Int32) (a1 : Int32) (r : Int32) (σ : Nat → Nat → Int32) : Prop := Rg σ ∧ Fr L_X12_isOnce σ0 σ ∧ (0 ≤ r.toInt ∧ r.toInt ≤ 1) ∧ ((σ0 387 4).toInt ≤ (σ 387 4).toInt) ∧ (r.toInt = 0 ∨ (σ 387 11).toInt ≠ 3 ∨ (σ0 387 4).toInt < (σ 387 4).toInt)
set_option maxHeartbeats 4000000 in
theorem c_X12_isOnce (l : Launch) (D : va_G) (cA : Nat → ClassId) (ad : Nat → Nat) (hI : Inj ad) (σ0 : Nat → Nat → Int32) (τ0 : Nat → Nat → Int64) (hR : Rg σ0) (a1 : Int32) (ha1 : 0 ≤ a1.toInt ∧ a1.toInt ≤ 2) : Met l yX12_isOnce wsX12_isOnce ({ frames := 2, cells := 0, slots := 0, locals := 43 } : Room) (WQc D cA ad [.ref (ad 387), .int a1] σ0 τ0) (va_Qi (fun (r : Int32) (u : SS) => P_X12_isOnce σ0 a1 r u.1) (WB D cA ad) (AA ad)) 0 0 (AA ad) := by
  refine Met.ofW (cc := cX12_isOnce) (maxL := 2) (ret := (some .boolean)) (by decide) rfl ?_
  intro p e s m args below meth c s₁ B hml hv
  obtain ⟨rfl, hP, hK, hN⟩ := hv
  have C : Cy p s m _ meth c cX12_isOnce 2 wsX12_isOnce RX12 D cA ad (some .boolean) := ⟨B.exec, B.bytes, hml, findClass_of_methodNamed B.named, atoms_spec (ws := wsX12_isOnce) B.pre, hK, B.notSynchronized, B.returns, hI, hN⟩
  have hl := lv_entry ([.ref (ad 387), .int a1]) (n := 2) (Nat.le_of_ble_eq_true rfl)
  rw [lg_entry_eq]
  generalize (lg_sl ([.ref (ad 387), .int a1]) ++ List.replicate (2 - (lg_sl ([.ref (ad 387), .int a1])).length) Slot.unset).toArray = ls at hl ⊢
  have hl : lv_has ls 2 [(0, .ref (ad 387)), (1, .int a1)] := hl
  have hS : va_S (AA ad) s.heap s.heap [] := va_S.rf
  have hF : Fr L_X12_isOnce σ0 σ0 := Fr.rf
  obtain ⟨hx, hb, _, hown, hts, _, hk, hr, _, _⟩ := C
  have hrt4 := rg_12_4 hR (k := 387) (by decide) (by decide)
  have hrt3 := rg_12_3 hR (k := 387) (by decide) (by decide)
  refine lv_aload_n hx hb dX12_isOnce_0 rfl (lv_at hl 0 rfl) ?_
  refine fg_12_20 (k := 387) hx hb hts in_X12_isOnce_12 hown hK hP (by decide) (by decide) (hts _ lk_X12_isOnce_213) dX12_isOnce_1 ?_
  refine lv_iload_n hx hb dX12_isOnce_4 rfl (lv_at hl 1 rfl) ?_
  refine r_cSi (As := [.int (σ0 387 20), .int a1]) (rest := []) ⟨hx, hb, hml, hown, hts⟩ hK hP hN hS (c_X12_bitOf l D cA ad hI σ0 τ0 hR (σ0 387 20) a1 (by omega)) (va_cwS 2 hts gX12_isOnce_X12_bitOf rfl rfl rfl (by decide +kernel) ⟨by decide, by decide⟩) rfl hl.1 rfl (Nat.le_of_ble_eq_true rfl) dX12_isOnce_5 (Nat.zero_le _) (Nat.zero_le _) (fun r1 u1 H1 locs1 hp1 hP hS => ?_)
  obtain ⟨σ1, τ1⟩ := u1
  obtain ⟨hR, f1, hq1, hp1_0⟩ : P_X12_bitOf σ0 (σ0 387 20) a1 r1 σ1 := hp1
  have hP : va_P D vwCl (gw cA ad σ1 τ1) H1 := hP
  obtain rfl := Fr.nil f1
  refine r_if_eq (tgt := 17) hx hb dX12_isOnce_8 (by decide) (fun c2 => ?_) (fun c2 => ?_)
  · refine lv_aload_n hx hb dX12_isOnce_17 rfl (lv_at hl 0 rfl) ?_
    refine lv_dup hx hb dX12_isOnce_18 rfl ?_
    refine fg_12_20 (k := 387) hx hb hts in_X12_isOnce_12 hown hK hP (by decide) (by decide) (hts _ lk_X12_isOnce_213) dX12_isOnce_19 ?_
    refine r_iconst hx hb dX12_isOnce_22 (by decide) (fun z3 ez3 => ?_)
    refine lv_iload_n hx hb dX12_isOnce_23 rfl (lv_at hl 1 rfl) ?_
    refine r_ishlU hx hb dX12_isOnce_24 (fun z4 => ?_)
    refine r_iorU hx hb dX12_isOnce_25 (fun z5 => ?_)
    refine fp_12_20 (k := 387) hx hb hts in_X12_isOnce_12 hown hK hP (by decide) (by decide) (hts _ lk_X12_isOnce_213) hI hR hS dX12_isOnce_26 (fun σ6 H6 locs6 u6 v6 hR hP hS => ?_)
    have hF := hF.puts u6 0 rfl (by decide) (by decide) (by decide) (by decide)
    have t7 : (σ6 387 4).toInt = (σ0 387 4).toInt := congrArg Int32.toInt (u6 387 4 (by omega))
    have t8 : (σ6 387 3).toInt = (σ0 387 3).toInt := congrArg Int32.toInt (u6 387 3 (by omega))
    have t9 : (σ6 387 11).toInt = (σ0 387 11).toInt := congrArg Int32.toInt (u6 387 11 (by omega))
    refine lv_aload_n hx hb dX12_isOnce_29 rfl (lv_at hl 0 rfl) ?_
    refine r_cVv (k := 387) (As := []) (rest := []) ⟨hx, hb, hml, hown, hts⟩ hK hP hN hS (c_X12_next l D cA ad hI σ6 τ1 hR) (cwV 0 hts gX12_isOnce_X12_next rfl rfl rfl (by decide +kernel) ⟨by decide, by decide⟩) (rv_M hK hP (by decide) (by decide)) rfl hl.1 rfl (Nat.le_of_ble_eq_true rfl) dX12_isOnce_30 (Nat.zero_le _) (Nat.zero_le _) (fun u10 H10 locs10 hp10 hP hS => ?_)
    obtain ⟨σ10, τ10⟩ := u10
    obtain ⟨hR, f10, hp10_0, hp10_1, hp10_2⟩ : P_X12_next σ6 σ10 := hp10
    have hP : va_P D vwCl (gw cA ad σ10 τ10) H10 := hP
    have hF := hF.step f10 (by decide)
    have t11 : (σ10 387 3).toInt = (σ6 387 3).toInt := congrArg Int32.toInt (f10.at 387 3 (by decide))
    have t12 : (σ10 387 20).toInt = (σ6 387 20).toInt := congrArg Int32.toInt (f10.at 387 20 (by decide))
    have hr13 := rg_12_4 hR (k := 387) (by decide) (by decide)
    refine r_iconst hx hb dX12_isOnce_33 (by decide) (fun z14 ez14 => ?_)
    exact r_zret hx hb hr hK hP hS hk (by omega) dX12_isOnce_34 (show P_X12_isOnce σ0 a1 z14 σ10 from ⟨hR, hF, by omega, by omega, by omega⟩)
  · refine lv_aload_n hx hb dX12_isOnce_11 rfl (lv_at hl 0 rfl) ?_
    refine r_iconst hx hb dX12_isOnce_12 (by decide) (fun z15 ez15 => ?_)
    refine r_cVi (k := 387) (As := [.int z15]) (rest := []) ⟨hx, hb, hml, hown, hts⟩ hK hP hN hS (c_X12_bad l D cA ad hI σ0 τ1 hR z15 (by omega)) (cwV 1 hts gX12_isOnce_X12_bad rfl rfl rfl (by decide +kernel) ⟨by decide, by decide⟩) (rv_M hK hP (by decide) (by decide)) rfl hl.1 rfl (Nat.le_of_ble_eq_true rfl) dX12_isOnce_13 (Nat.zero_le _) (Nat.zero_le _) (fun r16 u16 H16 locs16 hp16 hP hS => ?_)
    obtain ⟨σ16, τ16⟩ := u16
    obtain ⟨hR, f16, hq16⟩ : P_X12_bad σ0 z15 r16 σ16 := hp16
    have hP : va_P D vwCl (gw cA ad σ16 τ16) H16 := hP
    have hF := hF.step f16 (by decide)
    have t17 : (σ16 387 4).toInt = (σ0 387 4).toInt := congrArg Int32.toInt (f16.at 387 4 (by decide))
    have t18 : (σ16 387 3).toInt = (σ0 387 3).toInt := congrArg Int32.toInt (f16.at 387 3 (by decide))
    have t19 : (σ16 387 11).toInt = (σ0 387 11).toInt := congrArg Int32.toInt (f16.at 387 11 (by decide))
    have t20 : (σ16 387 20).toInt = (σ0 387 20).toInt := congrArg Int32.toInt (f16.at 387 20 (by decide))
    exact r_zret hx hb hr hK hP hS hk (by omega) dX12_isOnce_16 (show P_X12_isOnce σ0 a1 r16 σ16 from ⟨hR, hF, by omega, by omega, by omega⟩)
theorem in_X12_isWord_12 : ∀ w ∈ u_ws RX12 TX12 47, w ∈ wsX12_isWord := by decide +kernel
theorem lk_X12_isWord_159 : Cond.fieldLink RX12 159 "CuckooSharesModel" "token" "I" ∈ wsX12_isWord := by decide +kernel
theorem lk_X12_isWord_172 : Cond.fieldLink RX12 172 "CuckooSharesModel" "word" "J" ∈ wsX12_isWord := by decide +kernel
abbrev L_X12_isWord : List Rc := []
def P_X12_isWord (σ0 : Nat → Nat → Int32) (a1 : Int64) (r : Int32) (σ : Nat → Nat → Int32) : Prop := Rg σ ∧ Fr L_X12_isWord σ0 σ ∧ (0 ≤ r.toInt ∧ r.toInt ≤ 1) ∧ (r.toInt = 0 ∨ (σ0 387 11).toInt = 1)
set_option maxHeartbeats 4000000 in
theorem c_X12_isWord (l : Launch) (D : va_G) (cA : Nat → ClassId) (ad : Nat → Nat) (hI : Inj ad) (σ0 : Nat → Nat → Int32) (τ0 : Nat → Nat → Int64) (hR : Rg σ0) (a1 : Int64)  : Met l yX12_isWord wsX12_isWord ({ frames := 0, cells := 0, slots := 0, locals := 0 } : Room) (WQc D cA ad [.ref (ad 387), .long a1] σ0 τ0) (va_Qi (fun (r : Int32) (u : SS) => P_X12_isWord σ0 a1 r u.1) (WB D cA ad) (AA ad)) 0 0 (AA ad) := by
  refine Met.ofW (cc := cX12_isWord) (maxL := 3) (ret := (some .boolean)) (by decide) rfl ?_
  intro p e s m args below meth c s₁ B hml hv
  obtain ⟨rfl, hP, hK, hN⟩ := hv
  have C : Cy p s m _ meth c cX12_isWord 3 wsX12_isWord RX12 D cA ad (some .boolean) := ⟨B.exec, B.bytes, hml, findClass_of_methodNamed B.named, atoms_spec (ws := wsX12_isWord) B.pre, hK, B.notSynchronized, B.returns, hI, hN⟩
  have hl := lv_entry ([.ref (ad 387), .long a1]) (n := 3) (Nat.le_of_ble_eq_true rfl)
  rw [lg_entry_eq]
  generalize (lg_sl ([.ref (ad 387), .long a1]) ++ List.replicate (3 - (lg_sl ([.ref (ad 387), .long a1])).length) Slot.unset).toArray = ls at hl ⊢
  have hl : lv_has ls 3 [(0, .ref (ad 387)), (1, .long a1)] := hl
  have hS : va_S (AA ad) s.heap s.heap [] := va_S.rf
  have hF : Fr L_X12_isWord σ0 σ0 := Fr.rf
  obtain ⟨hx, hb, _, hown, hts, _, hk, hr, _, _⟩ := C
  refine lv_aload_n hx hb dX12_isWord_0 rfl (lv_at hl 0 rfl) ?_
  refine fg_12_11 (k := 387) hx hb hts in_X12_isWord_12 hown hK hP (by decide) (by decide) (hts _ lk_X12_isWord_159) dX12_isWord_1 ?_
  refine r_iconst hx hb dX12_isWord_4 (by decide) (fun z1 ez1 => ?_)
  refine r_icmp_ne (tgt := 21) hx hb dX12_isWord_5 (by decide) (fun c2 => ?_) (fun c2 => ?_)
  · refine r_iconst hx hb dX12_isWord_21 (by decide) (fun z3 ez3 => ?_)
    exact r_zret hx hb hr hK hP hS hk (by omega) dX12_isWord_22 (show P_X12_isWord σ0 a1 z3 σ0 from ⟨hR, hF, by omega, by omega⟩)
  · refine lv_aload_n hx hb dX12_isWord_8 rfl (lv_at hl 0 rfl) ?_
    refine fg_12_17 (k := 387) hx hb hts in_X12_isWord_12 hown hK hP (by decide) (by decide) (hts _ lk_X12_isWord_172) dX12_isWord_9 ?_
    refine lv_lload_n hx hb dX12_isWord_12 rfl (lv_at hl 1 rfl) ?_
    refine r_lcmp hx hb dX12_isWord_13 (fun z4 => ?_)
    refine r_if_ne (tgt := 21) hx hb dX12_isWord_14 (by decide) (fun c5 => ?_) (fun c5 => ?_)
    · refine r_iconst hx hb dX12_isWord_21 (by decide) (fun z6 ez6 => ?_)
      exact r_zret hx hb hr hK hP hS hk (by omega) dX12_isWord_22 (show P_X12_isWord σ0 a1 z6 σ0 from ⟨hR, hF, by omega, by omega⟩)
    · refine r_iconst hx hb dX12_isWord_17 (by decide) (fun z7 ez7 => ?_)
      refine lv_goto (tgt := 22) hx hb dX12_isWord_18 (by decide) ?_
      exact r_zret hx hb hr hK hP hS hk (by omega) dX12_isWord_22 (show P_X12_isWord σ0 a1 z7 σ0 from ⟨hR, hF, by omega, by omega⟩)
theorem in_X12_looksAt_12 : ∀ w ∈ u_ws RX12 TX12 47, w ∈ wsX12_looksAt := by decide +kernel
theorem lk_X12_looksAt_195 : Cond.fieldLink RX12 195 "CuckooSharesModel" "got" "I" ∈ wsX12_looksAt := by decide +kernel
abbrev L_X12_looksAt : List Rc := [(387, 387, 15, 16), (387, 387, 18, 18)]
def P_X12_looksAt (σ0 : Nat → Nat → Int32) (a1 : Int32) (a2 : Int32) (r : Int32) (σ : Nat → Nat → Int32) : Prop := Rg σ ∧ Fr L_X12_looksAt σ0 σ ∧ (0 ≤ r.toInt ∧ r.toInt ≤ 1) ∧ (r.toInt = 0 ∨ (0 ≤ (σ 387 18).toInt ∧ (σ 387 18).toInt ≤ 7)) ∧ (r.toInt = 0 ∨ 1 ≤ a2.toInt)
set_option maxHeartbeats 4000000 in
theorem c_X12_looksAt (l : Launch) (D : va_G) (cA : Nat → ClassId) (ad : Nat → Nat) (hI : Inj ad) (σ0 : Nat → Nat → Int32) (τ0 : Nat → Nat → Int64) (hR : Rg σ0) (a1 : Int32) (a2 : Int32) (ha1 : 0 ≤ a1.toInt ∧ a1.toInt ≤ 24) (ha2 : 0 ≤ a2.toInt ∧ a2.toInt ≤ 8) : Met l yX12_looksAt wsX12_looksAt ({ frames := 1, cells := 0, slots := 0, locals := 23 } : Room) (WQc D cA ad [.ref (ad 387), .int a1, .int a2] σ0 τ0) (va_Qi (fun (r : Int32) (u : SS) => P_X12_looksAt σ0 a1 a2 r u.1) (WB D cA ad) (AA ad)) 0 0 (AA ad) := by
  refine Met.ofW (cc := cX12_looksAt) (maxL := 3) (ret := (some .boolean)) (by decide) rfl ?_
  intro p e s m args below meth c s₁ B hml hv
  obtain ⟨rfl, hP, hK, hN⟩ := hv
  have C : Cy p s m _ meth c cX12_looksAt 3 wsX12_looksAt RX12 D cA ad (some .boolean) := ⟨B.exec, B.bytes, hml, findClass_of_methodNamed B.named, atoms_spec (ws := wsX12_looksAt) B.pre, hK, B.notSynchronized, B.returns, hI, hN⟩
  have hl := lv_entry ([.ref (ad 387), .int a1, .int a2]) (n := 3) (Nat.le_of_ble_eq_true rfl)
  rw [lg_entry_eq]
  generalize (lg_sl ([.ref (ad 387), .int a1, .int a2]) ++ List.replicate (3 - (lg_sl ([.ref (ad 387), .int a1, .int a2])).length) Slot.unset).toArray = ls at hl ⊢
  have hl : lv_has ls 3 [(0, .ref (ad 387)), (1, .int a1), (2, .int a2)] := hl
  have hS : va_S (AA ad) s.heap s.heap [] := va_S.rf
  have hF : Fr L_X12_looksAt σ0 σ0 := Fr.rf
  obtain ⟨hx, hb, _, hown, hts, _, hk, hr, _, _⟩ := C
  refine lv_aload_n hx hb dX12_looksAt_0 rfl (lv_at hl 0 rfl) ?_
  refine r_cVi (k := 387) (As := []) (rest := []) ⟨hx, hb, hml, hown, hts⟩ hK hP hN hS (c_X12_isName l D cA ad hI σ0 τ0 hR) (cwV 0 hts gX12_looksAt_X12_isName rfl rfl rfl (by decide +kernel) ⟨by decide, by decide⟩) (rv_M hK hP (by decide) (by decide)) rfl hl.1 rfl (Nat.le_of_ble_eq_true rfl) dX12_looksAt_1 (Nat.zero_le _) (Nat.zero_le _) (fun r1 u1 H1 locs1 hp1 hP hS => ?_)
  obtain ⟨σ1, τ1⟩ := u1
  obtain ⟨hR, f1, hq1⟩ : P_X12_isName σ0 r1 σ1 := hp1
  have hP : va_P D vwCl (gw cA ad σ1 τ1) H1 := hP
  obtain rfl := Fr.nil f1
  refine r_if_ne (tgt := 13) hx hb dX12_looksAt_4 (by decide) (fun c2 => ?_) (fun c2 => ?_)
  · refine lv_aload_n hx hb dX12_looksAt_13 rfl (lv_at hl 0 rfl) ?_
    refine lv_aload_n hx hb dX12_looksAt_14 rfl (lv_at hl 0 rfl) ?_
    refine lv_iload_n hx hb dX12_looksAt_15 rfl (lv_at hl 1 rfl) ?_
    refine lv_iload_n hx hb dX12_looksAt_16 rfl (lv_at hl 2 rfl) ?_
    refine r_cVi (k := 387) (As := [.int a1, .int a2]) (rest := [.ref (ad 387)]) ⟨hx, hb, hml, hown, hts⟩ hK hP hN hS (c_X12_find l D cA ad hI σ0 τ1 hR a1 a2 (by omega) (by omega)) (cwV 2 hts gX12_looksAt_X12_find rfl rfl rfl (by decide +kernel) ⟨by decide, by decide⟩) (rv_M hK hP (by decide) (by decide)) rfl hl.1 rfl (Nat.le_of_ble_eq_true rfl) dX12_looksAt_17 (Nat.zero_le _) (Nat.zero_le _) (fun r3 u3 H3 locs3 hp3 hP hS => ?_)
    obtain ⟨σ3, τ3⟩ := u3
    obtain ⟨hR, f3, hq3, hp3_0⟩ : P_X12_find σ0 a1 a2 r3 σ3 := hp3
    have hP : va_P D vwCl (gw cA ad σ3 τ3) H3 := hP
    obtain rfl := Fr.nil f3
    refine fp_12_18 (k := 387) hx hb hts in_X12_looksAt_12 hown hK hP (by decide) (by decide) (hts _ lk_X12_looksAt_195) hI hR hS dX12_looksAt_20 (fun σ4 H4 locs4 u4 v4 hR hP hS => ?_)
    have hF := hF.puts u4 1 rfl (by decide) (by decide) (by decide) (by decide)
    refine lv_aload_n hx hb dX12_looksAt_23 rfl (lv_at hl 0 rfl) ?_
    refine fg_12_18 (k := 387) hx hb hts in_X12_looksAt_12 hown hK hP (by decide) (by decide) (hts _ lk_X12_looksAt_195) dX12_looksAt_24 ?_
    refine r_if_ge (tgt := 38) hx hb dX12_looksAt_27 (by decide) (fun c5 => ?_) (fun c5 => ?_)
    · refine r_iconst hx hb dX12_looksAt_38 (by decide) (fun z6 ez6 => ?_)
      refine lv_goto (tgt := 43) hx hb dX12_looksAt_39 (by decide) ?_
      exact r_zret hx hb hr hK hP hS hk (by omega) dX12_looksAt_43 (show P_X12_looksAt σ0 a1 a2 z6 σ4 from ⟨hR, hF, by omega, by omega, by omega⟩)
    · refine lv_aload_n hx hb dX12_looksAt_30 rfl (lv_at hl 0 rfl) ?_
      refine r_iconst hx hb dX12_looksAt_31 (by decide) (fun z7 ez7 => ?_)
      refine r_cVi (k := 387) (As := [.int z7]) (rest := []) ⟨hx, hb, hml, hown, hts⟩ hK hP hN hS (c_X12_bad l D cA ad hI σ4 τ3 hR z7 (by omega)) (cwV 1 hts gX12_looksAt_X12_bad rfl rfl rfl (by decide +kernel) ⟨by decide, by decide⟩) (rv_M hK hP (by decide) (by decide)) rfl hl.1 rfl (Nat.le_of_ble_eq_true rfl) dX12_looksAt_32 (Nat.zero_le _) (Nat.zero_le _) (fun r8 u8 H8 locs8 hp8 hP hS => ?_)
      obtain ⟨σ8, τ8⟩ := u8
      obtain ⟨hR, f8, hq8⟩ : P_X12_bad σ4 z7 r8 σ8 := hp8
      have hP : va_P D vwCl (gw cA ad σ8 τ8) H8 := hP
      have hF := hF.step f8 (by decide)
      have t9 : (σ8 387 18).toInt = (σ4 387 18).toInt := congrArg Int32.toInt (f8.at 387 18 (by decide))
      refine r_if_eq (tgt := 42) hx hb dX12_looksAt_35 (by decide) (fun c10 => ?_) (fun c10 => ?_)
      · refine r_iconst hx hb dX12_looksAt_42 (by decide) (fun z11 ez11 => ?_)
        exact r_zret hx hb hr hK hP hS hk (by omega) dX12_looksAt_43 (show P_X12_looksAt σ0 a1 a2 z11 σ8 from ⟨hR, hF, by omega, by omega, by omega⟩)
      · exfalso; omega
  · refine lv_aload_n hx hb dX12_looksAt_7 rfl (lv_at hl 0 rfl) ?_
    refine r_iconst hx hb dX12_looksAt_8 (by decide) (fun z12 ez12 => ?_)
    refine r_cVi (k := 387) (As := [.int z12]) (rest := []) ⟨hx, hb, hml, hown, hts⟩ hK hP hN hS (c_X12_bad l D cA ad hI σ0 τ1 hR z12 (by omega)) (cwV 1 hts gX12_looksAt_X12_bad rfl rfl rfl (by decide +kernel) ⟨by decide, by decide⟩) (rv_M hK hP (by decide) (by decide)) rfl hl.1 rfl (Nat.le_of_ble_eq_true rfl) dX12_looksAt_9 (Nat.zero_le _) (Nat.zero_le _) (fun r13 u13 H13 locs13 hp13 hP hS => ?_)
    obtain ⟨σ13, τ13⟩ := u13
    obtain ⟨hR, f13, hq13⟩ : P_X12_bad σ0 z12 r13 σ13 := hp13
    have hP : va_P D vwCl (gw cA ad σ13 τ13) H13 := hP
    have hF := hF.step f13 (by decide)
    have t14 : (σ13 387 18).toInt = (σ0 387 18).toInt := congrArg Int32.toInt (f13.at 387 18 (by decide))
    exact r_zret hx hb hr hK hP hS hk (by omega) dX12_looksAt_12 (show P_X12_looksAt σ0 a1 a2 r13 σ13 from ⟨hR, hF, by omega, by omega, by omega⟩)
abbrev L_X12_isIn : List Rc := []
def P_X12_isIn (σ0 : Nat → Nat → Int32) (a0 : Int32) (a1 : Int32) (a2 : Int32) (r : Int32) (σ : Nat → Nat → Int32) : Prop := Rg σ ∧ Fr L_X12_isIn σ0 σ ∧ (0 ≤ r.toInt ∧ r.toInt ≤ 1) ∧ (r.toInt = 0 ∨ (r.toInt = 1 ∧ a1.toInt ≤ a0.toInt ∧ a0.toInt ≤ a2.toInt)) ∧ (r.toInt = 1 ∨ a0.toInt < a1.toInt ∨ a2.toInt < a0.toInt)
set_option maxHeartbeats 4000000 in
theorem c_X12_isIn (l : Launch) (D : va_G) (cA : Nat → ClassId) (ad : Nat → Nat) (hI : Inj ad) (σ0 : Nat → Nat → Int32) (τ0 : Nat → Nat → Int64) (hR : Rg σ0) (a0 : Int32) (a1 : Int32) (a2 : Int32)  : Met l yX12_isIn wsX12_isIn ({ frames := 0, cells := 0, slots := 0, locals := 0 } : Room) (WQc D cA ad [.int a0, .int a1, .int a2] σ0 τ0) (va_Qi (fun (r : Int32) (u : SS) => P_X12_isIn σ0 a0 a1 a2 r u.1) (WB D cA ad) (AA ad)) 0 0 (AA ad) := by
  refine Met.ofW (cc := cX12_isIn) (maxL := 3) (ret := (some .boolean)) (by decide) rfl ?_
  intro p e s m args below meth c s₁ B hml hv
  obtain ⟨rfl, hP, hK, hN⟩ := hv
  have C : Cy p s m _ meth c cX12_isIn 3 wsX12_isIn RX12 D cA ad (some .boolean) := ⟨B.exec, B.bytes, hml, findClass_of_methodNamed B.named, atoms_spec (ws := wsX12_isIn) B.pre, hK, B.notSynchronized, B.returns, hI, hN⟩
  have hl := lv_entry ([.int a0, .int a1, .int a2]) (n := 3) (Nat.le_of_ble_eq_true rfl)
  rw [lg_entry_eq]
  generalize (lg_sl ([.int a0, .int a1, .int a2]) ++ List.replicate (3 - (lg_sl ([.int a0, .int a1, .int a2])).length) Slot.unset).toArray = ls at hl ⊢
  have hl : lv_has ls 3 [(0, .int a0), (1, .int a1), (2, .int a2)] := hl
  have hS : va_S (AA ad) s.heap s.heap [] := va_S.rf
  have hF : Fr L_X12_isIn σ0 σ0 := Fr.rf
  obtain ⟨hx, hb, _, hown, hts, _, hk, hr, _, _⟩ := C
  refine lv_iload_n hx hb dX12_isIn_0 rfl (lv_at hl 0 rfl) ?_
  refine lv_iload_n hx hb dX12_isIn_1 rfl (lv_at hl 1 rfl) ?_
  refine r_icmp_lt (tgt := 14) hx hb dX12_isIn_2 (by decide) (fun c1 => ?_) (fun c1 => ?_)
  · refine r_iconst hx hb dX12_isIn_14 (by decide) (fun z2 ez2 => ?_)
    exact r_zret hx hb hr hK hP hS hk (by omega) dX12_isIn_15 (show P_X12_isIn σ0 a0 a1 a2 z2 σ0 from ⟨hR, hF, by omega, by omega, by omega⟩)
  · refine lv_iload_n hx hb dX12_isIn_5 rfl (lv_at hl 0 rfl) ?_
    refine lv_iload_n hx hb dX12_isIn_6 rfl (lv_at hl 2 rfl) ?_
    refine r_icmp_gt (tgt := 14) hx hb dX12_isIn_7 (by decide) (fun c3 => ?_) (fun c3 => ?_)
    · refine r_iconst hx hb dX12_isIn_14 (by decide) (fun z4 ez4 => ?_)
      exact r_zret hx hb hr hK hP hS hk (by omega) dX12_isIn_15 (show P_X12_isIn σ0 a0 a1 a2 z4 σ0 from ⟨hR, hF, by omega, by omega, by omega⟩)
    · refine r_iconst hx hb dX12_isIn_10 (by decide) (fun z5 ez5 => ?_)
      refine lv_goto (tgt := 15) hx hb dX12_isIn_11 (by decide) ?_
      exact r_zret hx hb hr hK hP hS hk (by omega) dX12_isIn_15 (show P_X12_isIn σ0 a0 a1 a2 z5 σ0 from ⟨hR, hF, by omega, by omega, by omega⟩)
theorem in_X12_takes_12 : ∀ w ∈ u_ws RX12 TX12 47, w ∈ wsX12_takes := by decide +kernel
theorem lk_X12_takes_159 : Cond.fieldLink RX12 159 "CuckooSharesModel" "token" "I" ∈ wsX12_takes := by decide +kernel
theorem lk_X12_takes_169 : Cond.fieldLink RX12 169 "CuckooSharesModel" "number" "I" ∈ wsX12_takes := by decide +kernel
theorem lk_X12_takes_195 : Cond.fieldLink RX12 195 "CuckooSharesModel" "got" "I" ∈ wsX12_takes := by decide +kernel
abbrev L_X12_takes : List Rc := [(387, 387, 18, 18), (387, 387, 4, 4), (387, 387, 11, 16)]
def P_X12_takes (σ0 : Nat → Nat → Int32) (a1 : Int32) (a2 : Int32) (r : Int32) (σ : Nat → Nat → Int32) : Prop := Rg σ ∧ Fr L_X12_takes σ0 σ ∧ (0 ≤ r.toInt ∧ r.toInt ≤ 1) ∧ ((σ0 387 4).toInt ≤ (σ 387 4).toInt) ∧ (r.toInt = 0 ∨ (σ 387 11).toInt ≠ 3 ∨ (σ0 387 4).toInt < (σ 387 4).toInt) ∧ (r.toInt = 0 ∨ (a1.toInt ≤ (σ 387 18).toInt ∧ (σ 387 18).toInt ≤ a2.toInt))
set_option maxHeartbeats 4000000 in
theorem c_X12_takes (l : Launch) (D : va_G) (cA : Nat → ClassId) (ad : Nat → Nat) (hI : Inj ad) (σ0 : Nat → Nat → Int32) (τ0 : Nat → Nat → Int64) (hR : Rg σ0) (a1 : Int32) (a2 : Int32) (ha2 : 3 ≤ a2.toInt ∧ a2.toInt ≤ 999) : Met l yX12_takes wsX12_takes ({ frames := 2, cells := 0, slots := 0, locals := 43 } : Room) (WQc D cA ad [.ref (ad 387), .int a1, .int a2] σ0 τ0) (va_Qi (fun (r : Int32) (u : SS) => P_X12_takes σ0 a1 a2 r u.1) (WB D cA ad) (AA ad)) 0 0 (AA ad) := by
  refine Met.ofW (cc := cX12_takes) (maxL := 3) (ret := (some .boolean)) (by decide) rfl ?_
  intro p e s m args below meth c s₁ B hml hv
  obtain ⟨rfl, hP, hK, hN⟩ := hv
  have C : Cy p s m _ meth c cX12_takes 3 wsX12_takes RX12 D cA ad (some .boolean) := ⟨B.exec, B.bytes, hml, findClass_of_methodNamed B.named, atoms_spec (ws := wsX12_takes) B.pre, hK, B.notSynchronized, B.returns, hI, hN⟩
  have hl := lv_entry ([.ref (ad 387), .int a1, .int a2]) (n := 3) (Nat.le_of_ble_eq_true rfl)
  rw [lg_entry_eq]
  generalize (lg_sl ([.ref (ad 387), .int a1, .int a2]) ++ List.replicate (3 - (lg_sl ([.ref (ad 387), .int a1, .int a2])).length) Slot.unset).toArray = ls at hl ⊢
  have hl : lv_has ls 3 [(0, .ref (ad 387)), (1, .int a1), (2, .int a2)] := hl
  have hS : va_S (AA ad) s.heap s.heap [] := va_S.rf
  have hF : Fr L_X12_takes σ0 σ0 := Fr.rf
  obtain ⟨hx, hb, _, hown, hts, _, hk, hr, _, _⟩ := C
  have hrt4 := rg_12_4 hR (k := 387) (by decide) (by decide)
  have hrt3 := rg_12_3 hR (k := 387) (by decide) (by decide)
  refine lv_aload_n hx hb dX12_takes_0 rfl (lv_at hl 0 rfl) ?_
  refine fg_12_11 (k := 387) hx hb hts in_X12_takes_12 hown hK hP (by decide) (by decide) (hts _ lk_X12_takes_159) dX12_takes_1 ?_
  refine r_iconst hx hb dX12_takes_4 (by decide) (fun z1 ez1 => ?_)
  refine r_icmp_eq (tgt := 14) hx hb dX12_takes_5 (by decide) (fun c2 => ?_) (fun c2 => ?_)
  · refine lv_aload_n hx hb dX12_takes_14 rfl (lv_at hl 0 rfl) ?_
    refine fg_12_14 (k := 387) hx hb hts in_X12_takes_12 hown hK hP (by decide) (by decide) (hts _ lk_X12_takes_169) dX12_takes_15 ?_
    refine lv_iload_n hx hb dX12_takes_18 rfl (lv_at hl 1 rfl) ?_
    refine lv_iload_n hx hb dX12_takes_19 rfl (lv_at hl 2 rfl) ?_
    refine r_cSi (As := [.int (σ0 387 14), .int a1, .int a2]) (rest := []) ⟨hx, hb, hml, hown, hts⟩ hK hP hN hS (c_X12_isIn l D cA ad hI σ0 τ0 hR (σ0 387 14) a1 a2) (va_cwS 3 hts gX12_takes_X12_isIn rfl rfl rfl (by decide +kernel) ⟨by decide, by decide⟩) rfl hl.1 rfl (Nat.le_of_ble_eq_true rfl) dX12_takes_20 (Nat.zero_le _) (Nat.zero_le _) (fun r3 u3 H3 locs3 hp3 hP hS => ?_)
    obtain ⟨σ3, τ3⟩ := u3
    obtain ⟨hR, f3, hq3, hp3_0, hp3_1⟩ : P_X12_isIn σ0 (σ0 387 14) a1 a2 r3 σ3 := hp3
    have hP : va_P D vwCl (gw cA ad σ3 τ3) H3 := hP
    obtain rfl := Fr.nil f3
    refine r_if_ne (tgt := 32) hx hb dX12_takes_23 (by decide) (fun c4 => ?_) (fun c4 => ?_)
    · replace hp3_0 := hp3_0.resolve_left (by omega)
      refine lv_aload_n hx hb dX12_takes_32 rfl (lv_at hl 0 rfl) ?_
      refine lv_aload_n hx hb dX12_takes_33 rfl (lv_at hl 0 rfl) ?_
      refine fg_12_14 (k := 387) hx hb hts in_X12_takes_12 hown hK hP (by decide) (by decide) (hts _ lk_X12_takes_169) dX12_takes_34 ?_
      refine fp_12_18 (k := 387) hx hb hts in_X12_takes_12 hown hK hP (by decide) (by decide) (hts _ lk_X12_takes_195) hI hR hS dX12_takes_37 (fun σ5 H5 locs5 u5 v5 hR hP hS => ?_)
      have hF := hF.puts u5 0 rfl (by decide) (by decide) (by decide) (by decide)
      have t6 : (σ5 387 4).toInt = (σ0 387 4).toInt := congrArg Int32.toInt (u5 387 4 (by omega))
      have t7 : (σ5 387 3).toInt = (σ0 387 3).toInt := congrArg Int32.toInt (u5 387 3 (by omega))
      have t8 : (σ5 387 11).toInt = (σ0 387 11).toInt := congrArg Int32.toInt (u5 387 11 (by omega))
      have t9 : (σ5 387 14).toInt = (σ0 387 14).toInt := congrArg Int32.toInt (u5 387 14 (by omega))
      refine lv_aload_n hx hb dX12_takes_40 rfl (lv_at hl 0 rfl) ?_
      refine r_cVv (k := 387) (As := []) (rest := []) ⟨hx, hb, hml, hown, hts⟩ hK hP hN hS (c_X12_next l D cA ad hI σ5 τ3 hR) (cwV 0 hts gX12_takes_X12_next rfl rfl rfl (by decide +kernel) ⟨by decide, by decide⟩) (rv_M hK hP (by decide) (by decide)) rfl hl.1 rfl (Nat.le_of_ble_eq_true rfl) dX12_takes_41 (Nat.zero_le _) (Nat.zero_le _) (fun u10 H10 locs10 hp10 hP hS => ?_)
      obtain ⟨σ10, τ10⟩ := u10
      obtain ⟨hR, f10, hp10_0, hp10_1, hp10_2⟩ : P_X12_next σ5 σ10 := hp10
      have hP : va_P D vwCl (gw cA ad σ10 τ10) H10 := hP
      have hF := hF.step f10 (by decide)
      have t11 : (σ10 387 3).toInt = (σ5 387 3).toInt := congrArg Int32.toInt (f10.at 387 3 (by decide))
      have t12 : (σ10 387 18).toInt = (σ5 387 18).toInt := congrArg Int32.toInt (f10.at 387 18 (by decide))
      have hr13 := rg_12_4 hR (k := 387) (by decide) (by decide)
      refine r_iconst hx hb dX12_takes_44 (by decide) (fun z14 ez14 => ?_)
      exact r_zret hx hb hr hK hP hS hk (by omega) dX12_takes_45 (show P_X12_takes σ0 a1 a2 z14 σ10 from ⟨hR, hF, by omega, by omega, by omega, by omega⟩)
    · clear hp3_0
      refine lv_aload_n hx hb dX12_takes_26 rfl (lv_at hl 0 rfl) ?_
      refine r_iconst hx hb dX12_takes_27 (by decide) (fun z15 ez15 => ?_)
      refine r_cVi (k := 387) (As := [.int z15]) (rest := []) ⟨hx, hb, hml, hown, hts⟩ hK hP hN hS (c_X12_bad l D cA ad hI σ0 τ3 hR z15 (by omega)) (cwV 1 hts gX12_takes_X12_bad rfl rfl rfl (by decide +kernel) ⟨by decide, by decide⟩) (rv_M hK hP (by decide) (by decide)) rfl hl.1 rfl (Nat.le_of_ble_eq_true rfl) dX12_takes_28 (Nat.zero_le _) (Nat.zero_le _) (fun r16 u16 H16 locs16 hp16 hP hS => ?_)
      obtain ⟨σ16, τ16⟩ := u16
      obtain ⟨hR, f16, hq16⟩ : P_X12_bad σ0 z15 r16 σ16 := hp16
      have hP : va_P D vwCl (gw cA ad σ16 τ16) H16 := hP
      have hF := hF.step f16 (by decide)
      have t17 : (σ16 387 4).toInt = (σ0 387 4).toInt := congrArg Int32.toInt (f16.at 387 4 (by decide))
      have t18 : (σ16 387 3).toInt = (σ0 387 3).toInt := congrArg Int32.toInt (f16.at 387 3 (by decide))
      have t19 : (σ16 387 11).toInt = (σ0 387 11).toInt := congrArg Int32.toInt (f16.at 387 11 (by decide))
      have t20 : (σ16 387 18).toInt = (σ0 387 18).toInt := congrArg Int32.toInt (f16.at 387 18 (by decide))
      have t21 : (σ16 387 14).toInt = (σ0 387 14).toInt := congrArg Int32.toInt (f16.at 387 14 (by decide))
      exact r_zret hx hb hr hK hP hS hk (by omega) dX12_takes_31 (show P_X12_takes σ0 a1 a2 r16 σ16 from ⟨hR, hF, by omega, by omega, by omega, by omega⟩)
  · refine lv_aload_n hx hb dX12_takes_8 rfl (lv_at hl 0 rfl) ?_
    refine r_iconst hx hb dX12_takes_9 (by decide) (fun z22 ez22 => ?_)
    refine r_cVi (k := 387) (As := [.int z22]) (rest := []) ⟨hx, hb, hml, hown, hts⟩ hK hP hN hS (c_X12_bad l D cA ad hI σ0 τ0 hR z22 (by omega)) (cwV 1 hts gX12_takes_X12_bad rfl rfl rfl (by decide +kernel) ⟨by decide, by decide⟩) (rv_M hK hP (by decide) (by decide)) rfl hl.1 rfl (Nat.le_of_ble_eq_true rfl) dX12_takes_10 (Nat.zero_le _) (Nat.zero_le _) (fun r23 u23 H23 locs23 hp23 hP hS => ?_)
    obtain ⟨σ23, τ23⟩ := u23
    obtain ⟨hR, f23, hq23⟩ : P_X12_bad σ0 z22 r23 σ23 := hp23
    have hP : va_P D vwCl (gw cA ad σ23 τ23) H23 := hP
    have hF := hF.step f23 (by decide)
    have t24 : (σ23 387 4).toInt = (σ0 387 4).toInt := congrArg Int32.toInt (f23.at 387 4 (by decide))
    have t25 : (σ23 387 3).toInt = (σ0 387 3).toInt := congrArg Int32.toInt (f23.at 387 3 (by decide))
    have t26 : (σ23 387 11).toInt = (σ0 387 11).toInt := congrArg Int32.toInt (f23.at 387 11 (by decide))
    have t27 : (σ23 387 18).toInt = (σ0 387 18).toInt := congrArg Int32.toInt (f23.at 387 18 (by decide))
    exact r_zret hx hb hr hK hP hS hk (by omega) dX12_takes_13 (show P_X12_takes σ0 a1 a2 r23 σ23 from ⟨hR, hF, by omega, by omega, by omega, by omega⟩)
theorem in_X12_ofMan_12 : ∀ w ∈ u_ws RX12 TX12 47, w ∈ wsX12_ofMan := by decide +kernel
theorem lk_X12_ofMan_107 : Cond.constantLong RX12 107 (7302244) ∈ wsX12_ofMan := by decide +kernel
theorem lk_X12_ofMan_109 : Cond.constantLong RX12 109 (1684365670) ∈ wsX12_ofMan := by decide +kernel
theorem lk_X12_ofMan_111 : Cond.constantLong RX12 111 (474147546227) ∈ wsX12_ofMan := by decide +kernel
theorem lk_X12_ofMan_195 : Cond.fieldLink RX12 195 "CuckooSharesModel" "got" "I" ∈ wsX12_ofMan := by decide +kernel
theorem lk_X12_ofMan_37 : Cond.fieldLink RX12 37 "CuckooSharesModel" "h" "[I" ∈ wsX12_ofMan := by decide +kernel
abbrev L_X12_ofMan : List Rc := [(387, 387, 4, 4), (387, 387, 11, 16), (387, 387, 18, 18), (390, 390, 55, 78)]
def P_X12_ofMan (σ0 : Nat → Nat → Int32)  (r : Int32) (σ : Nat → Nat → Int32) : Prop := Rg σ ∧ Fr L_X12_ofMan σ0 σ ∧ (0 ≤ r.toInt ∧ r.toInt ≤ 1) ∧ ((σ0 387 4).toInt ≤ (σ 387 4).toInt) ∧ (r.toInt = 0 ∨ (σ 387 11).toInt ≠ 3 ∨ (σ0 387 4).toInt < (σ 387 4).toInt) ∧ HI σ
set_option maxHeartbeats 4000000 in
theorem c_X12_ofMan (l : Launch) (D : va_G) (cA : Nat → ClassId) (ad : Nat → Nat) (hI : Inj ad) (σ0 : Nat → Nat → Int32) (τ0 : Nat → Nat → Int64) (hR : Rg σ0)  (gHI0 : HI σ0) : Met l yX12_ofMan wsX12_ofMan ({ frames := 3, cells := 0, slots := 0, locals := 65 } : Room) (WQc D cA ad [.ref (ad 387)] σ0 τ0) (va_Qi (fun (r : Int32) (u : SS) => P_X12_ofMan σ0 r u.1) (WB D cA ad) (AA ad)) 0 0 (AA ad) := by
  refine Met.ofW (cc := cX12_ofMan) (maxL := 3) (ret := (some .boolean)) (by decide) rfl ?_
  intro p e s m args below meth c s₁ B hml hv
  obtain ⟨rfl, hP, hK, hN⟩ := hv
  have C : Cy p s m _ meth c cX12_ofMan 3 wsX12_ofMan RX12 D cA ad (some .boolean) := ⟨B.exec, B.bytes, hml, findClass_of_methodNamed B.named, atoms_spec (ws := wsX12_ofMan) B.pre, hK, B.notSynchronized, B.returns, hI, hN⟩
  have hl := lv_entry ([.ref (ad 387)]) (n := 3) (Nat.le_of_ble_eq_true rfl)
  rw [lg_entry_eq]
  generalize (lg_sl ([.ref (ad 387)]) ++ List.replicate (3 - (lg_sl ([.ref (ad 387)])).length) Slot.unset).toArray = ls at hl ⊢
  have hl : lv_has ls 3 [(0, .ref (ad 387))] := hl
  have hS : va_S (AA ad) s.heap s.heap [] := va_S.rf
  have hF : Fr L_X12_ofMan σ0 σ0 := Fr.rf
  have gHI := gHI0
  obtain ⟨hx, hb, _, hown, hts, _, hk, hr, _, _⟩ := C
  have hrt4 := rg_12_4 hR (k := 387) (by decide) (by decide)
  have hrt3 := rg_12_3 hR (k := 387) (by decide) (by decide)
  refine lv_aload_n hx hb dX12_ofMan_0 rfl (lv_at hl 0 rfl) ?_
  refine lv_ldc2 (v := 7302244) hx hb hown (hts _ lk_X12_ofMan_107) dX12_ofMan_1 ?_
  refine r_cVi (k := 387) (As := [.long (7302244)]) (rest := []) ⟨hx, hb, hml, hown, hts⟩ hK hP hN hS (c_X12_isWord l D cA ad hI σ0 τ0 hR (7302244)) (cwV 1 hts gX12_ofMan_X12_isWord rfl rfl rfl (by decide +kernel) ⟨by decide, by decide⟩) (rv_M hK hP (by decide) (by decide)) rfl hl.1 rfl (Nat.le_of_ble_eq_true rfl) dX12_ofMan_4 (Nat.zero_le _) (Nat.zero_le _) (fun r1 u1 H1 locs1 hp1 hP hS => ?_)
  obtain ⟨σ1, τ1⟩ := u1
  obtain ⟨hR, f1, hq1, hp1_0⟩ : P_X12_isWord σ0 (7302244) r1 σ1 := hp1
  have hP : va_P D vwCl (gw cA ad σ1 τ1) H1 := hP
  obtain rfl := Fr.nil f1
  refine r_if_eq (tgt := 14) hx hb dX12_ofMan_7 (by decide) (fun c2 => ?_) (fun c2 => ?_)
  · clear hp1_0
    refine lv_aload_n hx hb dX12_ofMan_14 rfl (lv_at hl 0 rfl) ?_
    refine lv_ldc2 (v := 1684365670) hx hb hown (hts _ lk_X12_ofMan_109) dX12_ofMan_15 ?_
    refine r_cVi (k := 387) (As := [.long (1684365670)]) (rest := []) ⟨hx, hb, hml, hown, hts⟩ hK hP hN hS (c_X12_isWord l D cA ad hI σ0 τ1 hR (1684365670)) (cwV 1 hts gX12_ofMan_X12_isWord rfl rfl rfl (by decide +kernel) ⟨by decide, by decide⟩) (rv_M hK hP (by decide) (by decide)) rfl hl.1 rfl (Nat.le_of_ble_eq_true rfl) dX12_ofMan_18 (Nat.zero_le _) (Nat.zero_le _) (fun r3 u3 H3 locs3 hp3 hP hS => ?_)
    obtain ⟨σ3, τ3⟩ := u3
    obtain ⟨hR, f3, hq3, hp3_0⟩ : P_X12_isWord σ0 (1684365670) r3 σ3 := hp3
    have hP : va_P D vwCl (gw cA ad σ3 τ3) H3 := hP
    obtain rfl := Fr.nil f3
    refine r_if_eq (tgt := 28) hx hb dX12_ofMan_21 (by decide) (fun c4 => ?_) (fun c4 => ?_)
    · clear hp3_0
      refine lv_aload_n hx hb dX12_ofMan_28 rfl (lv_at hl 0 rfl) ?_
      refine lv_ldc2 (v := 474147546227) hx hb hown (hts _ lk_X12_ofMan_111) dX12_ofMan_29 ?_
      refine r_cVi (k := 387) (As := [.long (474147546227)]) (rest := []) ⟨hx, hb, hml, hown, hts⟩ hK hP hN hS (c_X12_isWord l D cA ad hI σ0 τ3 hR (474147546227)) (cwV 1 hts gX12_ofMan_X12_isWord rfl rfl rfl (by decide +kernel) ⟨by decide, by decide⟩) (rv_M hK hP (by decide) (by decide)) rfl hl.1 rfl (Nat.le_of_ble_eq_true rfl) dX12_ofMan_32 (Nat.zero_le _) (Nat.zero_le _) (fun r5 u5 H5 locs5 hp5 hP hS => ?_)
      obtain ⟨σ5, τ5⟩ := u5
      obtain ⟨hR, f5, hq5, hp5_0⟩ : P_X12_isWord σ0 (474147546227) r5 σ5 := hp5
      have hP : va_P D vwCl (gw cA ad σ5 τ5) H5 := hP
      obtain rfl := Fr.nil f5
      refine r_if_eq (tgt := 42) hx hb dX12_ofMan_35 (by decide) (fun c6 => ?_) (fun c6 => ?_)
      · clear hp5_0
        refine r_iconst hx hb dX12_ofMan_42 (by decide) (fun z7 ez7 => ?_)
        refine lv_istore_n (lv' := [(1, .int z7), (0, .ref (ad 387))]) hx hb dX12_ofMan_43 rfl hl (by decide) rfl (fun ls hl => ?_)
        refine lv_iload_n hx hb dX12_ofMan_44 rfl (lv_at hl 0 rfl) ?_
        refine r_if_ge (tgt := 54) hx hb dX12_ofMan_45 (by decide) (fun c8 => ?_) (fun c8 => ?_)
        · exfalso; omega
        · refine lv_aload_n hx hb dX12_ofMan_48 rfl (lv_at hl 1 rfl) ?_
          refine r_iconst hx hb dX12_ofMan_49 (by decide) (fun z9 ez9 => ?_)
          refine r_cVi (k := 387) (As := [.int z9]) (rest := []) ⟨hx, hb, hml, hown, hts⟩ hK hP hN hS (c_X12_bad l D cA ad hI σ0 τ5 hR z9 (by omega)) (cwV 1 hts gX12_ofMan_X12_bad rfl rfl rfl (by decide +kernel) ⟨by decide, by decide⟩) (rv_M hK hP (by decide) (by decide)) rfl hl.1 rfl (Nat.le_of_ble_eq_true rfl) dX12_ofMan_50 (Nat.zero_le _) (Nat.zero_le _) (fun r10 u10 H10 locs10 hp10 hP hS => ?_)
          obtain ⟨σ10, τ10⟩ := u10
          obtain ⟨hR, f10, hq10⟩ : P_X12_bad σ0 z9 r10 σ10 := hp10
          have hP : va_P D vwCl (gw cA ad σ10 τ10) H10 := hP
          have hF := hF.step f10 (by decide)
          have gHI := HI.fr gHI f10 (by decide)
          have t11 : (σ10 387 4).toInt = (σ0 387 4).toInt := congrArg Int32.toInt (f10.at 387 4 (by decide))
          have t12 : (σ10 387 3).toInt = (σ0 387 3).toInt := congrArg Int32.toInt (f10.at 387 3 (by decide))
          have t13 : (σ10 387 11).toInt = (σ0 387 11).toInt := congrArg Int32.toInt (f10.at 387 11 (by decide))
          exact r_zret hx hb hr hK hP hS hk (by omega) dX12_ofMan_53 (show P_X12_ofMan σ0 r10 σ10 from ⟨hR, hF, by omega, by omega, by omega, gHI⟩)
      · replace hp5_0 := hp5_0.resolve_left (by omega)
        refine r_iconst hx hb dX12_ofMan_38 (by decide) (fun z14 ez14 => ?_)
        refine lv_goto (tgt := 43) hx hb dX12_ofMan_39 (by decide) ?_
        refine lv_istore_n (lv' := [(1, .int z14), (0, .ref (ad 387))]) hx hb dX12_ofMan_43 rfl hl (by decide) rfl (fun ls hl => ?_)
        refine lv_iload_n hx hb dX12_ofMan_44 rfl (lv_at hl 0 rfl) ?_
        refine r_if_ge (tgt := 54) hx hb dX12_ofMan_45 (by decide) (fun c15 => ?_) (fun c15 => ?_)
        · refine lv_aload_n hx hb dX12_ofMan_54 rfl (lv_at hl 1 rfl) ?_
          refine r_cVv (k := 387) (As := []) (rest := []) ⟨hx, hb, hml, hown, hts⟩ hK hP hN hS (c_X12_next l D cA ad hI σ0 τ5 hR) (cwV 0 hts gX12_ofMan_X12_next rfl rfl rfl (by decide +kernel) ⟨by decide, by decide⟩) (rv_M hK hP (by decide) (by decide)) rfl hl.1 rfl (Nat.le_of_ble_eq_true rfl) dX12_ofMan_55 (Nat.zero_le _) (Nat.zero_le _) (fun u16 H16 locs16 hp16 hP hS => ?_)
          obtain ⟨σ16, τ16⟩ := u16
          obtain ⟨hR, f16, hp16_0, hp16_1, hp16_2⟩ : P_X12_next σ0 σ16 := hp16
          have hP : va_P D vwCl (gw cA ad σ16 τ16) H16 := hP
          have hF := hF.step f16 (by decide)
          have gHI := HI.fr gHI f16 (by decide)
          have t17 : (σ16 387 3).toInt = (σ0 387 3).toInt := congrArg Int32.toInt (f16.at 387 3 (by decide))
          have hr18 := rg_12_4 hR (k := 387) (by decide) (by decide)
          refine lv_aload_n hx hb dX12_ofMan_58 rfl (lv_at hl 1 rfl) ?_
          refine r_bipush hx hb dX12_ofMan_59 (by decide) (fun z19 ez19 => ?_)
          refine lv_aload_n hx hb dX12_ofMan_61 rfl (lv_at hl 1 rfl) ?_
          refine fg_12_7 (k := 387) hx hb hts in_X12_ofMan_12 hown hK hP (by decide) (by decide) (hts _ lk_X12_ofMan_37) dX12_ofMan_62 ?_
          refine r_iconst hx hb dX12_ofMan_65 (by decide) (fun z20 ez20 => ?_)
          refine ad_mh (k := 390) (j := 1) hx hb hK hP (by decide) (by decide) (by omega) (by omega) dX12_ofMan_66 ?_
          have hr21 := ra_mh_0 hR (k := 390) (j := 1) (by decide) (by decide) (by decide) (by decide)
          refine r_cVi (k := 387) (As := [.int z19, .int (σ16 390 1)]) (rest := []) ⟨hx, hb, hml, hown, hts⟩ hK hP hN hS (c_X12_looksAt l D cA ad hI σ16 τ16 hR z19 (σ16 390 1) (by omega) (by omega)) (cwV 2 hts gX12_ofMan_X12_looksAt rfl rfl rfl (by decide +kernel) ⟨by decide, by decide⟩) (rv_M hK hP (by decide) (by decide)) rfl hl.1 rfl (Nat.le_of_ble_eq_true rfl) dX12_ofMan_67 (Nat.zero_le _) (Nat.zero_le _) (fun r22 u22 H22 locs22 hp22 hP hS => ?_)
          obtain ⟨σ22, τ22⟩ := u22
          obtain ⟨hR, f22, hq22, hp22_0, hp22_1⟩ : P_X12_looksAt σ16 z19 (σ16 390 1) r22 σ22 := hp22
          have hP : va_P D vwCl (gw cA ad σ22 τ22) H22 := hP
          have hF := hF.step f22 (by decide)
          have gHI := HI.fr gHI f22 (by decide)
          have t23 : (σ22 387 3).toInt = (σ16 387 3).toInt := congrArg Int32.toInt (f22.at 387 3 (by decide))
          have t24 : (σ22 387 4).toInt = (σ16 387 4).toInt := congrArg Int32.toInt (f22.at 387 4 (by decide))
          have t25 : (σ22 387 11).toInt = (σ16 387 11).toInt := congrArg Int32.toInt (f22.at 387 11 (by decide))
          refine r_if_ne (tgt := 75) hx hb dX12_ofMan_70 (by decide) (fun c26 => ?_) (fun c26 => ?_)
          · replace hp22_0 := hp22_0.resolve_left (by omega)
            replace hp22_1 := hp22_1.resolve_left (by omega)
            refine lv_aload_n hx hb dX12_ofMan_75 rfl (lv_at hl 1 rfl) ?_
            refine fg_12_18 (k := 387) hx hb hts in_X12_ofMan_12 hown hK hP (by decide) (by decide) (hts _ lk_X12_ofMan_195) dX12_ofMan_76 ?_
            refine lv_istore_n (lv' := [(2, .int (σ22 387 18)), (1, .int z14), (0, .ref (ad 387))]) hx hb dX12_ofMan_79 rfl hl (by decide) rfl (fun ls hl => ?_)
            refine lv_aload_n hx hb dX12_ofMan_80 rfl (lv_at hl 2 rfl) ?_
            refine fg_12_7 (k := 387) hx hb hts in_X12_ofMan_12 hown hK hP (by decide) (by decide) (hts _ lk_X12_ofMan_37) dX12_ofMan_81 ?_
            refine lv_iload_n hx hb dX12_ofMan_84 rfl (lv_at hl 1 rfl) ?_
            refine r_if_ne (tgt := 93) hx hb dX12_ofMan_85 (by decide) (fun c27 => ?_) (fun c27 => ?_)
            · refine lv_iload_n hx hb dX12_ofMan_93 rfl (lv_at hl 1 rfl) ?_
              refine r_iconst hx hb dX12_ofMan_94 (by decide) (fun z28 ez28 => ?_)
              refine r_icmp_ne (tgt := 103) hx hb dX12_ofMan_95 (by decide) (fun c29 => ?_) (fun c29 => ?_)
              · refine r_bipush hx hb dX12_ofMan_103 (by decide) (fun z30 ez30 => ?_)
                refine lv_iload_n hx hb dX12_ofMan_105 rfl (lv_at hl 0 rfl) ?_
                refine r_iadd hx hb dX12_ofMan_106 (by omega) (fun z31 ez31 => ?_)
                obtain ⟨j32, ej32⟩ : ∃ j : Nat, z31.toInt = (j : Int) := ⟨_, ti_nat (by omega)⟩
                refine ad_mh (k := 390) (j := j32) hx hb hK hP (by decide) (by decide) ej32 (by omega) dX12_ofMan_107 ?_
                refine r_if_le (tgt := 117) hx hb dX12_ofMan_108 (by decide) (fun c33 => ?_) (fun c33 => ?_)
                · refine lv_aload_n hx hb dX12_ofMan_117 rfl (lv_at hl 2 rfl) ?_
                  refine r_cVv (k := 387) (As := []) (rest := []) ⟨hx, hb, hml, hown, hts⟩ hK hP hN hS (c_X12_next l D cA ad hI σ22 τ22 hR) (cwV 0 hts gX12_ofMan_X12_next rfl rfl rfl (by decide +kernel) ⟨by decide, by decide⟩) (rv_M hK hP (by decide) (by decide)) rfl hl.1 rfl (Nat.le_of_ble_eq_true rfl) dX12_ofMan_118 (Nat.zero_le _) (Nat.zero_le _) (fun u34 H34 locs34 hp34 hP hS => ?_)
                  obtain ⟨σ34, τ34⟩ := u34
                  obtain ⟨hR, f34, hp34_0, hp34_1, hp34_2⟩ : P_X12_next σ22 σ34 := hp34
                  have hP : va_P D vwCl (gw cA ad σ34 τ34) H34 := hP
                  clear hp16_1
                  have hF := hF.step f34 (by decide)
                  have gHI := HI.fr gHI f34 (by decide)
                  have t35 : (σ34 387 3).toInt = (σ22 387 3).toInt := congrArg Int32.toInt (f34.at 387 3 (by decide))
                  have t36 : (σ34 387 18).toInt = (σ22 387 18).toInt := congrArg Int32.toInt (f34.at 387 18 (by decide))
                  have hr37 := rg_12_4 hR (k := 387) (by decide) (by decide)
                  refine lv_iload_n hx hb dX12_ofMan_121 rfl (lv_at hl 1 rfl) ?_
                  refine r_if_ne (tgt := 137) hx hb dX12_ofMan_122 (by decide) (fun c38 => ?_) (fun c38 => ?_)
                  · refine lv_iload_n hx hb dX12_ofMan_137 rfl (lv_at hl 1 rfl) ?_
                    refine r_iconst hx hb dX12_ofMan_138 (by decide) (fun z39 ez39 => ?_)
                    refine r_icmp_ne (tgt := 172) hx hb dX12_ofMan_139 (by decide) (fun c40 => ?_) (fun c40 => ?_)
                    · exfalso; omega
                    · refine lv_aload_n hx hb dX12_ofMan_142 rfl (lv_at hl 2 rfl) ?_
                      refine r_iconst hx hb dX12_ofMan_143 (by decide) (fun z41 ez41 => ?_)
                      refine r_sipush hx hb dX12_ofMan_144 (by decide) (fun z42 ez42 => ?_)
                      refine r_cVi (k := 387) (As := [.int z41, .int z42]) (rest := []) ⟨hx, hb, hml, hown, hts⟩ hK hP hN hS (c_X12_takes l D cA ad hI σ34 τ34 hR z41 z42 (by omega)) (cwV 2 hts gX12_ofMan_X12_takes rfl rfl rfl (by decide +kernel) ⟨by decide, by decide⟩) (rv_M hK hP (by decide) (by decide)) rfl hl.1 rfl (Nat.le_of_ble_eq_true rfl) dX12_ofMan_147 (Nat.zero_le _) (Nat.zero_le _) (fun r43 u43 H43 locs43 hp43 hP hS => ?_)
                      obtain ⟨σ43, τ43⟩ := u43
                      obtain ⟨hR, f43, hq43, hp43_0, hp43_1, hp43_2⟩ : P_X12_takes σ34 z41 z42 r43 σ43 := hp43
                      have hP : va_P D vwCl (gw cA ad σ43 τ43) H43 := hP
                      clear hp34_1
                      have hF := hF.step f43 (by decide)
                      have gHI := HI.fr gHI f43 (by decide)
                      have t44 : (σ43 387 3).toInt = (σ34 387 3).toInt := congrArg Int32.toInt (f43.at 387 3 (by decide))
                      have hr45 := rg_12_4 hR (k := 387) (by decide) (by decide)
                      refine r_if_ne (tgt := 155) hx hb dX12_ofMan_150 (by decide) (fun c46 => ?_) (fun c46 => ?_)
                      · replace hp43_1 := hp43_1.resolve_left (by omega)
                        replace hp43_2 := hp43_2.resolve_left (by omega)
                        refine lv_aload_n hx hb dX12_ofMan_155 rfl (lv_at hl 2 rfl) ?_
                        refine fg_12_7 (k := 387) hx hb hts in_X12_ofMan_12 hown hK hP (by decide) (by decide) (hts _ lk_X12_ofMan_37) dX12_ofMan_156 ?_
                        refine r_bipush hx hb dX12_ofMan_159 (by decide) (fun z47 ez47 => ?_)
                        refine lv_iload_n hx hb dX12_ofMan_161 rfl (lv_at hl 0 rfl) ?_
                        refine r_iadd hx hb dX12_ofMan_162 (by omega) (fun z48 ez48 => ?_)
                        refine lv_aload_n hx hb dX12_ofMan_163 rfl (lv_at hl 2 rfl) ?_
                        refine fg_12_18 (k := 387) hx hb hts in_X12_ofMan_12 hown hK hP (by decide) (by decide) (hts _ lk_X12_ofMan_195) dX12_ofMan_164 ?_
                        refine r_iconst hx hb dX12_ofMan_167 (by decide) (fun z49 ez49 => ?_)
                        refine r_iaddU hx hb dX12_ofMan_168 (fun z50 => ?_)
                        refine as_mh (k := 390) (j := j32) hx hb hK hP hI hR hS (by decide) (by decide) (by omega) (by omega) (rx_mh_71 (by decide) (by decide) (by omega) (by omega)) dX12_ofMan_169 (fun σ51 H51 locs51 u51 v51 hR hP hS => ?_)
                        have hF := hF.puts u51 3 rfl (by decide) (by decide) (by omega) (by omega)
                        have gHI := HI.putV gHI u51 (by intro q hq; simp only [Gd_HI, List.mem_cons, List.not_mem_nil, or_false] at hq; rcases hq with rfl | rfl <;> dsimp only [inRc] <;> omega)
                        have t52 : (σ51 387 3).toInt = (σ43 387 3).toInt := congrArg Int32.toInt (u51 387 3 (by omega))
                        have t53 : (σ51 387 4).toInt = (σ43 387 4).toInt := congrArg Int32.toInt (u51 387 4 (by omega))
                        have t54 : (σ51 387 11).toInt = (σ43 387 11).toInt := congrArg Int32.toInt (u51 387 11 (by omega))
                        have t55 : (σ51 387 18).toInt = (σ43 387 18).toInt := congrArg Int32.toInt (u51 387 18 (by omega))
                        refine r_iconst hx hb dX12_ofMan_170 (by decide) (fun z56 ez56 => ?_)
                        exact r_zret hx hb hr hK hP hS hk (by omega) dX12_ofMan_171 (show P_X12_ofMan σ0 z56 σ51 from ⟨hR, hF, by omega, by omega, by omega, gHI⟩)
                      · clear hp43_1 hp43_2
                        refine r_iconst hx hb dX12_ofMan_153 (by decide) (fun z57 ez57 => ?_)
                        exact r_zret hx hb hr hK hP hS hk (by omega) dX12_ofMan_154 (show P_X12_ofMan σ0 z57 σ43 from ⟨hR, hF, by omega, by omega, by omega, gHI⟩)
                  · exfalso; omega
                · refine lv_aload_n hx hb dX12_ofMan_111 rfl (lv_at hl 2 rfl) ?_
                  refine r_iconst hx hb dX12_ofMan_112 (by decide) (fun z58 ez58 => ?_)
                  refine r_cVi (k := 387) (As := [.int z58]) (rest := []) ⟨hx, hb, hml, hown, hts⟩ hK hP hN hS (c_X12_bad l D cA ad hI σ22 τ22 hR z58 (by omega)) (cwV 1 hts gX12_ofMan_X12_bad rfl rfl rfl (by decide +kernel) ⟨by decide, by decide⟩) (rv_M hK hP (by decide) (by decide)) rfl hl.1 rfl (Nat.le_of_ble_eq_true rfl) dX12_ofMan_113 (Nat.zero_le _) (Nat.zero_le _) (fun r59 u59 H59 locs59 hp59 hP hS => ?_)
                  obtain ⟨σ59, τ59⟩ := u59
                  obtain ⟨hR, f59, hq59⟩ : P_X12_bad σ22 z58 r59 σ59 := hp59
                  have hP : va_P D vwCl (gw cA ad σ59 τ59) H59 := hP
                  have hF := hF.step f59 (by decide)
                  have gHI := HI.fr gHI f59 (by decide)
                  have t60 : (σ59 387 3).toInt = (σ22 387 3).toInt := congrArg Int32.toInt (f59.at 387 3 (by decide))
                  have t61 : (σ59 387 4).toInt = (σ22 387 4).toInt := congrArg Int32.toInt (f59.at 387 4 (by decide))
                  have t62 : (σ59 387 11).toInt = (σ22 387 11).toInt := congrArg Int32.toInt (f59.at 387 11 (by decide))
                  have t63 : (σ59 387 18).toInt = (σ22 387 18).toInt := congrArg Int32.toInt (f59.at 387 18 (by decide))
                  exact r_zret hx hb hr hK hP hS hk (by omega) dX12_ofMan_116 (show P_X12_ofMan σ0 r59 σ59 from ⟨hR, hF, by omega, by omega, by omega, gHI⟩)
              · exfalso; omega
            · exfalso; omega
          · clear hp22_0 hp22_1
            refine r_iconst hx hb dX12_ofMan_73 (by decide) (fun z64 ez64 => ?_)
            exact r_zret hx hb hr hK hP hS hk (by omega) dX12_ofMan_74 (show P_X12_ofMan σ0 z64 σ22 from ⟨hR, hF, by omega, by omega, by omega, gHI⟩)
        · exfalso; omega
    · replace hp3_0 := hp3_0.resolve_left (by omega)
      refine r_iconst hx hb dX12_ofMan_24 (by decide) (fun z65 ez65 => ?_)
      refine lv_goto (tgt := 43) hx hb dX12_ofMan_25 (by decide) ?_
      refine lv_istore_n (lv' := [(1, .int z65), (0, .ref (ad 387))]) hx hb dX12_ofMan_43 rfl hl (by decide) rfl (fun ls hl => ?_)
      refine lv_iload_n hx hb dX12_ofMan_44 rfl (lv_at hl 0 rfl) ?_
      refine r_if_ge (tgt := 54) hx hb dX12_ofMan_45 (by decide) (fun c66 => ?_) (fun c66 => ?_)
      · refine lv_aload_n hx hb dX12_ofMan_54 rfl (lv_at hl 1 rfl) ?_
        refine r_cVv (k := 387) (As := []) (rest := []) ⟨hx, hb, hml, hown, hts⟩ hK hP hN hS (c_X12_next l D cA ad hI σ0 τ3 hR) (cwV 0 hts gX12_ofMan_X12_next rfl rfl rfl (by decide +kernel) ⟨by decide, by decide⟩) (rv_M hK hP (by decide) (by decide)) rfl hl.1 rfl (Nat.le_of_ble_eq_true rfl) dX12_ofMan_55 (Nat.zero_le _) (Nat.zero_le _) (fun u67 H67 locs67 hp67 hP hS => ?_)
        obtain ⟨σ67, τ67⟩ := u67
        obtain ⟨hR, f67, hp67_0, hp67_1, hp67_2⟩ : P_X12_next σ0 σ67 := hp67
        have hP : va_P D vwCl (gw cA ad σ67 τ67) H67 := hP
        have hF := hF.step f67 (by decide)
        have gHI := HI.fr gHI f67 (by decide)
        have t68 : (σ67 387 3).toInt = (σ0 387 3).toInt := congrArg Int32.toInt (f67.at 387 3 (by decide))
        have hr69 := rg_12_4 hR (k := 387) (by decide) (by decide)
        refine lv_aload_n hx hb dX12_ofMan_58 rfl (lv_at hl 1 rfl) ?_
        refine r_bipush hx hb dX12_ofMan_59 (by decide) (fun z70 ez70 => ?_)
        refine lv_aload_n hx hb dX12_ofMan_61 rfl (lv_at hl 1 rfl) ?_
        refine fg_12_7 (k := 387) hx hb hts in_X12_ofMan_12 hown hK hP (by decide) (by decide) (hts _ lk_X12_ofMan_37) dX12_ofMan_62 ?_
        refine r_iconst hx hb dX12_ofMan_65 (by decide) (fun z71 ez71 => ?_)
        refine ad_mh (k := 390) (j := 1) hx hb hK hP (by decide) (by decide) (by omega) (by omega) dX12_ofMan_66 ?_
        have hr72 := ra_mh_0 hR (k := 390) (j := 1) (by decide) (by decide) (by decide) (by decide)
        refine r_cVi (k := 387) (As := [.int z70, .int (σ67 390 1)]) (rest := []) ⟨hx, hb, hml, hown, hts⟩ hK hP hN hS (c_X12_looksAt l D cA ad hI σ67 τ67 hR z70 (σ67 390 1) (by omega) (by omega)) (cwV 2 hts gX12_ofMan_X12_looksAt rfl rfl rfl (by decide +kernel) ⟨by decide, by decide⟩) (rv_M hK hP (by decide) (by decide)) rfl hl.1 rfl (Nat.le_of_ble_eq_true rfl) dX12_ofMan_67 (Nat.zero_le _) (Nat.zero_le _) (fun r73 u73 H73 locs73 hp73 hP hS => ?_)
        obtain ⟨σ73, τ73⟩ := u73
        obtain ⟨hR, f73, hq73, hp73_0, hp73_1⟩ : P_X12_looksAt σ67 z70 (σ67 390 1) r73 σ73 := hp73
        have hP : va_P D vwCl (gw cA ad σ73 τ73) H73 := hP
        have hF := hF.step f73 (by decide)
        have gHI := HI.fr gHI f73 (by decide)
        have t74 : (σ73 387 3).toInt = (σ67 387 3).toInt := congrArg Int32.toInt (f73.at 387 3 (by decide))
        have t75 : (σ73 387 4).toInt = (σ67 387 4).toInt := congrArg Int32.toInt (f73.at 387 4 (by decide))
        have t76 : (σ73 387 11).toInt = (σ67 387 11).toInt := congrArg Int32.toInt (f73.at 387 11 (by decide))
        refine r_if_ne (tgt := 75) hx hb dX12_ofMan_70 (by decide) (fun c77 => ?_) (fun c77 => ?_)
        · replace hp73_0 := hp73_0.resolve_left (by omega)
          replace hp73_1 := hp73_1.resolve_left (by omega)
          refine lv_aload_n hx hb dX12_ofMan_75 rfl (lv_at hl 1 rfl) ?_
          refine fg_12_18 (k := 387) hx hb hts in_X12_ofMan_12 hown hK hP (by decide) (by decide) (hts _ lk_X12_ofMan_195) dX12_ofMan_76 ?_
          refine lv_istore_n (lv' := [(2, .int (σ73 387 18)), (1, .int z65), (0, .ref (ad 387))]) hx hb dX12_ofMan_79 rfl hl (by decide) rfl (fun ls hl => ?_)
          refine lv_aload_n hx hb dX12_ofMan_80 rfl (lv_at hl 2 rfl) ?_
          refine fg_12_7 (k := 387) hx hb hts in_X12_ofMan_12 hown hK hP (by decide) (by decide) (hts _ lk_X12_ofMan_37) dX12_ofMan_81 ?_
          refine lv_iload_n hx hb dX12_ofMan_84 rfl (lv_at hl 1 rfl) ?_
          refine r_if_ne (tgt := 93) hx hb dX12_ofMan_85 (by decide) (fun c78 => ?_) (fun c78 => ?_)
          · refine lv_iload_n hx hb dX12_ofMan_93 rfl (lv_at hl 1 rfl) ?_
            refine r_iconst hx hb dX12_ofMan_94 (by decide) (fun z79 ez79 => ?_)
            refine r_icmp_ne (tgt := 103) hx hb dX12_ofMan_95 (by decide) (fun c80 => ?_) (fun c80 => ?_)
            · exfalso; omega
            · refine r_bipush hx hb dX12_ofMan_98 (by decide) (fun z81 ez81 => ?_)
              refine lv_goto (tgt := 105) hx hb dX12_ofMan_100 (by decide) ?_
              refine lv_iload_n hx hb dX12_ofMan_105 rfl (lv_at hl 0 rfl) ?_
              refine r_iadd hx hb dX12_ofMan_106 (by omega) (fun z82 ez82 => ?_)
              obtain ⟨j83, ej83⟩ : ∃ j : Nat, z82.toInt = (j : Int) := ⟨_, ti_nat (by omega)⟩
              refine ad_mh (k := 390) (j := j83) hx hb hK hP (by decide) (by decide) ej83 (by omega) dX12_ofMan_107 ?_
              have hr84 := ra_mh_3 hR (k := 390) (j := j83) (by decide) (by decide) (by omega) (by omega)
              refine r_if_le (tgt := 117) hx hb dX12_ofMan_108 (by decide) (fun c85 => ?_) (fun c85 => ?_)
              · refine lv_aload_n hx hb dX12_ofMan_117 rfl (lv_at hl 2 rfl) ?_
                refine r_cVv (k := 387) (As := []) (rest := []) ⟨hx, hb, hml, hown, hts⟩ hK hP hN hS (c_X12_next l D cA ad hI σ73 τ73 hR) (cwV 0 hts gX12_ofMan_X12_next rfl rfl rfl (by decide +kernel) ⟨by decide, by decide⟩) (rv_M hK hP (by decide) (by decide)) rfl hl.1 rfl (Nat.le_of_ble_eq_true rfl) dX12_ofMan_118 (Nat.zero_le _) (Nat.zero_le _) (fun u86 H86 locs86 hp86 hP hS => ?_)
                obtain ⟨σ86, τ86⟩ := u86
                obtain ⟨hR, f86, hp86_0, hp86_1, hp86_2⟩ : P_X12_next σ73 σ86 := hp86
                have hP : va_P D vwCl (gw cA ad σ86 τ86) H86 := hP
                clear hp67_1
                have hF := hF.step f86 (by decide)
                have gHI := HI.fr gHI f86 (by decide)
                have t87 : (σ86 387 3).toInt = (σ73 387 3).toInt := congrArg Int32.toInt (f86.at 387 3 (by decide))
                have t88 : (σ86 387 18).toInt = (σ73 387 18).toInt := congrArg Int32.toInt (f86.at 387 18 (by decide))
                have hr89 := rg_12_4 hR (k := 387) (by decide) (by decide)
                refine lv_iload_n hx hb dX12_ofMan_121 rfl (lv_at hl 1 rfl) ?_
                refine r_if_ne (tgt := 137) hx hb dX12_ofMan_122 (by decide) (fun c90 => ?_) (fun c90 => ?_)
                · refine lv_iload_n hx hb dX12_ofMan_137 rfl (lv_at hl 1 rfl) ?_
                  refine r_iconst hx hb dX12_ofMan_138 (by decide) (fun z91 ez91 => ?_)
                  refine r_icmp_ne (tgt := 172) hx hb dX12_ofMan_139 (by decide) (fun c92 => ?_) (fun c92 => ?_)
                  · refine lv_aload_n hx hb dX12_ofMan_172 rfl (lv_at hl 2 rfl) ?_
                    refine r_bipush hx hb dX12_ofMan_173 (by decide) (fun z93 ez93 => ?_)
                    refine lv_aload_n hx hb dX12_ofMan_175 rfl (lv_at hl 2 rfl) ?_
                    refine fg_12_7 (k := 387) hx hb hts in_X12_ofMan_12 hown hK hP (by decide) (by decide) (hts _ lk_X12_ofMan_37) dX12_ofMan_176 ?_
                    refine r_iconst hx hb dX12_ofMan_179 (by decide) (fun z94 ez94 => ?_)
                    refine ad_mh (k := 390) (j := 1) hx hb hK hP (by decide) (by decide) (by omega) (by omega) dX12_ofMan_180 ?_
                    have hr95 := ra_mh_0 hR (k := 390) (j := 1) (by decide) (by decide) (by decide) (by decide)
                    refine r_cVi (k := 387) (As := [.int z93, .int (σ86 390 1)]) (rest := []) ⟨hx, hb, hml, hown, hts⟩ hK hP hN hS (c_X12_looksAt l D cA ad hI σ86 τ86 hR z93 (σ86 390 1) (by omega) (by omega)) (cwV 2 hts gX12_ofMan_X12_looksAt rfl rfl rfl (by decide +kernel) ⟨by decide, by decide⟩) (rv_M hK hP (by decide) (by decide)) rfl hl.1 rfl (Nat.le_of_ble_eq_true rfl) dX12_ofMan_181 (Nat.zero_le _) (Nat.zero_le _) (fun r96 u96 H96 locs96 hp96 hP hS => ?_)
                    obtain ⟨σ96, τ96⟩ := u96
                    obtain ⟨hR, f96, hq96, hp96_0, hp96_1⟩ : P_X12_looksAt σ86 z93 (σ86 390 1) r96 σ96 := hp96
                    have hP : va_P D vwCl (gw cA ad σ96 τ96) H96 := hP
                    have hF := hF.step f96 (by decide)
                    have gHI := HI.fr gHI f96 (by decide)
                    have t97 : (σ96 387 3).toInt = (σ86 387 3).toInt := congrArg Int32.toInt (f96.at 387 3 (by decide))
                    have t98 : (σ96 387 4).toInt = (σ86 387 4).toInt := congrArg Int32.toInt (f96.at 387 4 (by decide))
                    have t99 : (σ96 387 11).toInt = (σ86 387 11).toInt := congrArg Int32.toInt (f96.at 387 11 (by decide))
                    refine r_if_ne (tgt := 189) hx hb dX12_ofMan_184 (by decide) (fun c100 => ?_) (fun c100 => ?_)
                    · replace hp96_0 := hp96_0.resolve_left (by omega)
                      replace hp96_1 := hp96_1.resolve_left (by omega)
                      refine lv_aload_n hx hb dX12_ofMan_189 rfl (lv_at hl 2 rfl) ?_
                      refine fg_12_18 (k := 387) hx hb hts in_X12_ofMan_12 hown hK hP (by decide) (by decide) (hts _ lk_X12_ofMan_195) dX12_ofMan_190 ?_
                      refine lv_iload_n hx hb dX12_ofMan_193 rfl (lv_at hl 0 rfl) ?_
                      refine r_icmp_ne (tgt := 203) hx hb dX12_ofMan_194 (by decide) (fun c101 => ?_) (fun c101 => ?_)
                      · refine lv_aload_n hx hb dX12_ofMan_203 rfl (lv_at hl 2 rfl) ?_
                        refine fg_12_7 (k := 387) hx hb hts in_X12_ofMan_12 hown hK hP (by decide) (by decide) (hts _ lk_X12_ofMan_37) dX12_ofMan_204 ?_
                        refine r_bipush hx hb dX12_ofMan_207 (by decide) (fun z102 ez102 => ?_)
                        refine lv_iload_n hx hb dX12_ofMan_209 rfl (lv_at hl 0 rfl) ?_
                        refine r_iadd hx hb dX12_ofMan_210 (by omega) (fun z103 ez103 => ?_)
                        refine lv_aload_n hx hb dX12_ofMan_211 rfl (lv_at hl 2 rfl) ?_
                        refine fg_12_18 (k := 387) hx hb hts in_X12_ofMan_12 hown hK hP (by decide) (by decide) (hts _ lk_X12_ofMan_195) dX12_ofMan_212 ?_
                        refine r_iconst hx hb dX12_ofMan_215 (by decide) (fun z104 ez104 => ?_)
                        refine r_iadd hx hb dX12_ofMan_216 (by omega) (fun z105 ez105 => ?_)
                        refine as_mh (k := 390) (j := j83) hx hb hK hP hI hR hS (by decide) (by decide) (by omega) (by omega) (rw_mh_3 (by decide) (by decide) (by omega) (by omega) (by omega)) dX12_ofMan_217 (fun σ106 H106 locs106 u106 v106 hR hP hS => ?_)
                        have hF := hF.puts u106 3 rfl (by decide) (by decide) (by omega) (by omega)
                        have gHI := HI.putV gHI u106 (by intro q hq; simp only [Gd_HI, List.mem_cons, List.not_mem_nil, or_false] at hq; rcases hq with rfl | rfl <;> dsimp only [inRc] <;> omega)
                        have t107 : (σ106 387 3).toInt = (σ96 387 3).toInt := congrArg Int32.toInt (u106 387 3 (by omega))
                        have t108 : (σ106 387 4).toInt = (σ96 387 4).toInt := congrArg Int32.toInt (u106 387 4 (by omega))
                        have t109 : (σ106 387 11).toInt = (σ96 387 11).toInt := congrArg Int32.toInt (u106 387 11 (by omega))
                        have t110 : (σ106 387 18).toInt = (σ96 387 18).toInt := congrArg Int32.toInt (u106 387 18 (by omega))
                        refine lv_aload_n hx hb dX12_ofMan_218 rfl (lv_at hl 2 rfl) ?_
                        refine r_cVv (k := 387) (As := []) (rest := []) ⟨hx, hb, hml, hown, hts⟩ hK hP hN hS (c_X12_next l D cA ad hI σ106 τ96 hR) (cwV 0 hts gX12_ofMan_X12_next rfl rfl rfl (by decide +kernel) ⟨by decide, by decide⟩) (rv_M hK hP (by decide) (by decide)) rfl hl.1 rfl (Nat.le_of_ble_eq_true rfl) dX12_ofMan_219 (Nat.zero_le _) (Nat.zero_le _) (fun u111 H111 locs111 hp111 hP hS => ?_)
                        obtain ⟨σ111, τ111⟩ := u111
                        obtain ⟨hR, f111, hp111_0, hp111_1, hp111_2⟩ : P_X12_next σ106 σ111 := hp111
                        have hP : va_P D vwCl (gw cA ad σ111 τ111) H111 := hP
                        clear hp86_1
                        have hF := hF.step f111 (by decide)
                        have gHI := HI.fr gHI f111 (by decide)
                        have t112 : (σ111 387 3).toInt = (σ106 387 3).toInt := congrArg Int32.toInt (f111.at 387 3 (by decide))
                        have t113 : (σ111 387 18).toInt = (σ106 387 18).toInt := congrArg Int32.toInt (f111.at 387 18 (by decide))
                        have hr114 := rg_12_4 hR (k := 387) (by decide) (by decide)
                        refine r_iconst hx hb dX12_ofMan_222 (by decide) (fun z115 ez115 => ?_)
                        exact r_zret hx hb hr hK hP hS hk (by omega) dX12_ofMan_223 (show P_X12_ofMan σ0 z115 σ111 from ⟨hR, hF, by omega, by omega, by omega, gHI⟩)
                      · refine lv_aload_n hx hb dX12_ofMan_197 rfl (lv_at hl 2 rfl) ?_
                        refine r_iconst hx hb dX12_ofMan_198 (by decide) (fun z116 ez116 => ?_)
                        refine r_cVi (k := 387) (As := [.int z116]) (rest := []) ⟨hx, hb, hml, hown, hts⟩ hK hP hN hS (c_X12_bad l D cA ad hI σ96 τ96 hR z116 (by omega)) (cwV 1 hts gX12_ofMan_X12_bad rfl rfl rfl (by decide +kernel) ⟨by decide, by decide⟩) (rv_M hK hP (by decide) (by decide)) rfl hl.1 rfl (Nat.le_of_ble_eq_true rfl) dX12_ofMan_199 (Nat.zero_le _) (Nat.zero_le _) (fun r117 u117 H117 locs117 hp117 hP hS => ?_)
                        obtain ⟨σ117, τ117⟩ := u117
                        obtain ⟨hR, f117, hq117⟩ : P_X12_bad σ96 z116 r117 σ117 := hp117
                        have hP : va_P D vwCl (gw cA ad σ117 τ117) H117 := hP
                        have hF := hF.step f117 (by decide)
                        have gHI := HI.fr gHI f117 (by decide)
                        have t118 : (σ117 387 3).toInt = (σ96 387 3).toInt := congrArg Int32.toInt (f117.at 387 3 (by decide))
                        have t119 : (σ117 387 4).toInt = (σ96 387 4).toInt := congrArg Int32.toInt (f117.at 387 4 (by decide))
                        have t120 : (σ117 387 11).toInt = (σ96 387 11).toInt := congrArg Int32.toInt (f117.at 387 11 (by decide))
                        have t121 : (σ117 387 18).toInt = (σ96 387 18).toInt := congrArg Int32.toInt (f117.at 387 18 (by decide))
                        exact r_zret hx hb hr hK hP hS hk (by omega) dX12_ofMan_202 (show P_X12_ofMan σ0 r117 σ117 from ⟨hR, hF, by omega, by omega, by omega, gHI⟩)
                    · clear hp96_0 hp96_1
                      refine r_iconst hx hb dX12_ofMan_187 (by decide) (fun z122 ez122 => ?_)
                      exact r_zret hx hb hr hK hP hS hk (by omega) dX12_ofMan_188 (show P_X12_ofMan σ0 z122 σ96 from ⟨hR, hF, by omega, by omega, by omega, gHI⟩)
                  · exfalso; omega
                · exfalso; omega
              · refine lv_aload_n hx hb dX12_ofMan_111 rfl (lv_at hl 2 rfl) ?_
                refine r_iconst hx hb dX12_ofMan_112 (by decide) (fun z123 ez123 => ?_)
                refine r_cVi (k := 387) (As := [.int z123]) (rest := []) ⟨hx, hb, hml, hown, hts⟩ hK hP hN hS (c_X12_bad l D cA ad hI σ73 τ73 hR z123 (by omega)) (cwV 1 hts gX12_ofMan_X12_bad rfl rfl rfl (by decide +kernel) ⟨by decide, by decide⟩) (rv_M hK hP (by decide) (by decide)) rfl hl.1 rfl (Nat.le_of_ble_eq_true rfl) dX12_ofMan_113 (Nat.zero_le _) (Nat.zero_le _) (fun r124 u124 H124 locs124 hp124 hP hS => ?_)
                obtain ⟨σ124, τ124⟩ := u124
                obtain ⟨hR, f124, hq124⟩ : P_X12_bad σ73 z123 r124 σ124 := hp124
                have hP : va_P D vwCl (gw cA ad σ124 τ124) H124 := hP
                have hF := hF.step f124 (by decide)
                have gHI := HI.fr gHI f124 (by decide)
                have t125 : (σ124 387 3).toInt = (σ73 387 3).toInt := congrArg Int32.toInt (f124.at 387 3 (by decide))
                have t126 : (σ124 387 4).toInt = (σ73 387 4).toInt := congrArg Int32.toInt (f124.at 387 4 (by decide))
                have t127 : (σ124 387 11).toInt = (σ73 387 11).toInt := congrArg Int32.toInt (f124.at 387 11 (by decide))
                have t128 : (σ124 387 18).toInt = (σ73 387 18).toInt := congrArg Int32.toInt (f124.at 387 18 (by decide))
                exact r_zret hx hb hr hK hP hS hk (by omega) dX12_ofMan_116 (show P_X12_ofMan σ0 r124 σ124 from ⟨hR, hF, by omega, by omega, by omega, gHI⟩)
          · exfalso; omega
        · clear hp73_0 hp73_1
          refine r_iconst hx hb dX12_ofMan_73 (by decide) (fun z129 ez129 => ?_)
          exact r_zret hx hb hr hK hP hS hk (by omega) dX12_ofMan_74 (show P_X12_ofMan σ0 z129 σ73 from ⟨hR, hF, by omega, by omega, by omega, gHI⟩)
      · exfalso; omega
  · replace hp1_0 := hp1_0.resolve_left (by omega)
    refine r_iconst hx hb dX12_ofMan_10 (by decide) (fun z130 ez130 => ?_)
    refine lv_goto (tgt := 43) hx hb dX12_ofMan_11 (by decide) ?_
    refine lv_istore_n (lv' := [(1, .int z130), (0, .ref (ad 387))]) hx hb dX12_ofMan_43 rfl hl (by decide) rfl (fun ls hl => ?_)
    refine lv_iload_n hx hb dX12_ofMan_44 rfl (lv_at hl 0 rfl) ?_
    refine r_if_ge (tgt := 54) hx hb dX12_ofMan_45 (by decide) (fun c131 => ?_) (fun c131 => ?_)
    · refine lv_aload_n hx hb dX12_ofMan_54 rfl (lv_at hl 1 rfl) ?_
      refine r_cVv (k := 387) (As := []) (rest := []) ⟨hx, hb, hml, hown, hts⟩ hK hP hN hS (c_X12_next l D cA ad hI σ0 τ1 hR) (cwV 0 hts gX12_ofMan_X12_next rfl rfl rfl (by decide +kernel) ⟨by decide, by decide⟩) (rv_M hK hP (by decide) (by decide)) rfl hl.1 rfl (Nat.le_of_ble_eq_true rfl) dX12_ofMan_55 (Nat.zero_le _) (Nat.zero_le _) (fun u132 H132 locs132 hp132 hP hS => ?_)
      obtain ⟨σ132, τ132⟩ := u132
      obtain ⟨hR, f132, hp132_0, hp132_1, hp132_2⟩ : P_X12_next σ0 σ132 := hp132
      have hP : va_P D vwCl (gw cA ad σ132 τ132) H132 := hP
      have hF := hF.step f132 (by decide)
      have gHI := HI.fr gHI f132 (by decide)
      have t133 : (σ132 387 3).toInt = (σ0 387 3).toInt := congrArg Int32.toInt (f132.at 387 3 (by decide))
      have hr134 := rg_12_4 hR (k := 387) (by decide) (by decide)
      refine lv_aload_n hx hb dX12_ofMan_58 rfl (lv_at hl 1 rfl) ?_
      refine r_bipush hx hb dX12_ofMan_59 (by decide) (fun z135 ez135 => ?_)
      refine lv_aload_n hx hb dX12_ofMan_61 rfl (lv_at hl 1 rfl) ?_
      refine fg_12_7 (k := 387) hx hb hts in_X12_ofMan_12 hown hK hP (by decide) (by decide) (hts _ lk_X12_ofMan_37) dX12_ofMan_62 ?_
      refine r_iconst hx hb dX12_ofMan_65 (by decide) (fun z136 ez136 => ?_)
      refine ad_mh (k := 390) (j := 1) hx hb hK hP (by decide) (by decide) (by omega) (by omega) dX12_ofMan_66 ?_
      have hr137 := ra_mh_0 hR (k := 390) (j := 1) (by decide) (by decide) (by decide) (by decide)
      refine r_cVi (k := 387) (As := [.int z135, .int (σ132 390 1)]) (rest := []) ⟨hx, hb, hml, hown, hts⟩ hK hP hN hS (c_X12_looksAt l D cA ad hI σ132 τ132 hR z135 (σ132 390 1) (by omega) (by omega)) (cwV 2 hts gX12_ofMan_X12_looksAt rfl rfl rfl (by decide +kernel) ⟨by decide, by decide⟩) (rv_M hK hP (by decide) (by decide)) rfl hl.1 rfl (Nat.le_of_ble_eq_true rfl) dX12_ofMan_67 (Nat.zero_le _) (Nat.zero_le _) (fun r138 u138 H138 locs138 hp138 hP hS => ?_)
      obtain ⟨σ138, τ138⟩ := u138
      obtain ⟨hR, f138, hq138, hp138_0, hp138_1⟩ : P_X12_looksAt σ132 z135 (σ132 390 1) r138 σ138 := hp138
      have hP : va_P D vwCl (gw cA ad σ138 τ138) H138 := hP
      have hF := hF.step f138 (by decide)
      have gHI := HI.fr gHI f138 (by decide)
      have t139 : (σ138 387 3).toInt = (σ132 387 3).toInt := congrArg Int32.toInt (f138.at 387 3 (by decide))
      have t140 : (σ138 387 4).toInt = (σ132 387 4).toInt := congrArg Int32.toInt (f138.at 387 4 (by decide))
      have t141 : (σ138 387 11).toInt = (σ132 387 11).toInt := congrArg Int32.toInt (f138.at 387 11 (by decide))
      refine r_if_ne (tgt := 75) hx hb dX12_ofMan_70 (by decide) (fun c142 => ?_) (fun c142 => ?_)
      · replace hp138_0 := hp138_0.resolve_left (by omega)
        replace hp138_1 := hp138_1.resolve_left (by omega)
        refine lv_aload_n hx hb dX12_ofMan_75 rfl (lv_at hl 1 rfl) ?_
        refine fg_12_18 (k := 387) hx hb hts in_X12_ofMan_12 hown hK hP (by decide) (by decide) (hts _ lk_X12_ofMan_195) dX12_ofMan_76 ?_
        refine lv_istore_n (lv' := [(2, .int (σ138 387 18)), (1, .int z130), (0, .ref (ad 387))]) hx hb dX12_ofMan_79 rfl hl (by decide) rfl (fun ls hl => ?_)
        refine lv_aload_n hx hb dX12_ofMan_80 rfl (lv_at hl 2 rfl) ?_
        refine fg_12_7 (k := 387) hx hb hts in_X12_ofMan_12 hown hK hP (by decide) (by decide) (hts _ lk_X12_ofMan_37) dX12_ofMan_81 ?_
        refine lv_iload_n hx hb dX12_ofMan_84 rfl (lv_at hl 1 rfl) ?_
        refine r_if_ne (tgt := 93) hx hb dX12_ofMan_85 (by decide) (fun c143 => ?_) (fun c143 => ?_)
        · exfalso; omega
        · refine r_bipush hx hb dX12_ofMan_88 (by decide) (fun z144 ez144 => ?_)
          refine lv_goto (tgt := 105) hx hb dX12_ofMan_90 (by decide) ?_
          refine lv_iload_n hx hb dX12_ofMan_105 rfl (lv_at hl 0 rfl) ?_
          refine r_iadd hx hb dX12_ofMan_106 (by omega) (fun z145 ez145 => ?_)
          obtain ⟨j146, ej146⟩ : ∃ j : Nat, z145.toInt = (j : Int) := ⟨_, ti_nat (by omega)⟩
          refine ad_mh (k := 390) (j := j146) hx hb hK hP (by decide) (by decide) ej146 (by omega) dX12_ofMan_107 ?_
          refine r_if_le (tgt := 117) hx hb dX12_ofMan_108 (by decide) (fun c147 => ?_) (fun c147 => ?_)
          · refine lv_aload_n hx hb dX12_ofMan_117 rfl (lv_at hl 2 rfl) ?_
            refine r_cVv (k := 387) (As := []) (rest := []) ⟨hx, hb, hml, hown, hts⟩ hK hP hN hS (c_X12_next l D cA ad hI σ138 τ138 hR) (cwV 0 hts gX12_ofMan_X12_next rfl rfl rfl (by decide +kernel) ⟨by decide, by decide⟩) (rv_M hK hP (by decide) (by decide)) rfl hl.1 rfl (Nat.le_of_ble_eq_true rfl) dX12_ofMan_118 (Nat.zero_le _) (Nat.zero_le _) (fun u148 H148 locs148 hp148 hP hS => ?_)
            obtain ⟨σ148, τ148⟩ := u148
            obtain ⟨hR, f148, hp148_0, hp148_1, hp148_2⟩ : P_X12_next σ138 σ148 := hp148
            have hP : va_P D vwCl (gw cA ad σ148 τ148) H148 := hP
            clear hp132_1
            have hF := hF.step f148 (by decide)
            have gHI := HI.fr gHI f148 (by decide)
            have t149 : (σ148 387 3).toInt = (σ138 387 3).toInt := congrArg Int32.toInt (f148.at 387 3 (by decide))
            have t150 : (σ148 387 18).toInt = (σ138 387 18).toInt := congrArg Int32.toInt (f148.at 387 18 (by decide))
            have hr151 := rg_12_4 hR (k := 387) (by decide) (by decide)
            refine lv_iload_n hx hb dX12_ofMan_121 rfl (lv_at hl 1 rfl) ?_
            refine r_if_ne (tgt := 137) hx hb dX12_ofMan_122 (by decide) (fun c152 => ?_) (fun c152 => ?_)
            · exfalso; omega
            · refine lv_aload_n hx hb dX12_ofMan_125 rfl (lv_at hl 2 rfl) ?_
              refine fg_12_7 (k := 387) hx hb hts in_X12_ofMan_12 hown hK hP (by decide) (by decide) (hts _ lk_X12_ofMan_37) dX12_ofMan_126 ?_
              refine r_bipush hx hb dX12_ofMan_129 (by decide) (fun z153 ez153 => ?_)
              refine lv_iload_n hx hb dX12_ofMan_131 rfl (lv_at hl 0 rfl) ?_
              refine r_iadd hx hb dX12_ofMan_132 (by omega) (fun z154 ez154 => ?_)
              refine r_iconst hx hb dX12_ofMan_133 (by decide) (fun z155 ez155 => ?_)
              refine as_mh (k := 390) (j := j146) hx hb hK hP hI hR hS (by decide) (by decide) (by omega) (by omega) (rx_mh_39 (by decide) (by decide) (by omega) (by omega)) dX12_ofMan_134 (fun σ156 H156 locs156 u156 v156 hR hP hS => ?_)
              have hF := hF.puts u156 3 rfl (by decide) (by decide) (by omega) (by omega)
              have gHI := HI.putV gHI u156 (by intro q hq; simp only [Gd_HI, List.mem_cons, List.not_mem_nil, or_false] at hq; rcases hq with rfl | rfl <;> dsimp only [inRc] <;> omega)
              have t157 : (σ156 387 3).toInt = (σ148 387 3).toInt := congrArg Int32.toInt (u156 387 3 (by omega))
              have t158 : (σ156 387 18).toInt = (σ148 387 18).toInt := congrArg Int32.toInt (u156 387 18 (by omega))
              have t159 : (σ156 387 4).toInt = (σ148 387 4).toInt := congrArg Int32.toInt (u156 387 4 (by omega))
              have t160 : (σ156 387 11).toInt = (σ148 387 11).toInt := congrArg Int32.toInt (u156 387 11 (by omega))
              refine r_iconst hx hb dX12_ofMan_135 (by decide) (fun z161 ez161 => ?_)
              exact r_zret hx hb hr hK hP hS hk (by omega) dX12_ofMan_136 (show P_X12_ofMan σ0 z161 σ156 from ⟨hR, hF, by omega, by omega, by omega, gHI⟩)
          · refine lv_aload_n hx hb dX12_ofMan_111 rfl (lv_at hl 2 rfl) ?_
            refine r_iconst hx hb dX12_ofMan_112 (by decide) (fun z162 ez162 => ?_)
            refine r_cVi (k := 387) (As := [.int z162]) (rest := []) ⟨hx, hb, hml, hown, hts⟩ hK hP hN hS (c_X12_bad l D cA ad hI σ138 τ138 hR z162 (by omega)) (cwV 1 hts gX12_ofMan_X12_bad rfl rfl rfl (by decide +kernel) ⟨by decide, by decide⟩) (rv_M hK hP (by decide) (by decide)) rfl hl.1 rfl (Nat.le_of_ble_eq_true rfl) dX12_ofMan_113 (Nat.zero_le _) (Nat.zero_le _) (fun r163 u163 H163 locs163 hp163 hP hS => ?_)
            obtain ⟨σ163, τ163⟩ := u163
            obtain ⟨hR, f163, hq163⟩ : P_X12_bad σ138 z162 r163 σ163 := hp163
            have hP : va_P D vwCl (gw cA ad σ163 τ163) H163 := hP
            have hF := hF.step f163 (by decide)
            have gHI := HI.fr gHI f163 (by decide)
            have t164 : (σ163 387 3).toInt = (σ138 387 3).toInt := congrArg Int32.toInt (f163.at 387 3 (by decide))
            have t165 : (σ163 387 4).toInt = (σ138 387 4).toInt := congrArg Int32.toInt (f163.at 387 4 (by decide))
            have t166 : (σ163 387 11).toInt = (σ138 387 11).toInt := congrArg Int32.toInt (f163.at 387 11 (by decide))
            have t167 : (σ163 387 18).toInt = (σ138 387 18).toInt := congrArg Int32.toInt (f163.at 387 18 (by decide))
            exact r_zret hx hb hr hK hP hS hk (by omega) dX12_ofMan_116 (show P_X12_ofMan σ0 r163 σ163 from ⟨hR, hF, by omega, by omega, by omega, gHI⟩)
      · clear hp138_0 hp138_1
        refine r_iconst hx hb dX12_ofMan_73 (by decide) (fun z168 ez168 => ?_)
        exact r_zret hx hb hr hK hP hS hk (by omega) dX12_ofMan_74 (show P_X12_ofMan σ0 z168 σ138 from ⟨hR, hF, by omega, by omega, by omega, gHI⟩)
    · exfalso; omega
