theorem in_X12_drawn_12 : ∀ w ∈ u_ws RX12 TX12 47, w ∈ wsX12_drawn := by decide +kernel
theorem lk_X12_drawn_1 : Cond.fieldLink RX12 1 "CuckooSharesModel" "thrown" "I" ∈ wsX12_drawn := by decide +kernel
theorem lk_X12_drawn_33 : Cond.fieldLink RX12 33 "CuckooSharesModel" "s" "[I" ∈ wsX12_drawn := by decide +kernel
abbrev L_X12_drawn : List Rc := [(387, 387, 0, 0), (387, 387, 33, 33), (387, 387, 29, 29), (398, 398, 0, 279), (394, 394, 0, 7), (395, 395, 0, 7), (396, 396, 0, 7), (387, 387, 26, 26), (397, 397, 0, 7), (389, 389, 211, 221), (389, 389, 230, 245)]
abbrev LL_X12_drawn : List Rc := []
def P_X12_drawn (σ0 : Nat → Nat → Int32) (τ0 : Nat → Nat → Int64) (a1 : Int32) (a2 : Int32) (r : Int32) (σ : Nat → Nat → Int32) (τ : Nat → Nat → Int64) : Prop := Rg σ ∧ Fr L_X12_drawn σ0 σ ∧ FrL LL_X12_drawn τ0 τ ∧ (-1 ≤ r.toInt ∧ r.toInt ≤ 40)
set_option maxHeartbeats 4000000 in
theorem c_X12_drawn (l : Launch) (D : va_G) (cA : Nat → ClassId) (ad : Nat → Nat) (hI : Inj ad) (σ0 : Nat → Nat → Int32) (τ0 : Nat → Nat → Int64) (hR : Rg σ0) (a1 : Int32) (a2 : Int32) (gSI0 : SI σ0) : Met l yX12_drawn wsX12_drawn ({ frames := 7, cells := 0, slots := 0, locals := 165 } : Room) (WQc D cA ad [.ref (ad 387), .int a1, .int a2] σ0 τ0) (va_Qi (fun (r : Int32) (u : SS) => P_X12_drawn σ0 τ0 a1 a2 r u.1 u.2) (WB D cA ad) (AA ad)) 0 0 (AA ad) := by
  refine Met.ofW (cc := cX12_drawn) (maxL := 3) (ret := (some .int)) (by decide) rfl ?_
  intro p e s m args below meth c s₁ B hml hv
  obtain ⟨rfl, hP, hK, hN⟩ := hv
  have C : Cy p s m _ meth c cX12_drawn 3 wsX12_drawn RX12 D cA ad (some .int) := ⟨B.exec, B.bytes, hml, findClass_of_methodNamed B.named, atoms_spec (ws := wsX12_drawn) B.pre, hK, B.notSynchronized, B.returns, hI, hN⟩
  have hl := lv_entry ([.ref (ad 387), .int a1, .int a2]) (n := 3) (Nat.le_of_ble_eq_true rfl)
  rw [lg_entry_eq]
  generalize (lg_sl ([.ref (ad 387), .int a1, .int a2]) ++ List.replicate (3 - (lg_sl ([.ref (ad 387), .int a1, .int a2])).length) Slot.unset).toArray = ls at hl ⊢
  have hl : lv_has ls 3 [(0, .ref (ad 387)), (1, .int a1), (2, .int a2)] := hl
  have hS : va_S (AA ad) s.heap s.heap [] := va_S.rf
  have hF : Fr L_X12_drawn σ0 σ0 := Fr.rf
  have hFL : FrL LL_X12_drawn τ0 τ0 := FrL.rf
  have gSI := gSI0
  obtain ⟨hx, hb, _, hown, hts, _, hk, hr, _, _⟩ := C
  refine lv_aload_n hx hb dX12_drawn_0 rfl (lv_at hl 0 rfl) ?_
  refine r_iconst hx hb dX12_drawn_1 (by decide) (fun z1 ez1 => ?_)
  refine fp_12_0 (k := 387) hx hb hts in_X12_drawn_12 hown hK hP (by decide) (by decide) (hts _ lk_X12_drawn_1) hI hR hS (by omega) dX12_drawn_2 (fun σ2 H2 locs2 u2 v2 hR hP hS => ?_)
  have hF := hF.puts u2 0 rfl (by decide) (by decide) (by decide) (by decide)
  have gSI := SI.put gSI hR u2 (by decide)
  refine lv_iload_n hx hb dX12_drawn_5 rfl (lv_at hl 1 rfl) ?_
  refine r_iconst hx hb dX12_drawn_6 (by decide) (fun z3 ez3 => ?_)
  refine r_bipush hx hb dX12_drawn_7 (by decide) (fun z4 ez4 => ?_)
  refine r_cSi (As := [.int a1, .int z3, .int z4]) (rest := []) ⟨hx, hb, hml, hown, hts⟩ hK hP hN hS (c_X12_isIn l D cA ad hI σ2 τ0 hR a1 z3 z4) (va_cwS 3 hts gX12_drawn_X12_isIn rfl rfl rfl (by decide +kernel) ⟨by decide, by decide⟩) rfl hl.1 rfl (Nat.le_of_ble_eq_true rfl) dX12_drawn_9 (Nat.zero_le _) (Nat.zero_le _) (fun r5 u5 H5 locs5 hp5 hP hS => ?_)
  obtain ⟨σ5, τ5⟩ := u5
  obtain ⟨hR, f5, fL5, hq5, hp5_0, hp5_1⟩ : P_X12_isIn σ2 τ0 a1 z3 z4 r5 σ5 τ5 := hp5
  have hP : va_P D vwCl (gw cA ad σ5 τ5) H5 := hP
  obtain rfl := FrL.nil fL5
  obtain rfl := Fr.nil f5
  refine r_if_eq (tgt := 33) hx hb dX12_drawn_12 (by decide) (fun c6 => ?_) (fun c6 => ?_)
  · clear hp5_0
    refine r_iconst hx hb dX12_drawn_33 (by decide) (fun z7 ez7 => ?_)
    exact r_iret hx hb hr hK hP hS hk dX12_drawn_34 (show P_X12_drawn σ0 τ0 a1 a2 z7 σ2 τ0 from ⟨hR, hF, hFL, by omega⟩)
  · replace hp5_0 := hp5_0.resolve_left (by omega)
    refine lv_aload_n hx hb dX12_drawn_15 rfl (lv_at hl 0 rfl) ?_
    refine fg_12_6 (k := 387) hx hb hts in_X12_drawn_12 hown hK hP (by decide) (by decide) (hts _ lk_X12_drawn_33) dX12_drawn_16 ?_
    refine r_iconst hx hb dX12_drawn_19 (by decide) (fun z8 ez8 => ?_)
    refine ad_ms (k := 389) (j := 0) hx hb hK hP (by decide) (by decide) (by omega) (by omega) dX12_drawn_20 ?_
    have hr9 := ra_ms_0 hR (k := 389) (j := 0) (by decide) (by decide) (by decide) (by decide)
    refine r_if_eq (tgt := 33) hx hb dX12_drawn_21 (by decide) (fun c10 => ?_) (fun c10 => ?_)
    · refine r_iconst hx hb dX12_drawn_33 (by decide) (fun z11 ez11 => ?_)
      exact r_iret hx hb hr hK hP hS hk dX12_drawn_34 (show P_X12_drawn σ0 τ0 a1 a2 z11 σ2 τ0 from ⟨hR, hF, hFL, by omega⟩)
    · refine lv_aload_n hx hb dX12_drawn_24 rfl (lv_at hl 0 rfl) ?_
      refine fg_12_6 (k := 387) hx hb hts in_X12_drawn_12 hown hK hP (by decide) (by decide) (hts _ lk_X12_drawn_33) dX12_drawn_25 ?_
      refine r_iconst hx hb dX12_drawn_28 (by decide) (fun z12 ez12 => ?_)
      refine ad_ms (k := 389) (j := 2) hx hb hK hP (by decide) (by decide) (by omega) (by omega) dX12_drawn_29 ?_
      have hr13 := ra_ms_1 hR (k := 389) (j := 2) (by decide) (by decide) (by decide) (by decide)
      refine r_if_ne (tgt := 35) hx hb dX12_drawn_30 (by decide) (fun c14 => ?_) (fun c14 => ?_)
      · refine lv_aload_n hx hb dX12_drawn_35 rfl (lv_at hl 0 rfl) ?_
        refine fg_12_6 (k := 387) hx hb hts in_X12_drawn_12 hown hK hP (by decide) (by decide) (hts _ lk_X12_drawn_33) dX12_drawn_36 ?_
        refine r_sipush hx hb dX12_drawn_39 (by decide) (fun z15 ez15 => ?_)
        refine ad_ms (k := 389) (j := 211) hx hb hK hP (by decide) (by decide) (by omega) (by omega) dX12_drawn_42 ?_
        refine r_bipush hx hb dX12_drawn_43 (by decide) (fun z16 ez16 => ?_)
        refine r_icmp_ge (tgt := 52) hx hb dX12_drawn_45 (by decide) (fun c17 => ?_) (fun c17 => ?_)
        · refine lv_aload_n hx hb dX12_drawn_52 rfl (lv_at hl 0 rfl) ?_
          refine lv_iload_n hx hb dX12_drawn_53 rfl (lv_at hl 1 rfl) ?_
          refine lv_iload_n hx hb dX12_drawn_54 rfl (lv_at hl 2 rfl) ?_
          refine r_cVi (k := 387) (As := [.int a1, .int a2]) (rest := []) ⟨hx, hb, hml, hown, hts⟩ hK hP hN hS (c_X12_draws l D cA ad hI σ2 τ0 hR a1 a2 (by omega) (by omega) gSI) (cwV 2 hts gX12_drawn_X12_draws rfl rfl rfl (by decide +kernel) ⟨by decide, by decide⟩) (rv_M hK hP (by decide) (by decide)) rfl hl.1 rfl (Nat.le_of_ble_eq_true rfl) dX12_drawn_55 (Nat.zero_le _) (Nat.zero_le _) (fun r18 u18 H18 locs18 hp18 hP hS => ?_)
          obtain ⟨σ18, τ18⟩ := u18
          obtain ⟨hR, f18, fL18, hq18⟩ : P_X12_draws σ2 τ0 a1 a2 r18 σ18 τ18 := hp18
          have hP : va_P D vwCl (gw cA ad σ18 τ18) H18 := hP
          obtain rfl := FrL.nil fL18
          have hF := hF.step f18 (by decide)
          have gSI := SI.fr gSI hR f18 (by decide)
          have t19 : (σ18 389 0).toInt = (σ2 389 0).toInt := congrArg Int32.toInt (f18.at 389 0 (by decide))
          have t20 : (σ18 389 2).toInt = (σ2 389 2).toInt := congrArg Int32.toInt (f18.at 389 2 (by decide))
          exact r_iret hx hb hr hK hP hS hk dX12_drawn_58 (show P_X12_drawn σ0 τ0 a1 a2 r18 σ18 τ0 from ⟨hR, hF, hFL, by omega⟩)
        · refine lv_aload_n hx hb dX12_drawn_48 rfl (lv_at hl 0 rfl) ?_
          refine r_cVv (k := 387) (As := []) (rest := []) ⟨hx, hb, hml, hown, hts⟩ hK hP hN hS (c_X12_keep l D cA ad hI σ2 τ0 hR) (cwV 0 hts gX12_drawn_X12_keep rfl rfl rfl (by decide +kernel) ⟨by decide, by decide⟩) (rv_M hK hP (by decide) (by decide)) rfl hl.1 rfl (Nat.le_of_ble_eq_true rfl) dX12_drawn_49 (Nat.zero_le _) (Nat.zero_le _) (fun u21 H21 locs21 hp21 hP hS => ?_)
          obtain ⟨σ21, τ21⟩ := u21
          obtain ⟨hR, f21, fL21, hp21_0⟩ : P_X12_keep σ2 τ0 σ21 τ21 := hp21
          have hP : va_P D vwCl (gw cA ad σ21 τ21) H21 := hP
          obtain rfl := FrL.nil fL21
          have hF := hF.step f21 (by decide)
          have gSI := SI.fr gSI hR f21 (by decide)
          have t22 : (σ21 389 0).toInt = (σ2 389 0).toInt := congrArg Int32.toInt (f21.at 389 0 (by decide))
          have t23 : (σ21 389 2).toInt = (σ2 389 2).toInt := congrArg Int32.toInt (f21.at 389 2 (by decide))
          have t24 : (σ21 389 211).toInt = (σ2 389 211).toInt := congrArg Int32.toInt (f21.at 389 211 (by decide))
          refine lv_aload_n hx hb dX12_drawn_52 rfl (lv_at hl 0 rfl) ?_
          refine lv_iload_n hx hb dX12_drawn_53 rfl (lv_at hl 1 rfl) ?_
          refine lv_iload_n hx hb dX12_drawn_54 rfl (lv_at hl 2 rfl) ?_
          refine r_cVi (k := 387) (As := [.int a1, .int a2]) (rest := []) ⟨hx, hb, hml, hown, hts⟩ hK hP hN hS (c_X12_draws l D cA ad hI σ21 τ0 hR a1 a2 (by omega) (by omega) gSI) (cwV 2 hts gX12_drawn_X12_draws rfl rfl rfl (by decide +kernel) ⟨by decide, by decide⟩) (rv_M hK hP (by decide) (by decide)) rfl hl.1 rfl (Nat.le_of_ble_eq_true rfl) dX12_drawn_55 (Nat.zero_le _) (Nat.zero_le _) (fun r25 u25 H25 locs25 hp25 hP hS => ?_)
          obtain ⟨σ25, τ25⟩ := u25
          obtain ⟨hR, f25, fL25, hq25⟩ : P_X12_draws σ21 τ0 a1 a2 r25 σ25 τ25 := hp25
          have hP : va_P D vwCl (gw cA ad σ25 τ25) H25 := hP
          obtain rfl := FrL.nil fL25
          have hF := hF.step f25 (by decide)
          have gSI := SI.fr gSI hR f25 (by decide)
          have t26 : (σ25 389 0).toInt = (σ21 389 0).toInt := congrArg Int32.toInt (f25.at 389 0 (by decide))
          have t27 : (σ25 389 2).toInt = (σ21 389 2).toInt := congrArg Int32.toInt (f25.at 389 2 (by decide))
          have t28 : (σ25 387 29).toInt = (σ21 387 29).toInt := congrArg Int32.toInt (f25.at 387 29 (by decide))
          exact r_iret hx hb hr hK hP hS hk dX12_drawn_58 (show P_X12_drawn σ0 τ0 a1 a2 r25 σ25 τ0 from ⟨hR, hF, hFL, by omega⟩)
      · refine r_iconst hx hb dX12_drawn_33 (by decide) (fun z29 ez29 => ?_)
        exact r_iret hx hb hr hK hP hS hk dX12_drawn_34 (show P_X12_drawn σ0 τ0 a1 a2 z29 σ2 τ0 from ⟨hR, hF, hFL, by omega⟩)
theorem in_X12_back_12 : ∀ w ∈ u_ws RX12 TX12 47, w ∈ wsX12_back := by decide +kernel
theorem lk_X12_back_33 : Cond.fieldLink RX12 33 "CuckooSharesModel" "s" "[I" ∈ wsX12_back := by decide +kernel
theorem lk_X12_back_65 : Cond.fieldLink RX12 65 "CuckooSharesModel" "before" "[I" ∈ wsX12_back := by decide +kernel
abbrev L_X12_back : List Rc := [(389, 389, 211, 245)]
abbrev LL_X12_back : List Rc := []
def P_X12_back (σ0 : Nat → Nat → Int32) (τ0 : Nat → Nat → Int64)  (σ : Nat → Nat → Int32) (τ : Nat → Nat → Int64) : Prop := Rg σ ∧ Fr L_X12_back σ0 σ ∧ FrL LL_X12_back τ0 τ
def J_X12_back_2 (p : Program) (l : Launch) (e : Env) (s : State) (m : MethodId) (args : Array Value) (below : List Frame) (meth : Method) (c : Code) (D : va_G) (cA : Nat → ClassId) (ad : Nat → Nat) (σ0 : Nat → Nat → Int32) (τ0 : Nat → Nat → Int64)  (n : Nat) : Prop := ∀ (σ : Nat → Nat → Int32) (τ : Nat → Nat → Int64) (H : Heap) (locs : List Loc) (x1 : Int32) (ls : Array Slot), Rg σ → Fr L_X12_back σ0 σ → FrL LL_X12_back τ0 τ → va_P D vwCl (gw cA ad σ τ) H → va_S (AA ad) s.heap H locs → (0 ≤ x1.toInt ∧ x1.toInt ≤ 39) → lv_has ls 2 [(0, .ref (ad 387)), (1, .int x1)] → 2 * (39 - x1.toInt) + 1 < (n : Int) → W p l e ({ frames := 0, cells := 0, slots := 0, locals := 0 } : Room) s m args below meth c H locs 0 0 (MQ below (va_Qv (fun u : SS => P_X12_back σ0 τ0 u.1 u.2) (WB D cA ad) (AA ad)) args s 0 0 (AA ad)) (F0 m 2 ls [])
set_option maxHeartbeats 4000000 in
theorem B_X12_back_2 (p : Program) (l : Launch) (e : Env) (s : State) (m : MethodId) (args : Array Value) (below : List Frame) (meth : Method) (c : Code) (D : va_G) (cA : Nat → ClassId) (ad : Nat → Nat) (σ0 : Nat → Nat → Int32) (τ0 : Nat → Nat → Int64)  (n : Nat) (C : Cy p s m args meth c cX12_back 2 wsX12_back RX12 D cA ad none)  (K2 : J_X12_back_2 p l e s m args below meth c D cA ad σ0 τ0 n) : J_X12_back_2 p l e s m args below meth c D cA ad σ0 τ0 (n + 1) := by
  obtain ⟨hx, hb, hml, hown, hts, hK, hk, hr, hI, hN⟩ := C
  intro σ τ H locs x1 ls hR hF hFL hP hS hc0 hl hm
  obtain rfl := FrL.nil hFL
  refine lv_iload_n hx hb dX12_back_2 rfl (lv_at hl 1 rfl) ?_
  refine r_bipush hx hb dX12_back_3 (by decide) (fun z1 ez1 => ?_)
  refine r_icmp_ge (tgt := 30) hx hb dX12_back_5 (by decide) (fun c2 => ?_) (fun c2 => ?_)
  · exact r_vret hx hb hr hK hP hS hk dX12_back_30 (show P_X12_back σ0 τ0 σ τ0 from ⟨hR, hF, hFL⟩)
  · refine lv_aload_n hx hb dX12_back_8 rfl (lv_at hl 0 rfl) ?_
    refine fg_12_6 (k := 387) hx hb hts in_X12_back_12 hown hK hP (by decide) (by decide) (hts _ lk_X12_back_33) dX12_back_9 ?_
    refine r_sipush hx hb dX12_back_12 (by decide) (fun z3 ez3 => ?_)
    refine lv_iload_n hx hb dX12_back_15 rfl (lv_at hl 1 rfl) ?_
    refine r_iadd hx hb dX12_back_16 (by omega) (fun z4 ez4 => ?_)
    refine lv_aload_n hx hb dX12_back_17 rfl (lv_at hl 0 rfl) ?_
    refine fg_12_28 (k := 387) hx hb hts in_X12_back_12 hown hK hP (by decide) (by decide) (hts _ lk_X12_back_65) dX12_back_18 ?_
    refine lv_iload_n hx hb dX12_back_21 rfl (lv_at hl 1 rfl) ?_
    obtain ⟨j5, ej5⟩ : ∃ j : Nat, x1.toInt = (j : Int) := ⟨_, ti_nat (by omega)⟩
    refine ad_mbefore (k := 399) (j := j5) hx hb hK hP (by decide) (by decide) ej5 (by omega) dX12_back_22 ?_
    obtain ⟨j6, ej6⟩ : ∃ j : Nat, z4.toInt = (j : Int) := ⟨_, ti_nat (by omega)⟩
    refine as_ms (k := 389) (j := j6) hx hb hK hP hI hR hS (by decide) (by decide) ej6 (by omega) (mc_sb hR (by omega) (by omega)) dX12_back_23 (fun σ7 H7 locs7 u7 v7 hR hP hS => ?_)
    have hF := hF.puts u7 0 rfl (by decide) (by decide) (by omega) (by omega)
    refine r_iinc (k := 1) (lv1 := fun z8 => [(1, .int z8), (0, .ref (ad 387))]) hx hb dX12_back_24 hl rfl (by decide) (fun _ => rfl) (by decide) (by omega) (fun z8 ls ez8 hl => ?_)
    refine lv_goto (tgt := 2) hx hb dX12_back_27 (by decide) ?_
    exact K2 σ7 τ0 H7 locs7 z8 ls hR hF hFL hP hS (by omega) (lv_sub hl [1, 0] rfl) (by omega)
theorem A_X12_back (p : Program) (l : Launch) (e : Env) (s : State) (m : MethodId) (args : Array Value) (below : List Frame) (meth : Method) (c : Code) (D : va_G) (cA : Nat → ClassId) (ad : Nat → Nat) (σ0 : Nat → Nat → Int32) (τ0 : Nat → Nat → Int64)  (C : Cy p s m args meth c cX12_back 2 wsX12_back RX12 D cA ad none)  : ∀ n : Nat, J_X12_back_2 p l e s m args below meth c D cA ad σ0 τ0 n := by
  intro n
  induction n with
  | zero =>
    exact (by intro σ τ H locs x1 ls hR hF hFL hP hS hc0 hl hm; exfalso; omega)
  | succ n ih =>
    exact B_X12_back_2 p l e s m args below meth c D cA ad σ0 τ0 n C  ih
set_option maxHeartbeats 4000000 in
theorem c_X12_back (l : Launch) (D : va_G) (cA : Nat → ClassId) (ad : Nat → Nat) (hI : Inj ad) (σ0 : Nat → Nat → Int32) (τ0 : Nat → Nat → Int64) (hR : Rg σ0)   : Met l yX12_back wsX12_back ({ frames := 0, cells := 0, slots := 0, locals := 0 } : Room) (WQc D cA ad [.ref (ad 387)] σ0 τ0) (va_Qv (fun u : SS => P_X12_back σ0 τ0 u.1 u.2) (WB D cA ad) (AA ad)) 0 0 (AA ad) := by
  refine Met.ofW (cc := cX12_back) (maxL := 2) (ret := none) (by decide) rfl ?_
  intro p e s m args below meth c s₁ B hml hv
  obtain ⟨rfl, hP, hK, hN⟩ := hv
  have C : Cy p s m _ meth c cX12_back 2 wsX12_back RX12 D cA ad none := ⟨B.exec, B.bytes, hml, findClass_of_methodNamed B.named, atoms_spec (ws := wsX12_back) B.pre, hK, B.notSynchronized, B.returns, hI, hN⟩
  have hl := lv_entry ([.ref (ad 387)]) (n := 2) (Nat.le_of_ble_eq_true rfl)
  rw [lg_entry_eq]
  generalize (lg_sl ([.ref (ad 387)]) ++ List.replicate (2 - (lg_sl ([.ref (ad 387)])).length) Slot.unset).toArray = ls at hl ⊢
  have hl : lv_has ls 2 [(0, .ref (ad 387))] := hl
  have hS : va_S (AA ad) s.heap s.heap [] := va_S.rf
  have hF : Fr L_X12_back σ0 σ0 := Fr.rf
  have hFL : FrL LL_X12_back τ0 τ0 := FrL.rf
  have hA := A_X12_back p l e s m _ below meth c D cA ad σ0 τ0 C  166
  have K2 := hA
  clear hA
  obtain ⟨hx, hb, _, hown, hts, _, hk, hr, _, _⟩ := C
  refine r_iconst hx hb dX12_back_0 (by decide) (fun z1 ez1 => ?_)
  refine lv_istore_n (lv' := [(1, .int z1), (0, .ref (ad 387))]) hx hb dX12_back_1 rfl hl (by decide) rfl (fun ls hl => ?_)
  exact K2 σ0 τ0 s.heap [] z1 ls hR hF hFL hP hS (by omega) (lv_sub hl [1, 0] rfl) (by omega)
theorem in_X12_tries_12 : ∀ w ∈ u_ws RX12 TX12 47, w ∈ wsX12_tries := by decide +kernel
theorem lk_X12_tries_33 : Cond.fieldLink RX12 33 "CuckooSharesModel" "s" "[I" ∈ wsX12_tries := by decide +kernel
theorem lk_X12_tries_65 : Cond.fieldLink RX12 65 "CuckooSharesModel" "before" "[I" ∈ wsX12_tries := by decide +kernel
abbrev L_X12_tries : List Rc := [(399, 399, 0, 34)]
abbrev LL_X12_tries : List Rc := []
def P_X12_tries (σ0 : Nat → Nat → Int32) (τ0 : Nat → Nat → Int64)  (σ : Nat → Nat → Int32) (τ : Nat → Nat → Int64) : Prop := Rg σ ∧ Fr L_X12_tries σ0 σ ∧ FrL LL_X12_tries τ0 τ
def J_X12_tries_2 (p : Program) (l : Launch) (e : Env) (s : State) (m : MethodId) (args : Array Value) (below : List Frame) (meth : Method) (c : Code) (D : va_G) (cA : Nat → ClassId) (ad : Nat → Nat) (σ0 : Nat → Nat → Int32) (τ0 : Nat → Nat → Int64)  (n : Nat) : Prop := ∀ (σ : Nat → Nat → Int32) (τ : Nat → Nat → Int64) (H : Heap) (locs : List Loc) (x1 : Int32) (ls : Array Slot), Rg σ → Fr L_X12_tries σ0 σ → FrL LL_X12_tries τ0 τ → va_P D vwCl (gw cA ad σ τ) H → va_S (AA ad) s.heap H locs → (0 ≤ x1.toInt ∧ x1.toInt ≤ 39) → lv_has ls 2 [(0, .ref (ad 387)), (1, .int x1)] → 2 * (39 - x1.toInt) + 1 < (n : Int) → W p l e ({ frames := 0, cells := 0, slots := 0, locals := 0 } : Room) s m args below meth c H locs 0 0 (MQ below (va_Qv (fun u : SS => P_X12_tries σ0 τ0 u.1 u.2) (WB D cA ad) (AA ad)) args s 0 0 (AA ad)) (F0 m 2 ls [])
set_option maxHeartbeats 4000000 in
theorem B_X12_tries_2 (p : Program) (l : Launch) (e : Env) (s : State) (m : MethodId) (args : Array Value) (below : List Frame) (meth : Method) (c : Code) (D : va_G) (cA : Nat → ClassId) (ad : Nat → Nat) (σ0 : Nat → Nat → Int32) (τ0 : Nat → Nat → Int64)  (n : Nat) (C : Cy p s m args meth c cX12_tries 2 wsX12_tries RX12 D cA ad none)  (K2 : J_X12_tries_2 p l e s m args below meth c D cA ad σ0 τ0 n) : J_X12_tries_2 p l e s m args below meth c D cA ad σ0 τ0 (n + 1) := by
  obtain ⟨hx, hb, hml, hown, hts, hK, hk, hr, hI, hN⟩ := C
  intro σ τ H locs x1 ls hR hF hFL hP hS hc0 hl hm
  obtain rfl := FrL.nil hFL
  refine lv_iload_n hx hb dX12_tries_2 rfl (lv_at hl 1 rfl) ?_
  refine r_bipush hx hb dX12_tries_3 (by decide) (fun z1 ez1 => ?_)
  refine r_icmp_ge (tgt := 30) hx hb dX12_tries_5 (by decide) (fun c2 => ?_) (fun c2 => ?_)
  · exact r_vret hx hb hr hK hP hS hk dX12_tries_30 (show P_X12_tries σ0 τ0 σ τ0 from ⟨hR, hF, hFL⟩)
  · refine lv_aload_n hx hb dX12_tries_8 rfl (lv_at hl 0 rfl) ?_
    refine fg_12_28 (k := 387) hx hb hts in_X12_tries_12 hown hK hP (by decide) (by decide) (hts _ lk_X12_tries_65) dX12_tries_9 ?_
    refine lv_iload_n hx hb dX12_tries_12 rfl (lv_at hl 1 rfl) ?_
    refine lv_aload_n hx hb dX12_tries_13 rfl (lv_at hl 0 rfl) ?_
    refine fg_12_6 (k := 387) hx hb hts in_X12_tries_12 hown hK hP (by decide) (by decide) (hts _ lk_X12_tries_33) dX12_tries_14 ?_
    refine r_sipush hx hb dX12_tries_17 (by decide) (fun z3 ez3 => ?_)
    refine lv_iload_n hx hb dX12_tries_20 rfl (lv_at hl 1 rfl) ?_
    refine r_iadd hx hb dX12_tries_21 (by omega) (fun z4 ez4 => ?_)
    obtain ⟨j5, ej5⟩ : ∃ j : Nat, z4.toInt = (j : Int) := ⟨_, ti_nat (by omega)⟩
    refine ad_ms (k := 389) (j := j5) hx hb hK hP (by decide) (by decide) ej5 (by omega) dX12_tries_22 ?_
    obtain ⟨j6, ej6⟩ : ∃ j : Nat, x1.toInt = (j : Int) := ⟨_, ti_nat (by omega)⟩
    refine as_mbefore (k := 399) (j := j6) hx hb hK hP hI hR hS (by decide) (by decide) ej6 (by omega) (mc_bs hR (by omega) (by omega)) dX12_tries_23 (fun σ7 H7 locs7 u7 v7 hR hP hS => ?_)
    have hF := hF.puts u7 0 rfl (by decide) (by decide) (by omega) (by omega)
    refine r_iinc (k := 1) (lv1 := fun z8 => [(1, .int z8), (0, .ref (ad 387))]) hx hb dX12_tries_24 hl rfl (by decide) (fun _ => rfl) (by decide) (by omega) (fun z8 ls ez8 hl => ?_)
    refine lv_goto (tgt := 2) hx hb dX12_tries_27 (by decide) ?_
    exact K2 σ7 τ0 H7 locs7 z8 ls hR hF hFL hP hS (by omega) (lv_sub hl [1, 0] rfl) (by omega)
theorem A_X12_tries (p : Program) (l : Launch) (e : Env) (s : State) (m : MethodId) (args : Array Value) (below : List Frame) (meth : Method) (c : Code) (D : va_G) (cA : Nat → ClassId) (ad : Nat → Nat) (σ0 : Nat → Nat → Int32) (τ0 : Nat → Nat → Int64)  (C : Cy p s m args meth c cX12_tries 2 wsX12_tries RX12 D cA ad none)  : ∀ n : Nat, J_X12_tries_2 p l e s m args below meth c D cA ad σ0 τ0 n := by
  intro n
  induction n with
  | zero =>
    exact (by intro σ τ H locs x1 ls hR hF hFL hP hS hc0 hl hm; exfalso; omega)
  | succ n ih =>
    exact B_X12_tries_2 p l e s m args below meth c D cA ad σ0 τ0 n C  ih
set_option maxHeartbeats 4000000 in
theorem c_X12_tries (l : Launch) (D : va_G) (cA : Nat → ClassId) (ad : Nat → Nat) (hI : Inj ad) (σ0 : Nat → Nat → Int32) (τ0 : Nat → Nat → Int64) (hR : Rg σ0)   : Met l yX12_tries wsX12_tries ({ frames := 0, cells := 0, slots := 0, locals := 0 } : Room) (WQc D cA ad [.ref (ad 387)] σ0 τ0) (va_Qv (fun u : SS => P_X12_tries σ0 τ0 u.1 u.2) (WB D cA ad) (AA ad)) 0 0 (AA ad) := by
  refine Met.ofW (cc := cX12_tries) (maxL := 2) (ret := none) (by decide) rfl ?_
  intro p e s m args below meth c s₁ B hml hv
  obtain ⟨rfl, hP, hK, hN⟩ := hv
  have C : Cy p s m _ meth c cX12_tries 2 wsX12_tries RX12 D cA ad none := ⟨B.exec, B.bytes, hml, findClass_of_methodNamed B.named, atoms_spec (ws := wsX12_tries) B.pre, hK, B.notSynchronized, B.returns, hI, hN⟩
  have hl := lv_entry ([.ref (ad 387)]) (n := 2) (Nat.le_of_ble_eq_true rfl)
  rw [lg_entry_eq]
  generalize (lg_sl ([.ref (ad 387)]) ++ List.replicate (2 - (lg_sl ([.ref (ad 387)])).length) Slot.unset).toArray = ls at hl ⊢
  have hl : lv_has ls 2 [(0, .ref (ad 387))] := hl
  have hS : va_S (AA ad) s.heap s.heap [] := va_S.rf
  have hF : Fr L_X12_tries σ0 σ0 := Fr.rf
  have hFL : FrL LL_X12_tries τ0 τ0 := FrL.rf
  have hA := A_X12_tries p l e s m _ below meth c D cA ad σ0 τ0 C  166
  have K2 := hA
  clear hA
  obtain ⟨hx, hb, _, hown, hts, _, hk, hr, _, _⟩ := C
  refine r_iconst hx hb dX12_tries_0 (by decide) (fun z1 ez1 => ?_)
  refine lv_istore_n (lv' := [(1, .int z1), (0, .ref (ad 387))]) hx hb dX12_tries_1 rfl hl (by decide) rfl (fun ls hl => ?_)
  exact K2 σ0 τ0 s.heap [] z1 ls hR hF hFL hP hS (by omega) (lv_sub hl [1, 0] rfl) (by omega)
theorem in_X12_odds_12 : ∀ w ∈ u_ws RX12 TX12 47, w ∈ wsX12_odds := by decide +kernel
theorem lk_X12_odds_1 : Cond.fieldLink RX12 1 "CuckooSharesModel" "thrown" "I" ∈ wsX12_odds := by decide +kernel
theorem lk_X12_odds_33 : Cond.fieldLink RX12 33 "CuckooSharesModel" "s" "[I" ∈ wsX12_odds := by decide +kernel
abbrev L_X12_odds : List Rc := [(387, 387, 0, 0), (399, 399, 0, 34), (387, 387, 33, 33), (394, 394, 0, 7), (395, 395, 0, 7), (396, 396, 0, 7), (387, 387, 26, 26), (397, 397, 0, 7), (389, 389, 211, 245)]
abbrev LL_X12_odds : List Rc := []
def P_X12_odds (σ0 : Nat → Nat → Int32) (τ0 : Nat → Nat → Int64) (a1 : Int32) (a2 : Int32) (a3 : Int32) (a4 : Int32) (r : Int32) (σ : Nat → Nat → Int32) (τ : Nat → Nat → Int64) : Prop := Rg σ ∧ Fr L_X12_odds σ0 σ ∧ FrL LL_X12_odds τ0 τ
def J_X12_odds_55 (p : Program) (l : Launch) (e : Env) (s : State) (m : MethodId) (args : Array Value) (below : List Frame) (meth : Method) (c : Code) (D : va_G) (cA : Nat → ClassId) (ad : Nat → Nat) (σ0 : Nat → Nat → Int32) (τ0 : Nat → Nat → Int64) (a1 : Int32) (a2 : Int32) (a3 : Int32) (a4 : Int32) (n : Nat) : Prop := ∀ (σ : Nat → Nat → Int32) (τ : Nat → Nat → Int64) (H : Heap) (locs : List Loc) (x5 : Int32) (x6 : Int32) (ls : Array Slot), Rg σ → Fr L_X12_odds σ0 σ → FrL LL_X12_odds τ0 τ → va_P D vwCl (gw cA ad σ τ) H → va_S (AA ad) s.heap H locs → (0 ≤ a1.toInt ∧ a1.toInt ≤ 7) → (0 ≤ a2.toInt ∧ a2.toInt ≤ 999) → (1 ≤ a3.toInt ∧ a3.toInt ≤ 30) → (0 ≤ x6.toInt ∧ x6.toInt ≤ 30) → (1 ≤ (σ 389 2).toInt ∧ (σ 389 2).toInt ≤ 4) → (1 ≤ (σ 389 2).toInt) → (SI σ) → lv_has ls 8 [(0, .ref (ad 387)), (1, .int a1), (2, .int a2), (3, .int a3), (4, .int a4), (5, .int x5), (6, .int x6)] → 2 * (30 - x6.toInt) + 1 < (n : Int) → W p l e ({ frames := 7, cells := 0, slots := 0, locals := 165 } : Room) s m args below meth c H locs 0 0 (MQ below (va_Qi (fun (r : Int32) (u : SS) => P_X12_odds σ0 τ0 a1 a2 a3 a4 r u.1 u.2) (WB D cA ad) (AA ad)) args s 0 0 (AA ad)) (F0 m 55 ls [])
set_option maxHeartbeats 4000000 in
theorem B_X12_odds_55 (p : Program) (l : Launch) (e : Env) (s : State) (m : MethodId) (args : Array Value) (below : List Frame) (meth : Method) (c : Code) (D : va_G) (cA : Nat → ClassId) (ad : Nat → Nat) (σ0 : Nat → Nat → Int32) (τ0 : Nat → Nat → Int64) (a1 : Int32) (a2 : Int32) (a3 : Int32) (a4 : Int32) (n : Nat) (C : Cy p s m args meth c cX12_odds 8 wsX12_odds RX12 D cA ad (some .int)) (gSI0 : SI σ0) (K55 : J_X12_odds_55 p l e s m args below meth c D cA ad σ0 τ0 a1 a2 a3 a4 n) : J_X12_odds_55 p l e s m args below meth c D cA ad σ0 τ0 a1 a2 a3 a4 (n + 1) := by
  obtain ⟨hx, hb, hml, hown, hts, hK, hk, hr, hI, hN⟩ := C
  intro σ τ H locs x5 x6 ls hR hF hFL hP hS hc0 hc1 hc2 hc3 hc4 hi0 gSI hl hm
  obtain rfl := FrL.nil hFL
  refine lv_iload hx hb dX12_odds_55 (lv_at hl 6 rfl) ?_
  refine lv_iload_n hx hb dX12_odds_57 rfl (lv_at hl 3 rfl) ?_
  refine r_icmp_ge (tgt := 121) hx hb dX12_odds_58 (by decide) (fun c1 => ?_) (fun c1 => ?_)
  · refine lv_iload hx hb dX12_odds_121 (lv_at hl 5 rfl) ?_
    exact r_iret hx hb hr hK hP hS hk dX12_odds_123 (show P_X12_odds σ0 τ0 a1 a2 a3 a4 x5 σ τ0 from ⟨hR, hF, hFL⟩)
  · refine lv_aload_n hx hb dX12_odds_61 rfl (lv_at hl 0 rfl) ?_
    refine fg_12_6 (k := 387) hx hb hts in_X12_odds_12 hown hK hP (by decide) (by decide) (hts _ lk_X12_odds_33) dX12_odds_62 ?_
    refine r_sipush hx hb dX12_odds_65 (by decide) (fun z2 ez2 => ?_)
    refine lv_iload_n hx hb dX12_odds_68 rfl (lv_at hl 1 rfl) ?_
    refine r_iadd hx hb dX12_odds_69 (by omega) (fun z3 ez3 => ?_)
    obtain ⟨j4, ej4⟩ : ∃ j : Nat, z3.toInt = (j : Int) := ⟨_, ti_nat (by omega)⟩
    refine ad_ms (k := 389) (j := j4) hx hb hK hP (by decide) (by decide) ej4 (by omega) dX12_odds_70 ?_
    refine lv_istore (lv' := [(7, .int (σ 389 j4)), (0, .ref (ad 387)), (1, .int a1), (2, .int a2), (3, .int a3), (4, .int a4), (5, .int x5), (6, .int x6)]) hx hb dX12_odds_71 hl (by decide) rfl (fun ls hl => ?_)
    refine lv_aload_n hx hb dX12_odds_73 rfl (lv_at hl 1 rfl) ?_
    refine r_iconst hx hb dX12_odds_74 (by decide) (fun z5 ez5 => ?_)
    refine lv_iload hx hb dX12_odds_75 (lv_at hl 5 rfl) ?_
    refine lv_iload hx hb dX12_odds_77 (lv_at hl 7 rfl) ?_
    refine r_iaddU hx hb dX12_odds_79 (fun z6 => ?_)
    refine r_cVi (k := 387) (As := [.int z5, .int z6]) (rest := []) ⟨hx, hb, hml, hown, hts⟩ hK hP hN hS (c_X12_draws l D cA ad hI σ τ0 hR z5 z6 (by omega) (by omega) gSI) (cwV 2 hts gX12_odds_X12_draws rfl rfl rfl (by decide +kernel) ⟨by decide, by decide⟩) (rv_M hK hP (by decide) (by decide)) rfl hl.1 rfl (Nat.le_of_ble_eq_true rfl) dX12_odds_80 (Nat.zero_le _) (Nat.zero_le _) (fun r7 u7 H7 locs7 hp7 hP hS => ?_)
    obtain ⟨σ7, τ7⟩ := u7
    obtain ⟨hR, f7, fL7, hq7⟩ : P_X12_draws σ τ0 z5 z6 r7 σ7 τ7 := hp7
    have hP : va_P D vwCl (gw cA ad σ7 τ7) H7 := hP
    obtain rfl := FrL.nil fL7
    have hF := hF.step f7 (by decide)
    have gSI := SI.fr gSI hR f7 (by decide)
    have t8 : (σ7 389 2).toInt = (σ 389 2).toInt := congrArg Int32.toInt (f7.at 389 2 (by decide))
    refine lv_pop hx hb dX12_odds_83 rfl ?_
    refine lv_iload hx hb dX12_odds_84 (lv_at hl 6 rfl) ?_
    refine lv_aload_n hx hb dX12_odds_86 rfl (lv_at hl 1 rfl) ?_
    refine fg_12_6 (k := 387) hx hb hts in_X12_odds_12 hown hK hP (by decide) (by decide) (hts _ lk_X12_odds_33) dX12_odds_87 ?_
    refine r_sipush hx hb dX12_odds_90 (by decide) (fun z9 ez9 => ?_)
    refine lv_iload_n hx hb dX12_odds_93 rfl (lv_at hl 2 rfl) ?_
    refine r_iadd hx hb dX12_odds_94 (by omega) (fun z10 ez10 => ?_)
    refine ad_ms (k := 389) (j := j4) hx hb hK hP (by decide) (by decide) (by omega) (by omega) dX12_odds_95 ?_
    refine lv_iload hx hb dX12_odds_96 (lv_at hl 0 rfl) ?_
    refine lv_iload_n hx hb dX12_odds_98 rfl (lv_at hl 3 rfl) ?_
    refine r_iaddU hx hb dX12_odds_99 (fun z11 => ?_)
    refine r_icmp_le (tgt := 107) hx hb dX12_odds_100 (by decide) (fun c12 => ?_) (fun c12 => ?_)
    · refine r_iconst hx hb dX12_odds_107 (by decide) (fun z13 ez13 => ?_)
      have b15 := And.intro (ti_lo x5) (ti_hi x5)
      refine r_iadd hx hb dX12_odds_108 (by omega) (fun z14 ez14 => ?_)
      refine lv_istore (lv' := [(5, .int z14), (7, .int (σ 389 j4)), (0, .ref (ad 387)), (1, .int a1), (2, .int a2), (3, .int a3), (4, .int a4), (6, .int x6)]) hx hb dX12_odds_109 hl (by decide) rfl (fun ls hl => ?_)
      refine lv_aload_n hx hb dX12_odds_111 rfl (lv_at hl 2 rfl) ?_
      refine r_cVv (k := 387) (As := []) (rest := []) ⟨hx, hb, hml, hown, hts⟩ hK hP hN hS (c_X12_back l D cA ad hI σ7 τ0 hR) (cwV 0 hts gX12_odds_X12_back rfl rfl rfl (by decide +kernel) ⟨by decide, by decide⟩) (rv_M hK hP (by decide) (by decide)) rfl hl.1 rfl (Nat.le_of_ble_eq_true rfl) dX12_odds_112 (Nat.zero_le _) (Nat.zero_le _) (fun u16 H16 locs16 hp16 hP hS => ?_)
      obtain ⟨σ16, τ16⟩ := u16
      obtain ⟨hR, f16, fL16⟩ : P_X12_back σ7 τ0 σ16 τ16 := hp16
      have hP : va_P D vwCl (gw cA ad σ16 τ16) H16 := hP
      obtain rfl := FrL.nil fL16
      have hF := hF.step f16 (by decide)
      have gSI := SI.fr gSI hR f16 (by decide)
      have t17 : (σ16 389 2).toInt = (σ7 389 2).toInt := congrArg Int32.toInt (f16.at 389 2 (by decide))
      refine r_iinc (k := 7) (lv1 := fun z18 => [(6, .int z18), (5, .int z14), (7, .int (σ 389 j4)), (0, .ref (ad 387)), (1, .int a1), (2, .int a2), (3, .int a3), (4, .int a4)]) hx hb dX12_odds_115 hl rfl (by decide) (fun _ => rfl) (by decide) (by omega) (fun z18 ls ez18 hl => ?_)
      refine lv_goto (tgt := 55) hx hb dX12_odds_118 (by decide) ?_
      exact K55 σ16 τ0 H16 locs16 z14 z18 ls hR hF hFL hP hS (by omega) (by omega) (by omega) (by omega) (by omega) (by omega) gSI (lv_sub hl [3, 4, 5, 6, 7, 1, 0] rfl) (by omega)
    · refine r_iconst hx hb dX12_odds_103 (by decide) (fun z19 ez19 => ?_)
      refine lv_goto (tgt := 108) hx hb dX12_odds_104 (by decide) ?_
      refine r_iaddU hx hb dX12_odds_108 (fun z20 => ?_)
      refine lv_istore (lv' := [(5, .int z20), (7, .int (σ 389 j4)), (0, .ref (ad 387)), (1, .int a1), (2, .int a2), (3, .int a3), (4, .int a4), (6, .int x6)]) hx hb dX12_odds_109 hl (by decide) rfl (fun ls hl => ?_)
      refine lv_aload_n hx hb dX12_odds_111 rfl (lv_at hl 2 rfl) ?_
      refine r_cVv (k := 387) (As := []) (rest := []) ⟨hx, hb, hml, hown, hts⟩ hK hP hN hS (c_X12_back l D cA ad hI σ7 τ0 hR) (cwV 0 hts gX12_odds_X12_back rfl rfl rfl (by decide +kernel) ⟨by decide, by decide⟩) (rv_M hK hP (by decide) (by decide)) rfl hl.1 rfl (Nat.le_of_ble_eq_true rfl) dX12_odds_112 (Nat.zero_le _) (Nat.zero_le _) (fun u21 H21 locs21 hp21 hP hS => ?_)
      obtain ⟨σ21, τ21⟩ := u21
      obtain ⟨hR, f21, fL21⟩ : P_X12_back σ7 τ0 σ21 τ21 := hp21
      have hP : va_P D vwCl (gw cA ad σ21 τ21) H21 := hP
      obtain rfl := FrL.nil fL21
      have hF := hF.step f21 (by decide)
      have gSI := SI.fr gSI hR f21 (by decide)
      have t22 : (σ21 389 2).toInt = (σ7 389 2).toInt := congrArg Int32.toInt (f21.at 389 2 (by decide))
      refine r_iinc (k := 7) (lv1 := fun z23 => [(6, .int z23), (5, .int z20), (7, .int (σ 389 j4)), (0, .ref (ad 387)), (1, .int a1), (2, .int a2), (3, .int a3), (4, .int a4)]) hx hb dX12_odds_115 hl rfl (by decide) (fun _ => rfl) (by decide) (by omega) (fun z23 ls ez23 hl => ?_)
      refine lv_goto (tgt := 55) hx hb dX12_odds_118 (by decide) ?_
      exact K55 σ21 τ0 H21 locs21 z20 z23 ls hR hF hFL hP hS (by omega) (by omega) (by omega) (by omega) (by omega) (by omega) gSI (lv_sub hl [3, 4, 5, 6, 7, 1, 0] rfl) (by omega)
theorem A_X12_odds (p : Program) (l : Launch) (e : Env) (s : State) (m : MethodId) (args : Array Value) (below : List Frame) (meth : Method) (c : Code) (D : va_G) (cA : Nat → ClassId) (ad : Nat → Nat) (σ0 : Nat → Nat → Int32) (τ0 : Nat → Nat → Int64) (a1 : Int32) (a2 : Int32) (a3 : Int32) (a4 : Int32) (C : Cy p s m args meth c cX12_odds 8 wsX12_odds RX12 D cA ad (some .int)) (gSI0 : SI σ0) : ∀ n : Nat, J_X12_odds_55 p l e s m args below meth c D cA ad σ0 τ0 a1 a2 a3 a4 n := by
  intro n
  induction n with
  | zero =>
    exact (by intro σ τ H locs x5 x6 ls hR hF hFL hP hS hc0 hc1 hc2 hc3 hc4 hi0 gSI hl hm; exfalso; omega)
  | succ n ih =>
    exact B_X12_odds_55 p l e s m args below meth c D cA ad σ0 τ0 a1 a2 a3 a4 n C gSI0 ih
set_option maxHeartbeats 4000000 in
theorem c_X12_odds (l : Launch) (D : va_G) (cA : Nat → ClassId) (ad : Nat → Nat) (hI : Inj ad) (σ0 : Nat → Nat → Int32) (τ0 : Nat → Nat → Int64) (hR : Rg σ0) (a1 : Int32) (a2 : Int32) (a3 : Int32) (a4 : Int32) (gSI0 : SI σ0) : Met l yX12_odds wsX12_odds ({ frames := 7, cells := 0, slots := 0, locals := 165 } : Room) (WQc D cA ad [.ref (ad 387), .int a1, .int a2, .int a3, .int a4] σ0 τ0) (va_Qi (fun (r : Int32) (u : SS) => P_X12_odds σ0 τ0 a1 a2 a3 a4 r u.1 u.2) (WB D cA ad) (AA ad)) 0 0 (AA ad) := by
  refine Met.ofW (cc := cX12_odds) (maxL := 8) (ret := (some .int)) (by decide) rfl ?_
  intro p e s m args below meth c s₁ B hml hv
  obtain ⟨rfl, hP, hK, hN⟩ := hv
  have C : Cy p s m _ meth c cX12_odds 8 wsX12_odds RX12 D cA ad (some .int) := ⟨B.exec, B.bytes, hml, findClass_of_methodNamed B.named, atoms_spec (ws := wsX12_odds) B.pre, hK, B.notSynchronized, B.returns, hI, hN⟩
  have hl := lv_entry ([.ref (ad 387), .int a1, .int a2, .int a3, .int a4]) (n := 8) (Nat.le_of_ble_eq_true rfl)
  rw [lg_entry_eq]
  generalize (lg_sl ([.ref (ad 387), .int a1, .int a2, .int a3, .int a4]) ++ List.replicate (8 - (lg_sl ([.ref (ad 387), .int a1, .int a2, .int a3, .int a4])).length) Slot.unset).toArray = ls at hl ⊢
  have hl : lv_has ls 8 [(0, .ref (ad 387)), (1, .int a1), (2, .int a2), (3, .int a3), (4, .int a4)] := hl
  have hS : va_S (AA ad) s.heap s.heap [] := va_S.rf
  have hF : Fr L_X12_odds σ0 σ0 := Fr.rf
  have hFL : FrL LL_X12_odds τ0 τ0 := FrL.rf
  have gSI := gSI0
  have hA := A_X12_odds p l e s m _ below meth c D cA ad σ0 τ0 a1 a2 a3 a4 C gSI0 130
  have K55 := hA
  clear hA
  obtain ⟨hx, hb, _, hown, hts, _, hk, hr, _, _⟩ := C
  refine lv_aload_n hx hb dX12_odds_0 rfl (lv_at hl 0 rfl) ?_
  refine r_iconst hx hb dX12_odds_1 (by decide) (fun z1 ez1 => ?_)
  refine fp_12_0 (k := 387) hx hb hts in_X12_odds_12 hown hK hP (by decide) (by decide) (hts _ lk_X12_odds_1) hI hR hS (by omega) dX12_odds_2 (fun σ2 H2 locs2 u2 v2 hR hP hS => ?_)
  have hF := hF.puts u2 0 rfl (by decide) (by decide) (by decide) (by decide)
  have gSI := SI.put gSI hR u2 (by decide)
  refine lv_aload_n hx hb dX12_odds_5 rfl (lv_at hl 0 rfl) ?_
  refine lv_iload_n hx hb dX12_odds_6 rfl (lv_at hl 1 rfl) ?_
  refine r_cVi (k := 387) (As := [.int a1]) (rest := []) ⟨hx, hb, hml, hown, hts⟩ hK hP hN hS (c_X12_isMan l D cA ad hI σ2 τ0 hR a1) (cwV 1 hts gX12_odds_X12_isMan rfl rfl rfl (by decide +kernel) ⟨by decide, by decide⟩) (rv_M hK hP (by decide) (by decide)) rfl hl.1 rfl (Nat.le_of_ble_eq_true rfl) dX12_odds_7 (Nat.zero_le _) (Nat.zero_le _) (fun r3 u3 H3 locs3 hp3 hP hS => ?_)
  obtain ⟨σ3, τ3⟩ := u3
  obtain ⟨hR, f3, fL3, hq3, hp3_0⟩ : P_X12_isMan σ2 τ0 a1 r3 σ3 τ3 := hp3
  have hP : va_P D vwCl (gw cA ad σ3 τ3) H3 := hP
  obtain rfl := FrL.nil fL3
  obtain rfl := Fr.nil f3
  refine r_if_eq (tgt := 43) hx hb dX12_odds_10 (by decide) (fun c4 => ?_) (fun c4 => ?_)
  · clear hp3_0
    refine r_iconst hx hb dX12_odds_43 (by decide) (fun z5 ez5 => ?_)
    exact r_iret hx hb hr hK hP hS hk dX12_odds_44 (show P_X12_odds σ0 τ0 a1 a2 a3 a4 z5 σ2 τ0 from ⟨hR, hF, hFL⟩)
  · replace hp3_0 := hp3_0.resolve_left (by omega)
    refine lv_iload_n hx hb dX12_odds_13 rfl (lv_at hl 2 rfl) ?_
    refine r_iconst hx hb dX12_odds_14 (by decide) (fun z6 ez6 => ?_)
    refine r_sipush hx hb dX12_odds_15 (by decide) (fun z7 ez7 => ?_)
    refine r_cSi (As := [.int a2, .int z6, .int z7]) (rest := []) ⟨hx, hb, hml, hown, hts⟩ hK hP hN hS (c_X12_isIn l D cA ad hI σ2 τ0 hR a2 z6 z7) (va_cwS 3 hts gX12_odds_X12_isIn rfl rfl rfl (by decide +kernel) ⟨by decide, by decide⟩) rfl hl.1 rfl (Nat.le_of_ble_eq_true rfl) dX12_odds_18 (Nat.zero_le _) (Nat.zero_le _) (fun r8 u8 H8 locs8 hp8 hP hS => ?_)
    obtain ⟨σ8, τ8⟩ := u8
    obtain ⟨hR, f8, fL8, hq8, hp8_0, hp8_1⟩ : P_X12_isIn σ2 τ0 a2 z6 z7 r8 σ8 τ8 := hp8
    have hP : va_P D vwCl (gw cA ad σ8 τ8) H8 := hP
    obtain rfl := FrL.nil fL8
    obtain rfl := Fr.nil f8
    refine r_if_eq (tgt := 43) hx hb dX12_odds_21 (by decide) (fun c9 => ?_) (fun c9 => ?_)
    · clear hp8_0
      refine r_iconst hx hb dX12_odds_43 (by decide) (fun z10 ez10 => ?_)
      exact r_iret hx hb hr hK hP hS hk dX12_odds_44 (show P_X12_odds σ0 τ0 a1 a2 a3 a4 z10 σ2 τ0 from ⟨hR, hF, hFL⟩)
    · replace hp8_0 := hp8_0.resolve_left (by omega)
      refine lv_iload_n hx hb dX12_odds_24 rfl (lv_at hl 3 rfl) ?_
      refine r_iconst hx hb dX12_odds_25 (by decide) (fun z11 ez11 => ?_)
      refine r_bipush hx hb dX12_odds_26 (by decide) (fun z12 ez12 => ?_)
      refine r_cSi (As := [.int a3, .int z11, .int z12]) (rest := []) ⟨hx, hb, hml, hown, hts⟩ hK hP hN hS (c_X12_isIn l D cA ad hI σ2 τ0 hR a3 z11 z12) (va_cwS 3 hts gX12_odds_X12_isIn rfl rfl rfl (by decide +kernel) ⟨by decide, by decide⟩) rfl hl.1 rfl (Nat.le_of_ble_eq_true rfl) dX12_odds_28 (Nat.zero_le _) (Nat.zero_le _) (fun r13 u13 H13 locs13 hp13 hP hS => ?_)
      obtain ⟨σ13, τ13⟩ := u13
      obtain ⟨hR, f13, fL13, hq13, hp13_0, hp13_1⟩ : P_X12_isIn σ2 τ0 a3 z11 z12 r13 σ13 τ13 := hp13
      have hP : va_P D vwCl (gw cA ad σ13 τ13) H13 := hP
      obtain rfl := FrL.nil fL13
      obtain rfl := Fr.nil f13
      refine r_if_eq (tgt := 43) hx hb dX12_odds_31 (by decide) (fun c14 => ?_) (fun c14 => ?_)
      · clear hp13_0
        refine r_iconst hx hb dX12_odds_43 (by decide) (fun z15 ez15 => ?_)
        exact r_iret hx hb hr hK hP hS hk dX12_odds_44 (show P_X12_odds σ0 τ0 a1 a2 a3 a4 z15 σ2 τ0 from ⟨hR, hF, hFL⟩)
      · replace hp13_0 := hp13_0.resolve_left (by omega)
        refine lv_aload_n hx hb dX12_odds_34 rfl (lv_at hl 0 rfl) ?_
        refine fg_12_6 (k := 387) hx hb hts in_X12_odds_12 hown hK hP (by decide) (by decide) (hts _ lk_X12_odds_33) dX12_odds_35 ?_
        refine r_iconst hx hb dX12_odds_38 (by decide) (fun z16 ez16 => ?_)
        refine ad_ms (k := 389) (j := 2) hx hb hK hP (by decide) (by decide) (by omega) (by omega) dX12_odds_39 ?_
        have hr17 := ra_ms_1 hR (k := 389) (j := 2) (by decide) (by decide) (by decide) (by decide)
        refine r_if_ne (tgt := 45) hx hb dX12_odds_40 (by decide) (fun c18 => ?_) (fun c18 => ?_)
        · refine lv_aload_n hx hb dX12_odds_45 rfl (lv_at hl 0 rfl) ?_
          refine r_cVv (k := 387) (As := []) (rest := []) ⟨hx, hb, hml, hown, hts⟩ hK hP hN hS (c_X12_tries l D cA ad hI σ2 τ0 hR) (cwV 0 hts gX12_odds_X12_tries rfl rfl rfl (by decide +kernel) ⟨by decide, by decide⟩) (rv_M hK hP (by decide) (by decide)) rfl hl.1 rfl (Nat.le_of_ble_eq_true rfl) dX12_odds_46 (Nat.zero_le _) (Nat.zero_le _) (fun u19 H19 locs19 hp19 hP hS => ?_)
          obtain ⟨σ19, τ19⟩ := u19
          obtain ⟨hR, f19, fL19⟩ : P_X12_tries σ2 τ0 σ19 τ19 := hp19
          have hP : va_P D vwCl (gw cA ad σ19 τ19) H19 := hP
          obtain rfl := FrL.nil fL19
          have hF := hF.step f19 (by decide)
          have gSI := SI.fr gSI hR f19 (by decide)
          have t20 : (σ19 389 2).toInt = (σ2 389 2).toInt := congrArg Int32.toInt (f19.at 389 2 (by decide))
          refine r_iconst hx hb dX12_odds_49 (by decide) (fun z21 ez21 => ?_)
          refine lv_istore (lv' := [(5, .int z21), (0, .ref (ad 387)), (1, .int a1), (2, .int a2), (3, .int a3), (4, .int a4)]) hx hb dX12_odds_50 hl (by decide) rfl (fun ls hl => ?_)
          refine r_iconst hx hb dX12_odds_52 (by decide) (fun z22 ez22 => ?_)
          refine lv_istore (lv' := [(6, .int z22), (5, .int z21), (0, .ref (ad 387)), (1, .int a1), (2, .int a2), (3, .int a3), (4, .int a4)]) hx hb dX12_odds_53 hl (by decide) rfl (fun ls hl => ?_)
          exact K55 σ19 τ0 H19 locs19 z21 z22 ls hR hF hFL hP hS (by omega) (by omega) (by omega) (by omega) (by omega) (by omega) gSI (lv_sub hl [2, 3, 4, 5, 6, 1, 0] rfl) (by omega)
        · refine r_iconst hx hb dX12_odds_43 (by decide) (fun z23 ez23 => ?_)
          exact r_iret hx hb hr hK hP hS hk dX12_odds_44 (show P_X12_odds σ0 τ0 a1 a2 a3 a4 z23 σ2 τ0 from ⟨hR, hF, hFL⟩)
theorem in_X12_livesLine_12 : ∀ w ∈ u_ws RX12 TX12 47, w ∈ wsX12_livesLine := by decide +kernel
theorem lk_X12_livesLine_33 : Cond.fieldLink RX12 33 "CuckooSharesModel" "s" "[I" ∈ wsX12_livesLine := by decide +kernel
abbrev L_X12_livesLine : List Rc := [(394, 394, 0, 7), (395, 395, 0, 7), (396, 396, 0, 7), (387, 387, 26, 26), (397, 397, 0, 7), (389, 389, 211, 245)]
abbrev LL_X12_livesLine : List Rc := []
def P_X12_livesLine (σ0 : Nat → Nat → Int32) (τ0 : Nat → Nat → Int64) (a1 : Int32) (a2 : Int32) (a3 : Int32) (σ : Nat → Nat → Int32) (τ : Nat → Nat → Int64) : Prop := Rg σ ∧ Fr L_X12_livesLine σ0 σ ∧ FrL LL_X12_livesLine τ0 τ
set_option maxHeartbeats 4000000 in
theorem c_X12_livesLine (l : Launch) (D : va_G) (cA : Nat → ClassId) (ad : Nat → Nat) (hI : Inj ad) (σ0 : Nat → Nat → Int32) (τ0 : Nat → Nat → Int64) (hR : Rg σ0) (a1 : Int32) (a2 : Int32) (a3 : Int32) (hpre0 : a1.toInt < 1 ∨ 3 < a1.toInt ∨ (0 ≤ a2.toInt ∧ a2.toInt ≤ 7)) (hpre1 : a1.toInt ≠ 2 ∨ (0 ≤ a3.toInt ∧ a3.toInt ≤ 9)) (hpre2 : a1.toInt ≠ 3 ∨ (0 ≤ a3.toInt ∧ a3.toInt ≤ 7)) (hpre3 : a1.toInt ≠ 1 ∨ (0 ≤ a3.toInt ∧ a3.toInt ≤ 7)) (hpre4 : a1.toInt ≠ 0 ∨ (0 ≤ a2.toInt ∧ a2.toInt ≤ 3)) : Met l yX12_livesLine wsX12_livesLine ({ frames := 5, cells := 0, slots := 0, locals := 112 } : Room) (WQc D cA ad [.ref (ad 387), .int a1, .int a2, .int a3] σ0 τ0) (va_Qv (fun u : SS => P_X12_livesLine σ0 τ0 a1 a2 a3 u.1 u.2) (WB D cA ad) (AA ad)) 0 0 (AA ad) := by
  refine Met.ofW (cc := cX12_livesLine) (maxL := 4) (ret := none) (by decide) rfl ?_
  intro p e s m args below meth c s₁ B hml hv
  obtain ⟨rfl, hP, hK, hN⟩ := hv
  have C : Cy p s m _ meth c cX12_livesLine 4 wsX12_livesLine RX12 D cA ad none := ⟨B.exec, B.bytes, hml, findClass_of_methodNamed B.named, atoms_spec (ws := wsX12_livesLine) B.pre, hK, B.notSynchronized, B.returns, hI, hN⟩
  have hl := lv_entry ([.ref (ad 387), .int a1, .int a2, .int a3]) (n := 4) (Nat.le_of_ble_eq_true rfl)
  rw [lg_entry_eq]
  generalize (lg_sl ([.ref (ad 387), .int a1, .int a2, .int a3]) ++ List.replicate (4 - (lg_sl ([.ref (ad 387), .int a1, .int a2, .int a3])).length) Slot.unset).toArray = ls at hl ⊢
  have hl : lv_has ls 4 [(0, .ref (ad 387)), (1, .int a1), (2, .int a2), (3, .int a3)] := hl
  have hS : va_S (AA ad) s.heap s.heap [] := va_S.rf
  have hF : Fr L_X12_livesLine σ0 σ0 := Fr.rf
  have hFL : FrL LL_X12_livesLine τ0 τ0 := FrL.rf
  obtain ⟨hx, hb, _, hown, hts, _, hk, hr, _, _⟩ := C
  refine lv_iload_n hx hb dX12_livesLine_0 rfl (lv_at hl 1 rfl) ?_
  by_cases c1 : a1.toInt = 0
  · refine lv_tableIn (off := 35) (tgt := 36) hx hb dX12_livesLine_1 (by omega) (by omega) (by rw [c1]; rfl) (by decide) ?_
    refine lv_aload_n hx hb dX12_livesLine_36 rfl (lv_at hl 0 rfl) ?_
    refine fg_12_6 (k := 387) hx hb hts in_X12_livesLine_12 hown hK hP (by decide) (by decide) (hts _ lk_X12_livesLine_33) dX12_livesLine_37 ?_
    refine r_sipush hx hb dX12_livesLine_40 (by decide) (fun z2 ez2 => ?_)
    refine lv_iload_n hx hb dX12_livesLine_43 rfl (lv_at hl 2 rfl) ?_
    refine r_iconst hx hb dX12_livesLine_44 (by decide) (fun z3 ez3 => ?_)
    refine r_iadd hx hb dX12_livesLine_45 (by omega) (fun z4 ez4 => ?_)
    refine as_ms (k := 389) (j := 212) hx hb hK hP hI hR hS (by decide) (by decide) (by omega) (by omega) (rw_ms_5 (by decide) (by decide) (by decide) (by decide) (by omega)) dX12_livesLine_46 (fun σ5 H5 locs5 u5 v5 hR hP hS => ?_)
    have hF := hF.puts u5 5 rfl (by decide) (by decide) (by decide) (by decide)
    refine lv_goto (tgt := 116) hx hb dX12_livesLine_47 (by decide) ?_
    exact r_vret hx hb hr hK hP hS hk dX12_livesLine_116 (show P_X12_livesLine σ0 τ0 a1 a2 a3 σ5 τ0 from ⟨hR, hF, hFL⟩)
  by_cases c6 : a1.toInt = 1
  · refine lv_tableIn (off := 49) (tgt := 50) hx hb dX12_livesLine_1 (by omega) (by omega) (by rw [c6]; rfl) (by decide) ?_
    refine lv_aload_n hx hb dX12_livesLine_50 rfl (lv_at hl 0 rfl) ?_
    refine fg_12_6 (k := 387) hx hb hts in_X12_livesLine_12 hown hK hP (by decide) (by decide) (hts _ lk_X12_livesLine_33) dX12_livesLine_51 ?_
    refine r_sipush hx hb dX12_livesLine_54 (by decide) (fun z7 ez7 => ?_)
    refine lv_iload_n hx hb dX12_livesLine_57 rfl (lv_at hl 2 rfl) ?_
    refine r_iadd hx hb dX12_livesLine_58 (by omega) (fun z8 ez8 => ?_)
    refine lv_iload_n hx hb dX12_livesLine_59 rfl (lv_at hl 3 rfl) ?_
    obtain ⟨j9, ej9⟩ : ∃ j : Nat, z8.toInt = (j : Int) := ⟨_, ti_nat (by omega)⟩
    refine as_ms (k := 389) (j := j9) hx hb hK hP hI hR hS (by decide) (by decide) ej9 (by omega) (rw_ms_6 (by decide) (by decide) (by omega) (by omega) (by omega)) dX12_livesLine_60 (fun σ10 H10 locs10 u10 v10 hR hP hS => ?_)
    have hF := hF.puts u10 5 rfl (by decide) (by decide) (by omega) (by omega)
    refine lv_goto (tgt := 116) hx hb dX12_livesLine_61 (by decide) ?_
    exact r_vret hx hb hr hK hP hS hk dX12_livesLine_116 (show P_X12_livesLine σ0 τ0 a1 a2 a3 σ10 τ0 from ⟨hR, hF, hFL⟩)
  by_cases c11 : a1.toInt = 2
  · refine lv_tableIn (off := 63) (tgt := 64) hx hb dX12_livesLine_1 (by omega) (by omega) (by rw [c11]; rfl) (by decide) ?_
    refine lv_aload_n hx hb dX12_livesLine_64 rfl (lv_at hl 0 rfl) ?_
    refine lv_iload_n hx hb dX12_livesLine_65 rfl (lv_at hl 2 rfl) ?_
    refine lv_iload_n hx hb dX12_livesLine_66 rfl (lv_at hl 3 rfl) ?_
    refine r_cVv (k := 387) (As := [.int a2, .int a3]) (rest := []) ⟨hx, hb, hml, hown, hts⟩ hK hP hN hS (c_X12_swearsTo l D cA ad hI σ0 τ0 hR a2 a3 (by omega) (by omega)) (cwV 2 hts gX12_livesLine_X12_swearsTo rfl rfl rfl (by decide +kernel) ⟨by decide, by decide⟩) (rv_M hK hP (by decide) (by decide)) rfl hl.1 rfl (Nat.le_of_ble_eq_true rfl) dX12_livesLine_67 (Nat.zero_le _) (Nat.zero_le _) (fun u12 H12 locs12 hp12 hP hS => ?_)
    obtain ⟨σ12, τ12⟩ := u12
    obtain ⟨hR, f12, fL12⟩ : P_X12_swearsTo σ0 τ0 a2 a3 σ12 τ12 := hp12
    have hP : va_P D vwCl (gw cA ad σ12 τ12) H12 := hP
    obtain rfl := FrL.nil fL12
    have hF := hF.step f12 (by decide)
    refine lv_goto (tgt := 116) hx hb dX12_livesLine_70 (by decide) ?_
    exact r_vret hx hb hr hK hP hS hk dX12_livesLine_116 (show P_X12_livesLine σ0 τ0 a1 a2 a3 σ12 τ0 from ⟨hR, hF, hFL⟩)
  by_cases c13 : a1.toInt = 3
  · refine lv_tableIn (off := 72) (tgt := 73) hx hb dX12_livesLine_1 (by omega) (by omega) (by rw [c13]; rfl) (by decide) ?_
    refine lv_aload_n hx hb dX12_livesLine_73 rfl (lv_at hl 0 rfl) ?_
    refine lv_iload_n hx hb dX12_livesLine_74 rfl (lv_at hl 2 rfl) ?_
    refine lv_iload_n hx hb dX12_livesLine_75 rfl (lv_at hl 3 rfl) ?_
    refine r_cVv (k := 387) (As := [.int a2, .int a3]) (rest := []) ⟨hx, hb, hml, hown, hts⟩ hK hP hN hS (c_X12_accuses l D cA ad hI σ0 τ0 hR a2 a3 (by omega) (by omega)) (cwV 2 hts gX12_livesLine_X12_accuses rfl rfl rfl (by decide +kernel) ⟨by decide, by decide⟩) (rv_M hK hP (by decide) (by decide)) rfl hl.1 rfl (Nat.le_of_ble_eq_true rfl) dX12_livesLine_76 (Nat.zero_le _) (Nat.zero_le _) (fun u14 H14 locs14 hp14 hP hS => ?_)
    obtain ⟨σ14, τ14⟩ := u14
    obtain ⟨hR, f14, fL14⟩ : P_X12_accuses σ0 τ0 a2 a3 σ14 τ14 := hp14
    have hP : va_P D vwCl (gw cA ad σ14 τ14) H14 := hP
    obtain rfl := FrL.nil fL14
    have hF := hF.step f14 (by decide)
    refine lv_goto (tgt := 116) hx hb dX12_livesLine_79 (by decide) ?_
    exact r_vret hx hb hr hK hP hS hk dX12_livesLine_116 (show P_X12_livesLine σ0 τ0 a1 a2 a3 σ14 τ0 from ⟨hR, hF, hFL⟩)
  by_cases c15 : a1.toInt = 4
  · refine lv_tableIn (off := 81) (tgt := 82) hx hb dX12_livesLine_1 (by omega) (by omega) (by rw [c15]; rfl) (by decide) ?_
    refine lv_aload_n hx hb dX12_livesLine_82 rfl (lv_at hl 0 rfl) ?_
    refine r_cVv (k := 387) (As := []) (rest := []) ⟨hx, hb, hml, hown, hts⟩ hK hP hN hS (c_X12_sharesNow l D cA ad hI σ0 τ0 hR) (cwV 0 hts gX12_livesLine_X12_sharesNow rfl rfl rfl (by decide +kernel) ⟨by decide, by decide⟩) (rv_M hK hP (by decide) (by decide)) rfl hl.1 rfl (Nat.le_of_ble_eq_true rfl) dX12_livesLine_83 (Nat.zero_le _) (Nat.zero_le _) (fun u16 H16 locs16 hp16 hP hS => ?_)
    obtain ⟨σ16, τ16⟩ := u16
    obtain ⟨hR, f16, fL16⟩ : P_X12_sharesNow σ0 τ0 σ16 τ16 := hp16
    have hP : va_P D vwCl (gw cA ad σ16 τ16) H16 := hP
    obtain rfl := FrL.nil fL16
    have hF := hF.step f16 (by decide)
    refine lv_aload_n hx hb dX12_livesLine_86 rfl (lv_at hl 0 rfl) ?_
    refine r_cVv (k := 387) (As := []) (rest := []) ⟨hx, hb, hml, hown, hts⟩ hK hP hN hS (c_X12_ends l D cA ad hI σ16 τ0 hR) (cwV 0 hts gX12_livesLine_X12_ends rfl rfl rfl (by decide +kernel) ⟨by decide, by decide⟩) (rv_M hK hP (by decide) (by decide)) rfl hl.1 rfl (Nat.le_of_ble_eq_true rfl) dX12_livesLine_87 (Nat.zero_le _) (Nat.zero_le _) (fun u17 H17 locs17 hp17 hP hS => ?_)
    obtain ⟨σ17, τ17⟩ := u17
    obtain ⟨hR, f17, fL17⟩ : P_X12_ends σ16 τ0 σ17 τ17 := hp17
    have hP : va_P D vwCl (gw cA ad σ17 τ17) H17 := hP
    obtain rfl := FrL.nil fL17
    have hF := hF.step f17 (by decide)
    refine lv_goto (tgt := 116) hx hb dX12_livesLine_90 (by decide) ?_
    exact r_vret hx hb hr hK hP hS hk dX12_livesLine_116 (show P_X12_livesLine σ0 τ0 a1 a2 a3 σ17 τ0 from ⟨hR, hF, hFL⟩)
  refine lv_tableOut (tgt := 93) hx hb dX12_livesLine_1 (by omega) (by decide) ?_
  refine lv_aload_n hx hb dX12_livesLine_93 rfl (lv_at hl 0 rfl) ?_
  refine fg_12_6 (k := 387) hx hb hts in_X12_livesLine_12 hown hK hP (by decide) (by decide) (hts _ lk_X12_livesLine_33) dX12_livesLine_94 ?_
  refine r_sipush hx hb dX12_livesLine_97 (by decide) (fun z18 ez18 => ?_)
  refine r_bipush hx hb dX12_livesLine_100 (by decide) (fun z19 ez19 => ?_)
  refine lv_aload_n hx hb dX12_livesLine_102 rfl (lv_at hl 0 rfl) ?_
  refine fg_12_6 (k := 387) hx hb hts in_X12_livesLine_12 hown hK hP (by decide) (by decide) (hts _ lk_X12_livesLine_33) dX12_livesLine_103 ?_
  refine r_sipush hx hb dX12_livesLine_106 (by decide) (fun z20 ez20 => ?_)
  refine ad_ms (k := 389) (j := 213) hx hb hK hP (by decide) (by decide) (by omega) (by omega) dX12_livesLine_109 ?_
  refine lv_iload_n hx hb dX12_livesLine_110 rfl (lv_at hl 2 rfl) ?_
  refine r_iaddU hx hb dX12_livesLine_111 (fun z21 => ?_)
  refine r_cSi (As := [.int z19, .int z21]) (rest := [.int z18, .ref (ad 389)]) ⟨hx, hb, hml, hown, hts⟩ hK hP hN hS (c_X12_lesser l D cA ad hI σ0 τ0 hR z19 z21 (by omega)) (va_cwS 2 hts gX12_livesLine_X12_lesser rfl rfl rfl (by decide +kernel) ⟨by decide, by decide⟩) rfl hl.1 rfl (Nat.le_of_ble_eq_true rfl) dX12_livesLine_112 (Nat.zero_le _) (Nat.zero_le _) (fun r22 u22 H22 locs22 hp22 hP hS => ?_)
  obtain ⟨σ22, τ22⟩ := u22
  obtain ⟨hR, f22, fL22, hq22⟩ : P_X12_lesser σ0 τ0 z19 z21 r22 σ22 τ22 := hp22
  have hP : va_P D vwCl (gw cA ad σ22 τ22) H22 := hP
  obtain rfl := FrL.nil fL22
  obtain rfl := Fr.nil f22
  refine as_ms (k := 389) (j := 213) hx hb hK hP hI hR hS (by decide) (by decide) (by omega) (by omega) (rx_ms_213 (by decide) (by decide) (by decide) (by decide)) dX12_livesLine_115 (fun σ23 H23 locs23 u23 v23 hR hP hS => ?_)
  have hF := hF.puts u23 5 rfl (by decide) (by decide) (by decide) (by decide)
  exact r_vret hx hb hr hK hP hS hk dX12_livesLine_116 (show P_X12_livesLine σ0 τ0 a1 a2 a3 σ23 τ0 from ⟨hR, hF, hFL⟩)
abbrev L_X12_peek : List Rc := []
abbrev LL_X12_peek : List Rc := []
def P_X12_peek (σ0 : Nat → Nat → Int32) (τ0 : Nat → Nat → Int64)  (r : Int32) (σ : Nat → Nat → Int32) (τ : Nat → Nat → Int64) : Prop := Rg σ ∧ Fr L_X12_peek σ0 σ ∧ FrL LL_X12_peek τ0 τ ∧ (-1 ≤ r.toInt ∧ r.toInt ≤ 255) ∧ (r.toInt = -1 ∨ (0 ≤ r.toInt ∧ (σ0 387 4).toInt < (σ0 387 3).toInt ∧ (σ0 387 4).toInt ≤ 939))
set_option maxHeartbeats 4000000 in
theorem c_X12_peek (l : Launch) (D : va_G) (cA : Nat → ClassId) (ad : Nat → Nat) (hI : Inj ad) (σ0 : Nat → Nat → Int32) (τ0 : Nat → Nat → Int64) (hR : Rg σ0)   : Met l yX12_peek wsX12_peek ({ frames := 0, cells := 0, slots := 0, locals := 0 } : Room) (WQc D cA ad [.ref (ad 387)] σ0 τ0) (va_Qi (fun (r : Int32) (u : SS) => P_X12_peek σ0 τ0 r u.1 u.2) (WB D cA ad) (AA ad)) 0 0 (AA ad) := by
  refine Met.ofW (cc := cX12_peek) (maxL := 1) (ret := (some .int)) (by decide) rfl ?_
  intro p e s m args below meth c s₁ B hml hv
  obtain ⟨rfl, hP, hK, hN⟩ := hv
  have C : Cy p s m _ meth c cX12_peek 1 wsX12_peek RX12 D cA ad (some .int) := ⟨B.exec, B.bytes, hml, findClass_of_methodNamed B.named, atoms_spec (ws := wsX12_peek) B.pre, hK, B.notSynchronized, B.returns, hI, hN⟩
  have hl := lv_entry ([.ref (ad 387)]) (n := 1) (Nat.le_of_ble_eq_true rfl)
  rw [lg_entry_eq]
  generalize (lg_sl ([.ref (ad 387)]) ++ List.replicate (1 - (lg_sl ([.ref (ad 387)])).length) Slot.unset).toArray = ls at hl ⊢
  have hl : lv_has ls 1 [(0, .ref (ad 387))] := hl
  have hS : va_S (AA ad) s.heap s.heap [] := va_S.rf
  have hF : Fr L_X12_peek σ0 σ0 := Fr.rf
  have hFL : FrL LL_X12_peek τ0 τ0 := FrL.rf
  obtain ⟨hx, hb, _, hown, hts, _, hk, hr, _, _⟩ := C
  refine lv_aload_n hx hb dX12_peek_0 rfl (lv_at hl 0 rfl) ?_
  refine fg_12_4 (k := 387) hx hb hts in_X12_peek_12 hown hK hP (by decide) (by decide) (hts _ lk_X12_peek_21) dX12_peek_1 ?_
  have hr1 := rg_12_4 hR (k := 387) (by decide) (by decide)
  refine lv_aload_n hx hb dX12_peek_4 rfl (lv_at hl 0 rfl) ?_
  refine fg_12_3 (k := 387) hx hb hts in_X12_peek_12 hown hK hP (by decide) (by decide) (hts _ lk_X12_peek_18) dX12_peek_5 ?_
  have hr2 := rg_12_3 hR (k := 387) (by decide) (by decide)
  refine r_icmp_ge (tgt := 27) hx hb dX12_peek_8 (by decide) (fun c3 => ?_) (fun c3 => ?_)
  · refine r_iconst hx hb dX12_peek_27 (by decide) (fun z4 ez4 => ?_)
    exact r_iret hx hb hr hK hP hS hk dX12_peek_28 (show P_X12_peek σ0 τ0 z4 σ0 τ0 from ⟨hR, hF, hFL, by omega, by omega⟩)
  · refine lv_aload_n hx hb dX12_peek_11 rfl (lv_at hl 0 rfl) ?_
    refine fg_12_1 (k := 387) hx hb hts in_X12_peek_12 hown hK hP (by decide) (by decide) (hts _ lk_X12_peek_14) dX12_peek_12 ?_
    refine lv_aload_n hx hb dX12_peek_15 rfl (lv_at hl 0 rfl) ?_
    refine fg_12_4 (k := 387) hx hb hts in_X12_peek_12 hown hK hP (by decide) (by decide) (hts _ lk_X12_peek_21) dX12_peek_16 ?_
    obtain ⟨j5, ej5⟩ : ∃ j : Nat, (σ0 387 4).toInt = (j : Int) := ⟨_, ti_nat (by omega)⟩
    refine ad_mtape (k := 388) (j := j5) hx hb hK hP (by decide) (by decide) ej5 (by omega) dX12_peek_19 ?_
    refine r_sipush hx hb dX12_peek_20 (by decide) (fun z6 ez6 => ?_)
    refine r_iand (w := 255) hx hb 8 dX12_peek_23 (by omega) (by decide) (fun z7 ez7 => ?_)
    refine lv_goto (tgt := 28) hx hb dX12_peek_24 (by decide) ?_
    exact r_iret hx hb hr hK hP hS hk dX12_peek_28 (show P_X12_peek σ0 τ0 z7 σ0 τ0 from ⟨hR, hF, hFL, by omega, by omega⟩)
abbrev L_X12_next : List Rc := [(387, 387, 4, 4), (387, 387, 11, 14)]
abbrev LL_X12_next : List Rc := [(387, 387, 17, 17)]
def P_X12_next (σ0 : Nat → Nat → Int32) (τ0 : Nat → Nat → Int64)  (σ : Nat → Nat → Int32) (τ : Nat → Nat → Int64) : Prop := Rg σ ∧ Fr L_X12_next σ0 σ ∧ FrL LL_X12_next τ0 τ ∧ ((σ0 387 4).toInt ≤ (σ 387 4).toInt) ∧ ((σ 387 11).toInt ≠ 3 ∨ (σ0 387 4).toInt < (σ 387 4).toInt) ∧ (0 ≤ (σ 387 11).toInt ∧ (σ 387 11).toInt ≤ 4)
def J_X12_next_0 (p : Program) (l : Launch) (e : Env) (s : State) (m : MethodId) (args : Array Value) (below : List Frame) (meth : Method) (c : Code) (D : va_G) (cA : Nat → ClassId) (ad : Nat → Nat) (σ0 : Nat → Nat → Int32) (τ0 : Nat → Nat → Int64)  (n : Nat) : Prop := ∀ (σ : Nat → Nat → Int32) (τ : Nat → Nat → Int64) (H : Heap) (locs : List Loc)  (ls : Array Slot), Rg σ → Fr L_X12_next σ0 σ → FrL LL_X12_next τ0 τ → va_P D vwCl (gw cA ad σ τ) H → va_S (AA ad) s.heap H locs → (0 ≤ (σ 387 3).toInt ∧ (σ 387 3).toInt ≤ 940) → (0 ≤ (σ 387 4).toInt ∧ (σ 387 4).toInt ≤ 940) → ((σ0 387 4).toInt ≤ (σ 387 4).toInt) → lv_has ls 4 [(0, .ref (ad 387))] → 3770 * (940 - (σ 387 4).toInt) + 3769 < (n : Int) → W p l e ({ frames := 1, cells := 0, slots := 0, locals := 20 } : Room) s m args below meth c H locs 0 0 (MQ below (va_Qv (fun u : SS => P_X12_next σ0 τ0 u.1 u.2) (WB D cA ad) (AA ad)) args s 0 0 (AA ad)) (F0 m 0 ls [])
def J_X12_next_80 (p : Program) (l : Launch) (e : Env) (s : State) (m : MethodId) (args : Array Value) (below : List Frame) (meth : Method) (c : Code) (D : va_G) (cA : Nat → ClassId) (ad : Nat → Nat) (σ0 : Nat → Nat → Int32) (τ0 : Nat → Nat → Int64)  (n : Nat) : Prop := ∀ (σ : Nat → Nat → Int32) (τ : Nat → Nat → Int64) (H : Heap) (locs : List Loc)  (ls : Array Slot), Rg σ → Fr L_X12_next σ0 σ → FrL LL_X12_next τ0 τ → va_P D vwCl (gw cA ad σ τ) H → va_S (AA ad) s.heap H locs → (0 ≤ (σ 387 4).toInt ∧ (σ 387 4).toInt ≤ 940) → (0 ≤ (σ 387 3).toInt ∧ (σ 387 3).toInt ≤ 940) → (0 ≤ (σ 387 13).toInt ∧ (σ 387 13).toInt ≤ 0) → (0 ≤ (σ 387 5).toInt ∧ (σ 387 5).toInt ≤ 940) → ((σ0 387 4).toInt ≤ (σ 387 4).toInt) → lv_has ls 4 [(0, .ref (ad 387))] → 3768 < (n : Int) → W p l e ({ frames := 1, cells := 0, slots := 0, locals := 20 } : Room) s m args below meth c H locs 0 0 (MQ below (va_Qv (fun u : SS => P_X12_next σ0 τ0 u.1 u.2) (WB D cA ad) (AA ad)) args s 0 0 (AA ad)) (F0 m 80 ls [])
def J_X12_next_181 (p : Program) (l : Launch) (e : Env) (s : State) (m : MethodId) (args : Array Value) (below : List Frame) (meth : Method) (c : Code) (D : va_G) (cA : Nat → ClassId) (ad : Nat → Nat) (σ0 : Nat → Nat → Int32) (τ0 : Nat → Nat → Int64)  (n : Nat) : Prop := ∀ (σ : Nat → Nat → Int32) (τ : Nat → Nat → Int64) (H : Heap) (locs : List Loc) (x1 : Int32) (x2 : Int32) (x3 : Int32) (ls : Array Slot), Rg σ → Fr L_X12_next σ0 σ → FrL LL_X12_next τ0 τ → va_P D vwCl (gw cA ad σ τ) H → va_S (AA ad) s.heap H locs → (48 ≤ x1.toInt ∧ x1.toInt ≤ 122) → (0 ≤ x2.toInt ∧ x2.toInt ≤ 1) → (0 ≤ x3.toInt ∧ x3.toInt ≤ 1) → (0 ≤ (σ 387 4).toInt ∧ (σ 387 4).toInt ≤ 940) → (0 ≤ (σ 387 3).toInt ∧ (σ 387 3).toInt ≤ 940) → (0 ≤ (σ 387 5).toInt ∧ (σ 387 5).toInt ≤ 940) → ((σ0 387 4).toInt ≤ (σ 387 4).toInt) → lv_has ls 4 [(0, .ref (ad 387)), (1, .int x1), (2, .int x2), (3, .int x3)] → 4 * (940 - (σ 387 4).toInt) + 3 < (n : Int) → W p l e ({ frames := 1, cells := 0, slots := 0, locals := 20 } : Room) s m args below meth c H locs 0 0 (MQ below (va_Qv (fun u : SS => P_X12_next σ0 τ0 u.1 u.2) (WB D cA ad) (AA ad)) args s 0 0 (AA ad)) (F0 m 181 ls [])
def J_X12_next_221 (p : Program) (l : Launch) (e : Env) (s : State) (m : MethodId) (args : Array Value) (below : List Frame) (meth : Method) (c : Code) (D : va_G) (cA : Nat → ClassId) (ad : Nat → Nat) (σ0 : Nat → Nat → Int32) (τ0 : Nat → Nat → Int64)  (n : Nat) : Prop := ∀ (σ : Nat → Nat → Int32) (τ : Nat → Nat → Int64) (H : Heap) (locs : List Loc) (x1 : Int32) (x2 : Int32) (x3 : Int32) (w0 : Int32) (ls : Array Slot), Rg σ → Fr L_X12_next σ0 σ → FrL LL_X12_next τ0 τ → va_P D vwCl (gw cA ad σ τ) H → va_S (AA ad) s.heap H locs → (48 ≤ x1.toInt ∧ x1.toInt ≤ 122) → (0 ≤ x2.toInt ∧ x2.toInt ≤ 1) → (0 ≤ x3.toInt ∧ x3.toInt ≤ 1) → (0 ≤ w0.toInt ∧ w0.toInt ≤ 1) → (0 ≤ (σ 387 4).toInt ∧ (σ 387 4).toInt ≤ 940) → (0 ≤ (σ 387 3).toInt ∧ (σ 387 3).toInt ≤ 940) → (0 ≤ (σ 387 5).toInt ∧ (σ 387 5).toInt ≤ 940) → ((σ0 387 4).toInt ≤ (σ 387 4).toInt) → ((σ 387 4).toInt < (σ 387 3).toInt) → lv_has ls 4 [(0, .ref (ad 387)), (1, .int x1), (2, .int x2), (3, .int x3)] → 4 * (940 - (σ 387 4).toInt) + 2 < (n : Int) → W p l e ({ frames := 1, cells := 0, slots := 0, locals := 20 } : Room) s m args below meth c H locs 0 0 (MQ below (va_Qv (fun u : SS => P_X12_next σ0 τ0 u.1 u.2) (WB D cA ad) (AA ad)) args s 0 0 (AA ad)) (F0 m 221 ls [.int w0])
def J_X12_next_248 (p : Program) (l : Launch) (e : Env) (s : State) (m : MethodId) (args : Array Value) (below : List Frame) (meth : Method) (c : Code) (D : va_G) (cA : Nat → ClassId) (ad : Nat → Nat) (σ0 : Nat → Nat → Int32) (τ0 : Nat → Nat → Int64)  (n : Nat) : Prop := ∀ (σ : Nat → Nat → Int32) (τ : Nat → Nat → Int64) (H : Heap) (locs : List Loc) (x1 : Int32) (x2 : Int32) (x3 : Int32) (ls : Array Slot), Rg σ → Fr L_X12_next σ0 σ → FrL LL_X12_next τ0 τ → va_P D vwCl (gw cA ad σ τ) H → va_S (AA ad) s.heap H locs → (48 ≤ x1.toInt ∧ x1.toInt ≤ 122) → (0 ≤ x2.toInt ∧ x2.toInt ≤ 1) → (0 ≤ x3.toInt ∧ x3.toInt ≤ 1) → (0 ≤ (σ 387 4).toInt ∧ (σ 387 4).toInt ≤ 940) → (0 ≤ (σ 387 3).toInt ∧ (σ 387 3).toInt ≤ 940) → (0 ≤ (σ 387 5).toInt ∧ (σ 387 5).toInt ≤ 940) → ((σ0 387 4).toInt ≤ (σ 387 4).toInt) → ((σ 387 4).toInt < (σ 387 3).toInt) → lv_has ls 4 [(0, .ref (ad 387)), (1, .int x1), (2, .int x2), (3, .int x3)] → 4 * (940 - (σ 387 4).toInt) + 1 < (n : Int) → W p l e ({ frames := 1, cells := 0, slots := 0, locals := 20 } : Room) s m args below meth c H locs 0 0 (MQ below (va_Qv (fun u : SS => P_X12_next σ0 τ0 u.1 u.2) (WB D cA ad) (AA ad)) args s 0 0 (AA ad)) (F0 m 248 ls [])
set_option maxHeartbeats 4000000 in
theorem B_X12_next_0 (p : Program) (l : Launch) (e : Env) (s : State) (m : MethodId) (args : Array Value) (below : List Frame) (meth : Method) (c : Code) (D : va_G) (cA : Nat → ClassId) (ad : Nat → Nat) (σ0 : Nat → Nat → Int32) (τ0 : Nat → Nat → Int64)  (n : Nat) (C : Cy p s m args meth c cX12_next 4 wsX12_next RX12 D cA ad none)  (K0 : J_X12_next_0 p l e s m args below meth c D cA ad σ0 τ0 n) (K80 : J_X12_next_80 p l e s m args below meth c D cA ad σ0 τ0 n) (K181 : J_X12_next_181 p l e s m args below meth c D cA ad σ0 τ0 n) (K221 : J_X12_next_221 p l e s m args below meth c D cA ad σ0 τ0 n) (K248 : J_X12_next_248 p l e s m args below meth c D cA ad σ0 τ0 n) : J_X12_next_0 p l e s m args below meth c D cA ad σ0 τ0 (n + 1) := by
  obtain ⟨hx, hb, hml, hown, hts, hK, hk, hr, hI, hN⟩ := C
  intro σ τ H locs ls hR hF hFL hP hS hc0 hc1 hi0 hl hm
  refine lv_aload_n hx hb dX12_next_0 rfl (lv_at hl 0 rfl) ?_
  refine r_cVi (k := 387) (As := []) (rest := []) ⟨hx, hb, hml, hown, hts⟩ hK hP hN hS (c_X12_peek l D cA ad hI σ τ hR) (cwV 0 hts gX12_next_X12_peek rfl rfl rfl (by decide +kernel) ⟨by decide, by decide⟩) (rv_M hK hP (by decide) (by decide)) rfl hl.1 rfl (Nat.le_of_ble_eq_true rfl) dX12_next_1 (Nat.zero_le _) (Nat.zero_le _) (fun r1 u1 H1 locs1 hp1 hP hS => ?_)
  obtain ⟨σ1, τ1⟩ := u1
  obtain ⟨hR, f1, fL1, hq1, hp1_0⟩ : P_X12_peek σ τ r1 σ1 τ1 := hp1
  have hP : va_P D vwCl (gw cA ad σ1 τ1) H1 := hP
  obtain rfl := FrL.nil fL1
  obtain rfl := Fr.nil f1
  refine r_bipush hx hb dX12_next_4 (by decide) (fun z2 ez2 => ?_)
  refine r_icmp_eq (tgt := 18) hx hb dX12_next_6 (by decide) (fun c3 => ?_) (fun c3 => ?_)
  · refine lv_aload_n hx hb dX12_next_18 rfl (lv_at hl 0 rfl) ?_
    refine lv_dup hx hb dX12_next_19 rfl ?_
    refine fg_12_4 (k := 387) hx hb hts in_X12_next_12 hown hK hP (by decide) (by decide) (hts _ lk_X12_next_21) dX12_next_20 ?_
    refine r_iconst hx hb dX12_next_23 (by decide) (fun z4 ez4 => ?_)
    refine r_iadd hx hb dX12_next_24 (by omega) (fun z5 ez5 => ?_)
    refine fp_12_4 (k := 387) hx hb hts in_X12_next_12 hown hK hP (by decide) (by decide) (hts _ lk_X12_next_21) hI hR hS (by omega) dX12_next_25 (fun σ6 H6 locs6 u6 v6 hR hP hS => ?_)
    have hF := hF.puts u6 0 rfl (by decide) (by decide) (by decide) (by decide)
    have t7 : (σ6 387 3).toInt = (σ 387 3).toInt := congrArg Int32.toInt (u6 387 3 (by omega))
    have t8 : (σ6 387 11).toInt = (σ 387 11).toInt := congrArg Int32.toInt (u6 387 11 (by omega))
    refine lv_goto (tgt := 0) hx hb dX12_next_28 (by decide) ?_
    exact K0 σ6 τ H6 locs6  ls hR hF hFL hP hS (by omega) (by omega) (by omega) (lv_sub hl [0] rfl) (by omega)
  · refine lv_aload_n hx hb dX12_next_9 rfl (lv_at hl 0 rfl) ?_
    refine r_cVi (k := 387) (As := []) (rest := []) ⟨hx, hb, hml, hown, hts⟩ hK hP hN hS (c_X12_peek l D cA ad hI σ τ hR) (cwV 0 hts gX12_next_X12_peek rfl rfl rfl (by decide +kernel) ⟨by decide, by decide⟩) (rv_M hK hP (by decide) (by decide)) rfl hl.1 rfl (Nat.le_of_ble_eq_true rfl) dX12_next_10 (Nat.zero_le _) (Nat.zero_le _) (fun r9 u9 H9 locs9 hp9 hP hS => ?_)
    obtain ⟨σ9, τ9⟩ := u9
    obtain ⟨hR, f9, fL9, hq9, hp9_0⟩ : P_X12_peek σ τ r9 σ9 τ9 := hp9
    have hP : va_P D vwCl (gw cA ad σ9 τ9) H9 := hP
    obtain rfl := FrL.nil fL9
    obtain rfl := Fr.nil f9
    refine r_bipush hx hb dX12_next_13 (by decide) (fun z10 ez10 => ?_)
    refine r_icmp_ne (tgt := 31) hx hb dX12_next_15 (by decide) (fun c11 => ?_) (fun c11 => ?_)
    · refine lv_aload_n hx hb dX12_next_31 rfl (lv_at hl 0 rfl) ?_
      refine lv_aload_n hx hb dX12_next_32 rfl (lv_at hl 0 rfl) ?_
      refine fg_12_4 (k := 387) hx hb hts in_X12_next_12 hown hK hP (by decide) (by decide) (hts _ lk_X12_next_21) dX12_next_33 ?_
      refine fp_12_12 (k := 387) hx hb hts in_X12_next_12 hown hK hP (by decide) (by decide) (hts _ lk_X12_next_153) hI hR hS dX12_next_36 (fun σ12 H12 locs12 u12 v12 hR hP hS => ?_)
      have hF := hF.puts u12 1 rfl (by decide) (by decide) (by decide) (by decide)
      have t13 : (σ12 387 3).toInt = (σ 387 3).toInt := congrArg Int32.toInt (u12 387 3 (by omega))
      have t14 : (σ12 387 11).toInt = (σ 387 11).toInt := congrArg Int32.toInt (u12 387 11 (by omega))
      have t15 : (σ12 387 4).toInt = (σ 387 4).toInt := congrArg Int32.toInt (u12 387 4 (by omega))
      refine lv_aload_n hx hb dX12_next_39 rfl (lv_at hl 0 rfl) ?_
      refine r_iconst hx hb dX12_next_40 (by decide) (fun z16 ez16 => ?_)
      refine fp_12_13 (k := 387) hx hb hts in_X12_next_12 hown hK hP (by decide) (by decide) (hts _ lk_X12_next_156) hI hR hS dX12_next_41 (fun σ17 H17 locs17 u17 v17 hR hP hS => ?_)
      have hF := hF.puts u17 1 rfl (by decide) (by decide) (by decide) (by decide)
      have t18 : (σ17 387 3).toInt = (σ12 387 3).toInt := congrArg Int32.toInt (u17 387 3 (by omega))
      have t19 : (σ17 387 11).toInt = (σ12 387 11).toInt := congrArg Int32.toInt (u17 387 11 (by omega))
      have t20 : (σ17 387 4).toInt = (σ12 387 4).toInt := congrArg Int32.toInt (u17 387 4 (by omega))
      refine lv_aload_n hx hb dX12_next_44 rfl (lv_at hl 0 rfl) ?_
      refine fg_12_3 (k := 387) hx hb hts in_X12_next_12 hown hK hP (by decide) (by decide) (hts _ lk_X12_next_18) dX12_next_45 ?_
      refine lv_aload_n hx hb dX12_next_48 rfl (lv_at hl 0 rfl) ?_
      refine fg_12_5 (k := 387) hx hb hts in_X12_next_12 hown hK hP (by decide) (by decide) (hts _ lk_X12_next_24) dX12_next_49 ?_
      have hr21 := rg_12_5 hR (k := 387) (by decide) (by decide)
      refine r_icmp_le (tgt := 80) hx hb dX12_next_52 (by decide) (fun c22 => ?_) (fun c22 => ?_)
      · exact K80 σ17 τ H17 locs17  ls hR hF hFL hP hS (by omega) (by omega) (by omega) (by omega) (by omega) (lv_sub hl [0] rfl) (by omega)
      · refine lv_aload_n hx hb dX12_next_55 rfl (lv_at hl 0 rfl) ?_
        refine fg_12_4 (k := 387) hx hb hts in_X12_next_12 hown hK hP (by decide) (by decide) (hts _ lk_X12_next_21) dX12_next_56 ?_
        refine lv_aload_n hx hb dX12_next_59 rfl (lv_at hl 0 rfl) ?_
        refine fg_12_5 (k := 387) hx hb hts in_X12_next_12 hown hK hP (by decide) (by decide) (hts _ lk_X12_next_24) dX12_next_60 ?_
        refine r_icmp_lt (tgt := 80) hx hb dX12_next_63 (by decide) (fun c23 => ?_) (fun c23 => ?_)
        · exact K80 σ17 τ H17 locs17  ls hR hF hFL hP hS (by omega) (by omega) (by omega) (by omega) (by omega) (lv_sub hl [0] rfl) (by omega)
        · refine lv_aload_n hx hb dX12_next_66 rfl (lv_at hl 0 rfl) ?_
          refine lv_aload_n hx hb dX12_next_67 rfl (lv_at hl 0 rfl) ?_
          refine fg_12_5 (k := 387) hx hb hts in_X12_next_12 hown hK hP (by decide) (by decide) (hts _ lk_X12_next_24) dX12_next_68 ?_
          refine fp_12_12 (k := 387) hx hb hts in_X12_next_12 hown hK hP (by decide) (by decide) (hts _ lk_X12_next_153) hI hR hS dX12_next_71 (fun σ24 H24 locs24 u24 v24 hR hP hS => ?_)
          have hF := hF.puts u24 1 rfl (by decide) (by decide) (by decide) (by decide)
          have t25 : (σ24 387 3).toInt = (σ17 387 3).toInt := congrArg Int32.toInt (u24 387 3 (by omega))
          have t26 : (σ24 387 11).toInt = (σ17 387 11).toInt := congrArg Int32.toInt (u24 387 11 (by omega))
          have t27 : (σ24 387 4).toInt = (σ17 387 4).toInt := congrArg Int32.toInt (u24 387 4 (by omega))
          have t28 : (σ24 387 13).toInt = (σ17 387 13).toInt := congrArg Int32.toInt (u24 387 13 (by omega))
          have t29 : (σ24 387 5).toInt = (σ17 387 5).toInt := congrArg Int32.toInt (u24 387 5 (by omega))
          refine lv_aload_n hx hb dX12_next_74 rfl (lv_at hl 0 rfl) ?_
          refine r_iconst hx hb dX12_next_75 (by decide) (fun z30 ez30 => ?_)
          refine fp_12_11 (k := 387) hx hb hts in_X12_next_12 hown hK hP (by decide) (by decide) (hts _ lk_X12_next_159) hI hR hS dX12_next_76 (fun σ31 H31 locs31 u31 v31 hR hP hS => ?_)
          have hF := hF.puts u31 1 rfl (by decide) (by decide) (by decide) (by decide)
          have t32 : (σ31 387 3).toInt = (σ24 387 3).toInt := congrArg Int32.toInt (u31 387 3 (by omega))
          have t33 : (σ31 387 4).toInt = (σ24 387 4).toInt := congrArg Int32.toInt (u31 387 4 (by omega))
          have t34 : (σ31 387 13).toInt = (σ24 387 13).toInt := congrArg Int32.toInt (u31 387 13 (by omega))
          have t35 : (σ31 387 5).toInt = (σ24 387 5).toInt := congrArg Int32.toInt (u31 387 5 (by omega))
          exact r_vret hx hb hr hK hP hS hk dX12_next_79 (show P_X12_next σ0 τ0 σ31 τ from ⟨hR, hF, hFL, by omega, by omega, by omega⟩)
    · refine lv_aload_n hx hb dX12_next_18 rfl (lv_at hl 0 rfl) ?_
      refine lv_dup hx hb dX12_next_19 rfl ?_
      refine fg_12_4 (k := 387) hx hb hts in_X12_next_12 hown hK hP (by decide) (by decide) (hts _ lk_X12_next_21) dX12_next_20 ?_
      refine r_iconst hx hb dX12_next_23 (by decide) (fun z36 ez36 => ?_)
      refine r_iadd hx hb dX12_next_24 (by omega) (fun z37 ez37 => ?_)
      refine fp_12_4 (k := 387) hx hb hts in_X12_next_12 hown hK hP (by decide) (by decide) (hts _ lk_X12_next_21) hI hR hS (by omega) dX12_next_25 (fun σ38 H38 locs38 u38 v38 hR hP hS => ?_)
      have hF := hF.puts u38 0 rfl (by decide) (by decide) (by decide) (by decide)
      have t39 : (σ38 387 3).toInt = (σ 387 3).toInt := congrArg Int32.toInt (u38 387 3 (by omega))
      have t40 : (σ38 387 11).toInt = (σ 387 11).toInt := congrArg Int32.toInt (u38 387 11 (by omega))
      refine lv_goto (tgt := 0) hx hb dX12_next_28 (by decide) ?_
      exact K0 σ38 τ H38 locs38  ls hR hF hFL hP hS (by omega) (by omega) (by omega) (lv_sub hl [0] rfl) (by omega)
set_option maxHeartbeats 4000000 in
theorem B_X12_next_80 (p : Program) (l : Launch) (e : Env) (s : State) (m : MethodId) (args : Array Value) (below : List Frame) (meth : Method) (c : Code) (D : va_G) (cA : Nat → ClassId) (ad : Nat → Nat) (σ0 : Nat → Nat → Int32) (τ0 : Nat → Nat → Int64)  (n : Nat) (C : Cy p s m args meth c cX12_next 4 wsX12_next RX12 D cA ad none)  (K0 : J_X12_next_0 p l e s m args below meth c D cA ad σ0 τ0 n) (K80 : J_X12_next_80 p l e s m args below meth c D cA ad σ0 τ0 n) (K181 : J_X12_next_181 p l e s m args below meth c D cA ad σ0 τ0 n) (K221 : J_X12_next_221 p l e s m args below meth c D cA ad σ0 τ0 n) (K248 : J_X12_next_248 p l e s m args below meth c D cA ad σ0 τ0 n) : J_X12_next_80 p l e s m args below meth c D cA ad σ0 τ0 (n + 1) := by
  obtain ⟨hx, hb, hml, hown, hts, hK, hk, hr, hI, hN⟩ := C
  intro σ τ H locs ls hR hF hFL hP hS hc0 hc1 hc2 hc3 hi0 hl hm
  refine lv_aload_n hx hb dX12_next_80 rfl (lv_at hl 0 rfl) ?_
  refine r_cVi (k := 387) (As := []) (rest := []) ⟨hx, hb, hml, hown, hts⟩ hK hP hN hS (c_X12_peek l D cA ad hI σ τ hR) (cwV 0 hts gX12_next_X12_peek rfl rfl rfl (by decide +kernel) ⟨by decide, by decide⟩) (rv_M hK hP (by decide) (by decide)) rfl hl.1 rfl (Nat.le_of_ble_eq_true rfl) dX12_next_81 (Nat.zero_le _) (Nat.zero_le _) (fun r1 u1 H1 locs1 hp1 hP hS => ?_)
  obtain ⟨σ1, τ1⟩ := u1
  obtain ⟨hR, f1, fL1, hq1, hp1_0⟩ : P_X12_peek σ τ r1 σ1 τ1 := hp1
  have hP : va_P D vwCl (gw cA ad σ1 τ1) H1 := hP
  obtain rfl := FrL.nil fL1
  obtain rfl := Fr.nil f1
  refine lv_istore_n (lv' := [(1, .int r1), (0, .ref (ad 387))]) hx hb dX12_next_84 rfl hl (by decide) rfl (fun ls hl => ?_)
  refine lv_iload_n hx hb dX12_next_85 rfl (lv_at hl 0 rfl) ?_
  refine r_if_ge (tgt := 95) hx hb dX12_next_86 (by decide) (fun c2 => ?_) (fun c2 => ?_)
  · refine lv_iload_n hx hb dX12_next_95 rfl (lv_at hl 0 rfl) ?_
    refine r_cSi (As := [.int r1]) (rest := []) ⟨hx, hb, hml, hown, hts⟩ hK hP hN hS (c_X12_isSmall l D cA ad hI σ τ hR r1 (by omega)) (va_cwS 1 hts gX12_next_X12_isSmall rfl rfl rfl (by decide +kernel) ⟨by decide, by decide⟩) rfl hl.1 rfl (Nat.le_of_ble_eq_true rfl) dX12_next_96 (Nat.zero_le _) (Nat.zero_le _) (fun r3 u3 H3 locs3 hp3 hP hS => ?_)
    obtain ⟨σ3, τ3⟩ := u3
    obtain ⟨hR, f3, fL3, hq3, hp3_0⟩ : P_X12_isSmall σ τ r1 r3 σ3 τ3 := hp3
    have hP : va_P D vwCl (gw cA ad σ3 τ3) H3 := hP
    obtain rfl := FrL.nil fL3
    obtain rfl := Fr.nil f3
    refine r_if_ne (tgt := 164) hx hb dX12_next_99 (by decide) (fun c4 => ?_) (fun c4 => ?_)
    · refine lv_iload_n hx hb dX12_next_164 rfl (lv_at hl 0 rfl) ?_
      refine r_cSi (As := [.int r1]) (rest := []) ⟨hx, hb, hml, hown, hts⟩ hK hP hN hS (c_X12_isSmall l D cA ad hI σ τ hR r1 (by omega)) (va_cwS 1 hts gX12_next_X12_isSmall rfl rfl rfl (by decide +kernel) ⟨by decide, by decide⟩) rfl hl.1 rfl (Nat.le_of_ble_eq_true rfl) dX12_next_165 (Nat.zero_le _) (Nat.zero_le _) (fun r5 u5 H5 locs5 hp5 hP hS => ?_)
      obtain ⟨σ5, τ5⟩ := u5
      obtain ⟨hR, f5, fL5, hq5, hp5_0⟩ : P_X12_isSmall σ τ r1 r5 σ5 τ5 := hp5
      have hP : va_P D vwCl (gw cA ad σ5 τ5) H5 := hP
      obtain rfl := FrL.nil fL5
      obtain rfl := Fr.nil f5
      refine lv_istore_n (lv' := [(2, .int r5), (1, .int r1), (0, .ref (ad 387))]) hx hb dX12_next_168 rfl hl (by decide) rfl (fun ls hl => ?_)
      refine r_iconst hx hb dX12_next_169 (by decide) (fun z6 ez6 => ?_)
      refine lv_istore_n (lv' := [(3, .int z6), (2, .int r5), (1, .int r1), (0, .ref (ad 387))]) hx hb dX12_next_170 rfl hl (by decide) rfl (fun ls hl => ?_)
      refine lv_aload_n hx hb dX12_next_171 rfl (lv_at hl 3 rfl) ?_
      refine lv_lconst (v := 0) hx hb dX12_next_172 (by decide) ?_
      refine fpL_12_17 (k := 387) hx hb hts in_X12_next_12 hown hK hP (by decide) (by decide) (hts _ lk_X12_next_172) hI hS dX12_next_173 (fun τ7 H7 locs7 uL7 vL7 hP hS => ?_)
      have hFL := hFL.puts uL7 0 rfl (by decide) (by decide) (by decide) (by decide)
      refine lv_aload_n hx hb dX12_next_176 rfl (lv_at hl 3 rfl) ?_
      refine r_iconst hx hb dX12_next_177 (by decide) (fun z8 ez8 => ?_)
      refine fp_12_14 (k := 387) hx hb hts in_X12_next_12 hown hK hP (by decide) (by decide) (hts _ lk_X12_next_169) hI hR hS dX12_next_178 (fun σ9 H9 locs9 u9 v9 hR hP hS => ?_)
      have hF := hF.puts u9 1 rfl (by decide) (by decide) (by decide) (by decide)
      have t10 : (σ9 387 4).toInt = (σ 387 4).toInt := congrArg Int32.toInt (u9 387 4 (by omega))
      have t11 : (σ9 387 3).toInt = (σ 387 3).toInt := congrArg Int32.toInt (u9 387 3 (by omega))
      have t12 : (σ9 387 11).toInt = (σ 387 11).toInt := congrArg Int32.toInt (u9 387 11 (by omega))
      have t13 : (σ9 387 13).toInt = (σ 387 13).toInt := congrArg Int32.toInt (u9 387 13 (by omega))
      have t14 : (σ9 387 5).toInt = (σ 387 5).toInt := congrArg Int32.toInt (u9 387 5 (by omega))
      exact K181 σ9 τ7 H9 locs9 r1 r5 z6 ls hR hF hFL hP hS (by omega) (by omega) (by omega) (by omega) (by omega) (by omega) (by omega) (lv_sub hl [3, 2, 1, 0] rfl) (by omega)
    · refine lv_iload_n hx hb dX12_next_102 rfl (lv_at hl 0 rfl) ?_
      refine r_cSi (As := [.int r1]) (rest := []) ⟨hx, hb, hml, hown, hts⟩ hK hP hN hS (c_X12_isDigit l D cA ad hI σ τ hR r1 (by omega)) (va_cwS 1 hts gX12_next_X12_isDigit rfl rfl rfl (by decide +kernel) ⟨by decide, by decide⟩) rfl hl.1 rfl (Nat.le_of_ble_eq_true rfl) dX12_next_103 (Nat.zero_le _) (Nat.zero_le _) (fun r15 u15 H15 locs15 hp15 hP hS => ?_)
      obtain ⟨σ15, τ15⟩ := u15
      obtain ⟨hR, f15, fL15, hq15, hp15_0⟩ : P_X12_isDigit σ τ r1 r15 σ15 τ15 := hp15
      have hP : va_P D vwCl (gw cA ad σ15 τ15) H15 := hP
      obtain rfl := FrL.nil fL15
      obtain rfl := Fr.nil f15
      refine r_if_ne (tgt := 164) hx hb dX12_next_106 (by decide) (fun c16 => ?_) (fun c16 => ?_)
      · refine lv_iload_n hx hb dX12_next_164 rfl (lv_at hl 0 rfl) ?_
        refine r_cSi (As := [.int r1]) (rest := []) ⟨hx, hb, hml, hown, hts⟩ hK hP hN hS (c_X12_isSmall l D cA ad hI σ τ hR r1 (by omega)) (va_cwS 1 hts gX12_next_X12_isSmall rfl rfl rfl (by decide +kernel) ⟨by decide, by decide⟩) rfl hl.1 rfl (Nat.le_of_ble_eq_true rfl) dX12_next_165 (Nat.zero_le _) (Nat.zero_le _) (fun r17 u17 H17 locs17 hp17 hP hS => ?_)
        obtain ⟨σ17, τ17⟩ := u17
        obtain ⟨hR, f17, fL17, hq17, hp17_0⟩ : P_X12_isSmall σ τ r1 r17 σ17 τ17 := hp17
        have hP : va_P D vwCl (gw cA ad σ17 τ17) H17 := hP
        obtain rfl := FrL.nil fL17
        obtain rfl := Fr.nil f17
        refine lv_istore_n (lv' := [(2, .int r17), (1, .int r1), (0, .ref (ad 387))]) hx hb dX12_next_168 rfl hl (by decide) rfl (fun ls hl => ?_)
        refine r_iconst hx hb dX12_next_169 (by decide) (fun z18 ez18 => ?_)
        refine lv_istore_n (lv' := [(3, .int z18), (2, .int r17), (1, .int r1), (0, .ref (ad 387))]) hx hb dX12_next_170 rfl hl (by decide) rfl (fun ls hl => ?_)
        refine lv_aload_n hx hb dX12_next_171 rfl (lv_at hl 3 rfl) ?_
        refine lv_lconst (v := 0) hx hb dX12_next_172 (by decide) ?_
        refine fpL_12_17 (k := 387) hx hb hts in_X12_next_12 hown hK hP (by decide) (by decide) (hts _ lk_X12_next_172) hI hS dX12_next_173 (fun τ19 H19 locs19 uL19 vL19 hP hS => ?_)
        have hFL := hFL.puts uL19 0 rfl (by decide) (by decide) (by decide) (by decide)
        refine lv_aload_n hx hb dX12_next_176 rfl (lv_at hl 3 rfl) ?_
        refine r_iconst hx hb dX12_next_177 (by decide) (fun z20 ez20 => ?_)
        refine fp_12_14 (k := 387) hx hb hts in_X12_next_12 hown hK hP (by decide) (by decide) (hts _ lk_X12_next_169) hI hR hS dX12_next_178 (fun σ21 H21 locs21 u21 v21 hR hP hS => ?_)
        have hF := hF.puts u21 1 rfl (by decide) (by decide) (by decide) (by decide)
        have t22 : (σ21 387 4).toInt = (σ 387 4).toInt := congrArg Int32.toInt (u21 387 4 (by omega))
        have t23 : (σ21 387 3).toInt = (σ 387 3).toInt := congrArg Int32.toInt (u21 387 3 (by omega))
        have t24 : (σ21 387 11).toInt = (σ 387 11).toInt := congrArg Int32.toInt (u21 387 11 (by omega))
        have t25 : (σ21 387 13).toInt = (σ 387 13).toInt := congrArg Int32.toInt (u21 387 13 (by omega))
        have t26 : (σ21 387 5).toInt = (σ 387 5).toInt := congrArg Int32.toInt (u21 387 5 (by omega))
        exact K181 σ21 τ19 H21 locs21 r1 r17 z18 ls hR hF hFL hP hS (by omega) (by omega) (by omega) (by omega) (by omega) (by omega) (by omega) (lv_sub hl [3, 2, 1, 0] rfl) (by omega)
      · refine lv_aload_n hx hb dX12_next_109 rfl (lv_at hl 1 rfl) ?_
        refine lv_iload_n hx hb dX12_next_110 rfl (lv_at hl 0 rfl) ?_
        refine r_bipush hx hb dX12_next_111 (by decide) (fun z27 ez27 => ?_)
        refine r_icmp_eq (tgt := 140) hx hb dX12_next_113 (by decide) (fun c28 => ?_) (fun c28 => ?_)
        · refine r_iconst hx hb dX12_next_140 (by decide) (fun z29 ez29 => ?_)
          refine lv_goto (tgt := 145) hx hb dX12_next_141 (by decide) ?_
          refine fp_12_11 (k := 387) hx hb hts in_X12_next_12 hown hK hP (by decide) (by decide) (hts _ lk_X12_next_159) hI hR hS dX12_next_145 (fun σ30 H30 locs30 u30 v30 hR hP hS => ?_)
          have hF := hF.puts u30 1 rfl (by decide) (by decide) (by decide) (by decide)
          have t31 : (σ30 387 4).toInt = (σ 387 4).toInt := congrArg Int32.toInt (u30 387 4 (by omega))
          have t32 : (σ30 387 3).toInt = (σ 387 3).toInt := congrArg Int32.toInt (u30 387 3 (by omega))
          have t33 : (σ30 387 13).toInt = (σ 387 13).toInt := congrArg Int32.toInt (u30 387 13 (by omega))
          have t34 : (σ30 387 5).toInt = (σ 387 5).toInt := congrArg Int32.toInt (u30 387 5 (by omega))
          refine lv_aload_n hx hb dX12_next_148 rfl (lv_at hl 1 rfl) ?_
          refine lv_iload_n hx hb dX12_next_149 rfl (lv_at hl 0 rfl) ?_
          refine fp_12_14 (k := 387) hx hb hts in_X12_next_12 hown hK hP (by decide) (by decide) (hts _ lk_X12_next_169) hI hR hS dX12_next_150 (fun σ35 H35 locs35 u35 v35 hR hP hS => ?_)
          have hF := hF.puts u35 1 rfl (by decide) (by decide) (by decide) (by decide)
          have t36 : (σ35 387 4).toInt = (σ30 387 4).toInt := congrArg Int32.toInt (u35 387 4 (by omega))
          have t37 : (σ35 387 3).toInt = (σ30 387 3).toInt := congrArg Int32.toInt (u35 387 3 (by omega))
          have t38 : (σ35 387 13).toInt = (σ30 387 13).toInt := congrArg Int32.toInt (u35 387 13 (by omega))
          have t39 : (σ35 387 5).toInt = (σ30 387 5).toInt := congrArg Int32.toInt (u35 387 5 (by omega))
          have t40 : (σ35 387 11).toInt = (σ30 387 11).toInt := congrArg Int32.toInt (u35 387 11 (by omega))
          refine lv_aload_n hx hb dX12_next_153 rfl (lv_at hl 1 rfl) ?_
          refine lv_dup hx hb dX12_next_154 rfl ?_
          refine fg_12_4 (k := 387) hx hb hts in_X12_next_12 hown hK hP (by decide) (by decide) (hts _ lk_X12_next_21) dX12_next_155 ?_
          refine r_iconst hx hb dX12_next_158 (by decide) (fun z41 ez41 => ?_)
          refine r_iadd hx hb dX12_next_159 (by omega) (fun z42 ez42 => ?_)
          refine fp_12_4 (k := 387) hx hb hts in_X12_next_12 hown hK hP (by decide) (by decide) (hts _ lk_X12_next_21) hI hR hS (by omega) dX12_next_160 (fun σ43 H43 locs43 u43 v43 hR hP hS => ?_)
          have hF := hF.puts u43 0 rfl (by decide) (by decide) (by decide) (by decide)
          have t44 : (σ43 387 3).toInt = (σ35 387 3).toInt := congrArg Int32.toInt (u43 387 3 (by omega))
          have t45 : (σ43 387 13).toInt = (σ35 387 13).toInt := congrArg Int32.toInt (u43 387 13 (by omega))
          have t46 : (σ43 387 5).toInt = (σ35 387 5).toInt := congrArg Int32.toInt (u43 387 5 (by omega))
          have t47 : (σ43 387 11).toInt = (σ35 387 11).toInt := congrArg Int32.toInt (u43 387 11 (by omega))
          exact r_vret hx hb hr hK hP hS hk dX12_next_163 (show P_X12_next σ0 τ0 σ43 τ from ⟨hR, hF, hFL, by omega, by omega, by omega⟩)
        · refine lv_iload_n hx hb dX12_next_116 rfl (lv_at hl 0 rfl) ?_
          refine r_bipush hx hb dX12_next_117 (by decide) (fun z48 ez48 => ?_)
          refine r_icmp_eq (tgt := 140) hx hb dX12_next_119 (by decide) (fun c49 => ?_) (fun c49 => ?_)
          · refine r_iconst hx hb dX12_next_140 (by decide) (fun z50 ez50 => ?_)
            refine lv_goto (tgt := 145) hx hb dX12_next_141 (by decide) ?_
            refine fp_12_11 (k := 387) hx hb hts in_X12_next_12 hown hK hP (by decide) (by decide) (hts _ lk_X12_next_159) hI hR hS dX12_next_145 (fun σ51 H51 locs51 u51 v51 hR hP hS => ?_)
            have hF := hF.puts u51 1 rfl (by decide) (by decide) (by decide) (by decide)
            have t52 : (σ51 387 4).toInt = (σ 387 4).toInt := congrArg Int32.toInt (u51 387 4 (by omega))
            have t53 : (σ51 387 3).toInt = (σ 387 3).toInt := congrArg Int32.toInt (u51 387 3 (by omega))
            have t54 : (σ51 387 13).toInt = (σ 387 13).toInt := congrArg Int32.toInt (u51 387 13 (by omega))
            have t55 : (σ51 387 5).toInt = (σ 387 5).toInt := congrArg Int32.toInt (u51 387 5 (by omega))
            refine lv_aload_n hx hb dX12_next_148 rfl (lv_at hl 1 rfl) ?_
            refine lv_iload_n hx hb dX12_next_149 rfl (lv_at hl 0 rfl) ?_
            refine fp_12_14 (k := 387) hx hb hts in_X12_next_12 hown hK hP (by decide) (by decide) (hts _ lk_X12_next_169) hI hR hS dX12_next_150 (fun σ56 H56 locs56 u56 v56 hR hP hS => ?_)
            have hF := hF.puts u56 1 rfl (by decide) (by decide) (by decide) (by decide)
            have t57 : (σ56 387 4).toInt = (σ51 387 4).toInt := congrArg Int32.toInt (u56 387 4 (by omega))
            have t58 : (σ56 387 3).toInt = (σ51 387 3).toInt := congrArg Int32.toInt (u56 387 3 (by omega))
            have t59 : (σ56 387 13).toInt = (σ51 387 13).toInt := congrArg Int32.toInt (u56 387 13 (by omega))
            have t60 : (σ56 387 5).toInt = (σ51 387 5).toInt := congrArg Int32.toInt (u56 387 5 (by omega))
            have t61 : (σ56 387 11).toInt = (σ51 387 11).toInt := congrArg Int32.toInt (u56 387 11 (by omega))
            refine lv_aload_n hx hb dX12_next_153 rfl (lv_at hl 1 rfl) ?_
            refine lv_dup hx hb dX12_next_154 rfl ?_
            refine fg_12_4 (k := 387) hx hb hts in_X12_next_12 hown hK hP (by decide) (by decide) (hts _ lk_X12_next_21) dX12_next_155 ?_
            refine r_iconst hx hb dX12_next_158 (by decide) (fun z62 ez62 => ?_)
            refine r_iadd hx hb dX12_next_159 (by omega) (fun z63 ez63 => ?_)
            refine fp_12_4 (k := 387) hx hb hts in_X12_next_12 hown hK hP (by decide) (by decide) (hts _ lk_X12_next_21) hI hR hS (by omega) dX12_next_160 (fun σ64 H64 locs64 u64 v64 hR hP hS => ?_)
            have hF := hF.puts u64 0 rfl (by decide) (by decide) (by decide) (by decide)
            have t65 : (σ64 387 3).toInt = (σ56 387 3).toInt := congrArg Int32.toInt (u64 387 3 (by omega))
            have t66 : (σ64 387 13).toInt = (σ56 387 13).toInt := congrArg Int32.toInt (u64 387 13 (by omega))
            have t67 : (σ64 387 5).toInt = (σ56 387 5).toInt := congrArg Int32.toInt (u64 387 5 (by omega))
            have t68 : (σ64 387 11).toInt = (σ56 387 11).toInt := congrArg Int32.toInt (u64 387 11 (by omega))
            exact r_vret hx hb hr hK hP hS hk dX12_next_163 (show P_X12_next σ0 τ0 σ64 τ from ⟨hR, hF, hFL, by omega, by omega, by omega⟩)
          · refine lv_iload_n hx hb dX12_next_122 rfl (lv_at hl 0 rfl) ?_
            refine r_bipush hx hb dX12_next_123 (by decide) (fun z69 ez69 => ?_)
            refine r_icmp_eq (tgt := 140) hx hb dX12_next_125 (by decide) (fun c70 => ?_) (fun c70 => ?_)
            · refine r_iconst hx hb dX12_next_140 (by decide) (fun z71 ez71 => ?_)
              refine lv_goto (tgt := 145) hx hb dX12_next_141 (by decide) ?_
              refine fp_12_11 (k := 387) hx hb hts in_X12_next_12 hown hK hP (by decide) (by decide) (hts _ lk_X12_next_159) hI hR hS dX12_next_145 (fun σ72 H72 locs72 u72 v72 hR hP hS => ?_)
              have hF := hF.puts u72 1 rfl (by decide) (by decide) (by decide) (by decide)
              have t73 : (σ72 387 4).toInt = (σ 387 4).toInt := congrArg Int32.toInt (u72 387 4 (by omega))
              have t74 : (σ72 387 3).toInt = (σ 387 3).toInt := congrArg Int32.toInt (u72 387 3 (by omega))
              have t75 : (σ72 387 13).toInt = (σ 387 13).toInt := congrArg Int32.toInt (u72 387 13 (by omega))
              have t76 : (σ72 387 5).toInt = (σ 387 5).toInt := congrArg Int32.toInt (u72 387 5 (by omega))
              refine lv_aload_n hx hb dX12_next_148 rfl (lv_at hl 1 rfl) ?_
              refine lv_iload_n hx hb dX12_next_149 rfl (lv_at hl 0 rfl) ?_
              refine fp_12_14 (k := 387) hx hb hts in_X12_next_12 hown hK hP (by decide) (by decide) (hts _ lk_X12_next_169) hI hR hS dX12_next_150 (fun σ77 H77 locs77 u77 v77 hR hP hS => ?_)
              have hF := hF.puts u77 1 rfl (by decide) (by decide) (by decide) (by decide)
              have t78 : (σ77 387 4).toInt = (σ72 387 4).toInt := congrArg Int32.toInt (u77 387 4 (by omega))
              have t79 : (σ77 387 3).toInt = (σ72 387 3).toInt := congrArg Int32.toInt (u77 387 3 (by omega))
              have t80 : (σ77 387 13).toInt = (σ72 387 13).toInt := congrArg Int32.toInt (u77 387 13 (by omega))
              have t81 : (σ77 387 5).toInt = (σ72 387 5).toInt := congrArg Int32.toInt (u77 387 5 (by omega))
              have t82 : (σ77 387 11).toInt = (σ72 387 11).toInt := congrArg Int32.toInt (u77 387 11 (by omega))
              refine lv_aload_n hx hb dX12_next_153 rfl (lv_at hl 1 rfl) ?_
              refine lv_dup hx hb dX12_next_154 rfl ?_
              refine fg_12_4 (k := 387) hx hb hts in_X12_next_12 hown hK hP (by decide) (by decide) (hts _ lk_X12_next_21) dX12_next_155 ?_
              refine r_iconst hx hb dX12_next_158 (by decide) (fun z83 ez83 => ?_)
              refine r_iadd hx hb dX12_next_159 (by omega) (fun z84 ez84 => ?_)
              refine fp_12_4 (k := 387) hx hb hts in_X12_next_12 hown hK hP (by decide) (by decide) (hts _ lk_X12_next_21) hI hR hS (by omega) dX12_next_160 (fun σ85 H85 locs85 u85 v85 hR hP hS => ?_)
              have hF := hF.puts u85 0 rfl (by decide) (by decide) (by decide) (by decide)
              have t86 : (σ85 387 3).toInt = (σ77 387 3).toInt := congrArg Int32.toInt (u85 387 3 (by omega))
              have t87 : (σ85 387 13).toInt = (σ77 387 13).toInt := congrArg Int32.toInt (u85 387 13 (by omega))
              have t88 : (σ85 387 5).toInt = (σ77 387 5).toInt := congrArg Int32.toInt (u85 387 5 (by omega))
              have t89 : (σ85 387 11).toInt = (σ77 387 11).toInt := congrArg Int32.toInt (u85 387 11 (by omega))
              exact r_vret hx hb hr hK hP hS hk dX12_next_163 (show P_X12_next σ0 τ0 σ85 τ from ⟨hR, hF, hFL, by omega, by omega, by omega⟩)
            · refine lv_iload_n hx hb dX12_next_128 rfl (lv_at hl 0 rfl) ?_
              refine r_bipush hx hb dX12_next_129 (by decide) (fun z90 ez90 => ?_)
              refine r_icmp_lt (tgt := 144) hx hb dX12_next_131 (by decide) (fun c91 => ?_) (fun c91 => ?_)
              · refine r_iconst hx hb dX12_next_144 (by decide) (fun z92 ez92 => ?_)
                refine fp_12_11 (k := 387) hx hb hts in_X12_next_12 hown hK hP (by decide) (by decide) (hts _ lk_X12_next_159) hI hR hS dX12_next_145 (fun σ93 H93 locs93 u93 v93 hR hP hS => ?_)
                have hF := hF.puts u93 1 rfl (by decide) (by decide) (by decide) (by decide)
                have t94 : (σ93 387 4).toInt = (σ 387 4).toInt := congrArg Int32.toInt (u93 387 4 (by omega))
                have t95 : (σ93 387 3).toInt = (σ 387 3).toInt := congrArg Int32.toInt (u93 387 3 (by omega))
                have t96 : (σ93 387 13).toInt = (σ 387 13).toInt := congrArg Int32.toInt (u93 387 13 (by omega))
                have t97 : (σ93 387 5).toInt = (σ 387 5).toInt := congrArg Int32.toInt (u93 387 5 (by omega))
                refine lv_aload_n hx hb dX12_next_148 rfl (lv_at hl 1 rfl) ?_
                refine lv_iload_n hx hb dX12_next_149 rfl (lv_at hl 0 rfl) ?_
                refine fp_12_14 (k := 387) hx hb hts in_X12_next_12 hown hK hP (by decide) (by decide) (hts _ lk_X12_next_169) hI hR hS dX12_next_150 (fun σ98 H98 locs98 u98 v98 hR hP hS => ?_)
                have hF := hF.puts u98 1 rfl (by decide) (by decide) (by decide) (by decide)
                have t99 : (σ98 387 4).toInt = (σ93 387 4).toInt := congrArg Int32.toInt (u98 387 4 (by omega))
                have t100 : (σ98 387 3).toInt = (σ93 387 3).toInt := congrArg Int32.toInt (u98 387 3 (by omega))
                have t101 : (σ98 387 13).toInt = (σ93 387 13).toInt := congrArg Int32.toInt (u98 387 13 (by omega))
                have t102 : (σ98 387 5).toInt = (σ93 387 5).toInt := congrArg Int32.toInt (u98 387 5 (by omega))
                have t103 : (σ98 387 11).toInt = (σ93 387 11).toInt := congrArg Int32.toInt (u98 387 11 (by omega))
                refine lv_aload_n hx hb dX12_next_153 rfl (lv_at hl 1 rfl) ?_
                refine lv_dup hx hb dX12_next_154 rfl ?_
                refine fg_12_4 (k := 387) hx hb hts in_X12_next_12 hown hK hP (by decide) (by decide) (hts _ lk_X12_next_21) dX12_next_155 ?_
                refine r_iconst hx hb dX12_next_158 (by decide) (fun z104 ez104 => ?_)
                refine r_iadd hx hb dX12_next_159 (by omega) (fun z105 ez105 => ?_)
                refine fp_12_4 (k := 387) hx hb hts in_X12_next_12 hown hK hP (by decide) (by decide) (hts _ lk_X12_next_21) hI hR hS (by omega) dX12_next_160 (fun σ106 H106 locs106 u106 v106 hR hP hS => ?_)
                have hF := hF.puts u106 0 rfl (by decide) (by decide) (by decide) (by decide)
                have t107 : (σ106 387 3).toInt = (σ98 387 3).toInt := congrArg Int32.toInt (u106 387 3 (by omega))
                have t108 : (σ106 387 13).toInt = (σ98 387 13).toInt := congrArg Int32.toInt (u106 387 13 (by omega))
                have t109 : (σ106 387 5).toInt = (σ98 387 5).toInt := congrArg Int32.toInt (u106 387 5 (by omega))
                have t110 : (σ106 387 11).toInt = (σ98 387 11).toInt := congrArg Int32.toInt (u106 387 11 (by omega))
                exact r_vret hx hb hr hK hP hS hk dX12_next_163 (show P_X12_next σ0 τ0 σ106 τ from ⟨hR, hF, hFL, by omega, by omega, by omega⟩)
              · refine lv_iload_n hx hb dX12_next_134 rfl (lv_at hl 0 rfl) ?_
                refine r_bipush hx hb dX12_next_135 (by decide) (fun z111 ez111 => ?_)
                refine r_icmp_gt (tgt := 144) hx hb dX12_next_137 (by decide) (fun c112 => ?_) (fun c112 => ?_)
                · refine r_iconst hx hb dX12_next_144 (by decide) (fun z113 ez113 => ?_)
                  refine fp_12_11 (k := 387) hx hb hts in_X12_next_12 hown hK hP (by decide) (by decide) (hts _ lk_X12_next_159) hI hR hS dX12_next_145 (fun σ114 H114 locs114 u114 v114 hR hP hS => ?_)
                  have hF := hF.puts u114 1 rfl (by decide) (by decide) (by decide) (by decide)
                  have t115 : (σ114 387 4).toInt = (σ 387 4).toInt := congrArg Int32.toInt (u114 387 4 (by omega))
                  have t116 : (σ114 387 3).toInt = (σ 387 3).toInt := congrArg Int32.toInt (u114 387 3 (by omega))
                  have t117 : (σ114 387 13).toInt = (σ 387 13).toInt := congrArg Int32.toInt (u114 387 13 (by omega))
                  have t118 : (σ114 387 5).toInt = (σ 387 5).toInt := congrArg Int32.toInt (u114 387 5 (by omega))
                  refine lv_aload_n hx hb dX12_next_148 rfl (lv_at hl 1 rfl) ?_
                  refine lv_iload_n hx hb dX12_next_149 rfl (lv_at hl 0 rfl) ?_
                  refine fp_12_14 (k := 387) hx hb hts in_X12_next_12 hown hK hP (by decide) (by decide) (hts _ lk_X12_next_169) hI hR hS dX12_next_150 (fun σ119 H119 locs119 u119 v119 hR hP hS => ?_)
                  have hF := hF.puts u119 1 rfl (by decide) (by decide) (by decide) (by decide)
                  have t120 : (σ119 387 4).toInt = (σ114 387 4).toInt := congrArg Int32.toInt (u119 387 4 (by omega))
                  have t121 : (σ119 387 3).toInt = (σ114 387 3).toInt := congrArg Int32.toInt (u119 387 3 (by omega))
                  have t122 : (σ119 387 13).toInt = (σ114 387 13).toInt := congrArg Int32.toInt (u119 387 13 (by omega))
                  have t123 : (σ119 387 5).toInt = (σ114 387 5).toInt := congrArg Int32.toInt (u119 387 5 (by omega))
                  have t124 : (σ119 387 11).toInt = (σ114 387 11).toInt := congrArg Int32.toInt (u119 387 11 (by omega))
                  refine lv_aload_n hx hb dX12_next_153 rfl (lv_at hl 1 rfl) ?_
                  refine lv_dup hx hb dX12_next_154 rfl ?_
                  refine fg_12_4 (k := 387) hx hb hts in_X12_next_12 hown hK hP (by decide) (by decide) (hts _ lk_X12_next_21) dX12_next_155 ?_
                  refine r_iconst hx hb dX12_next_158 (by decide) (fun z125 ez125 => ?_)
                  refine r_iadd hx hb dX12_next_159 (by omega) (fun z126 ez126 => ?_)
                  refine fp_12_4 (k := 387) hx hb hts in_X12_next_12 hown hK hP (by decide) (by decide) (hts _ lk_X12_next_21) hI hR hS (by omega) dX12_next_160 (fun σ127 H127 locs127 u127 v127 hR hP hS => ?_)
                  have hF := hF.puts u127 0 rfl (by decide) (by decide) (by decide) (by decide)
                  have t128 : (σ127 387 3).toInt = (σ119 387 3).toInt := congrArg Int32.toInt (u127 387 3 (by omega))
                  have t129 : (σ127 387 13).toInt = (σ119 387 13).toInt := congrArg Int32.toInt (u127 387 13 (by omega))
                  have t130 : (σ127 387 5).toInt = (σ119 387 5).toInt := congrArg Int32.toInt (u127 387 5 (by omega))
                  have t131 : (σ127 387 11).toInt = (σ119 387 11).toInt := congrArg Int32.toInt (u127 387 11 (by omega))
                  exact r_vret hx hb hr hK hP hS hk dX12_next_163 (show P_X12_next σ0 τ0 σ127 τ from ⟨hR, hF, hFL, by omega, by omega, by omega⟩)
                · refine r_iconst hx hb dX12_next_140 (by decide) (fun z132 ez132 => ?_)
                  refine lv_goto (tgt := 145) hx hb dX12_next_141 (by decide) ?_
                  refine fp_12_11 (k := 387) hx hb hts in_X12_next_12 hown hK hP (by decide) (by decide) (hts _ lk_X12_next_159) hI hR hS dX12_next_145 (fun σ133 H133 locs133 u133 v133 hR hP hS => ?_)
                  have hF := hF.puts u133 1 rfl (by decide) (by decide) (by decide) (by decide)
                  have t134 : (σ133 387 4).toInt = (σ 387 4).toInt := congrArg Int32.toInt (u133 387 4 (by omega))
                  have t135 : (σ133 387 3).toInt = (σ 387 3).toInt := congrArg Int32.toInt (u133 387 3 (by omega))
                  have t136 : (σ133 387 13).toInt = (σ 387 13).toInt := congrArg Int32.toInt (u133 387 13 (by omega))
                  have t137 : (σ133 387 5).toInt = (σ 387 5).toInt := congrArg Int32.toInt (u133 387 5 (by omega))
                  refine lv_aload_n hx hb dX12_next_148 rfl (lv_at hl 1 rfl) ?_
                  refine lv_iload_n hx hb dX12_next_149 rfl (lv_at hl 0 rfl) ?_
                  refine fp_12_14 (k := 387) hx hb hts in_X12_next_12 hown hK hP (by decide) (by decide) (hts _ lk_X12_next_169) hI hR hS dX12_next_150 (fun σ138 H138 locs138 u138 v138 hR hP hS => ?_)
                  have hF := hF.puts u138 1 rfl (by decide) (by decide) (by decide) (by decide)
                  have t139 : (σ138 387 4).toInt = (σ133 387 4).toInt := congrArg Int32.toInt (u138 387 4 (by omega))
                  have t140 : (σ138 387 3).toInt = (σ133 387 3).toInt := congrArg Int32.toInt (u138 387 3 (by omega))
                  have t141 : (σ138 387 13).toInt = (σ133 387 13).toInt := congrArg Int32.toInt (u138 387 13 (by omega))
                  have t142 : (σ138 387 5).toInt = (σ133 387 5).toInt := congrArg Int32.toInt (u138 387 5 (by omega))
                  have t143 : (σ138 387 11).toInt = (σ133 387 11).toInt := congrArg Int32.toInt (u138 387 11 (by omega))
                  refine lv_aload_n hx hb dX12_next_153 rfl (lv_at hl 1 rfl) ?_
                  refine lv_dup hx hb dX12_next_154 rfl ?_
                  refine fg_12_4 (k := 387) hx hb hts in_X12_next_12 hown hK hP (by decide) (by decide) (hts _ lk_X12_next_21) dX12_next_155 ?_
                  refine r_iconst hx hb dX12_next_158 (by decide) (fun z144 ez144 => ?_)
                  refine r_iadd hx hb dX12_next_159 (by omega) (fun z145 ez145 => ?_)
                  refine fp_12_4 (k := 387) hx hb hts in_X12_next_12 hown hK hP (by decide) (by decide) (hts _ lk_X12_next_21) hI hR hS (by omega) dX12_next_160 (fun σ146 H146 locs146 u146 v146 hR hP hS => ?_)
                  have hF := hF.puts u146 0 rfl (by decide) (by decide) (by decide) (by decide)
                  have t147 : (σ146 387 3).toInt = (σ138 387 3).toInt := congrArg Int32.toInt (u146 387 3 (by omega))
                  have t148 : (σ146 387 13).toInt = (σ138 387 13).toInt := congrArg Int32.toInt (u146 387 13 (by omega))
                  have t149 : (σ146 387 5).toInt = (σ138 387 5).toInt := congrArg Int32.toInt (u146 387 5 (by omega))
                  have t150 : (σ146 387 11).toInt = (σ138 387 11).toInt := congrArg Int32.toInt (u146 387 11 (by omega))
                  exact r_vret hx hb hr hK hP hS hk dX12_next_163 (show P_X12_next σ0 τ0 σ146 τ from ⟨hR, hF, hFL, by omega, by omega, by omega⟩)
  · refine lv_aload_n hx hb dX12_next_89 rfl (lv_at hl 1 rfl) ?_
    refine r_iconst hx hb dX12_next_90 (by decide) (fun z151 ez151 => ?_)
    refine fp_12_11 (k := 387) hx hb hts in_X12_next_12 hown hK hP (by decide) (by decide) (hts _ lk_X12_next_159) hI hR hS dX12_next_91 (fun σ152 H152 locs152 u152 v152 hR hP hS => ?_)
    have hF := hF.puts u152 1 rfl (by decide) (by decide) (by decide) (by decide)
    have t153 : (σ152 387 4).toInt = (σ 387 4).toInt := congrArg Int32.toInt (u152 387 4 (by omega))
    have t154 : (σ152 387 3).toInt = (σ 387 3).toInt := congrArg Int32.toInt (u152 387 3 (by omega))
    have t155 : (σ152 387 13).toInt = (σ 387 13).toInt := congrArg Int32.toInt (u152 387 13 (by omega))
    have t156 : (σ152 387 5).toInt = (σ 387 5).toInt := congrArg Int32.toInt (u152 387 5 (by omega))
    exact r_vret hx hb hr hK hP hS hk dX12_next_94 (show P_X12_next σ0 τ0 σ152 τ from ⟨hR, hF, hFL, by omega, by omega, by omega⟩)
set_option maxHeartbeats 4000000 in
theorem B_X12_next_181 (p : Program) (l : Launch) (e : Env) (s : State) (m : MethodId) (args : Array Value) (below : List Frame) (meth : Method) (c : Code) (D : va_G) (cA : Nat → ClassId) (ad : Nat → Nat) (σ0 : Nat → Nat → Int32) (τ0 : Nat → Nat → Int64)  (n : Nat) (C : Cy p s m args meth c cX12_next 4 wsX12_next RX12 D cA ad none)  (K0 : J_X12_next_0 p l e s m args below meth c D cA ad σ0 τ0 n) (K80 : J_X12_next_80 p l e s m args below meth c D cA ad σ0 τ0 n) (K181 : J_X12_next_181 p l e s m args below meth c D cA ad σ0 τ0 n) (K221 : J_X12_next_221 p l e s m args below meth c D cA ad σ0 τ0 n) (K248 : J_X12_next_248 p l e s m args below meth c D cA ad σ0 τ0 n) : J_X12_next_181 p l e s m args below meth c D cA ad σ0 τ0 (n + 1) := by
  obtain ⟨hx, hb, hml, hown, hts, hK, hk, hr, hI, hN⟩ := C
  intro σ τ H locs x1 x2 x3 ls hR hF hFL hP hS hc0 hc1 hc2 hc3 hc4 hc5 hi0 hl hm
  refine lv_aload_n hx hb dX12_next_181 rfl (lv_at hl 0 rfl) ?_
  refine r_cVi (k := 387) (As := []) (rest := []) ⟨hx, hb, hml, hown, hts⟩ hK hP hN hS (c_X12_peek l D cA ad hI σ τ hR) (cwV 0 hts gX12_next_X12_peek rfl rfl rfl (by decide +kernel) ⟨by decide, by decide⟩) (rv_M hK hP (by decide) (by decide)) rfl hl.1 rfl (Nat.le_of_ble_eq_true rfl) dX12_next_182 (Nat.zero_le _) (Nat.zero_le _) (fun r1 u1 H1 locs1 hp1 hP hS => ?_)
  obtain ⟨σ1, τ1⟩ := u1
  obtain ⟨hR, f1, fL1, hq1, hp1_0⟩ : P_X12_peek σ τ r1 σ1 τ1 := hp1
  have hP : va_P D vwCl (gw cA ad σ1 τ1) H1 := hP
  obtain rfl := FrL.nil fL1
  obtain rfl := Fr.nil f1
  refine r_cSi (As := [.int r1]) (rest := []) ⟨hx, hb, hml, hown, hts⟩ hK hP hN hS (c_X12_isSmall l D cA ad hI σ τ hR r1 (by omega)) (va_cwS 1 hts gX12_next_X12_isSmall rfl rfl rfl (by decide +kernel) ⟨by decide, by decide⟩) rfl hl.1 rfl (Nat.le_of_ble_eq_true rfl) dX12_next_185 (Nat.zero_le _) (Nat.zero_le _) (fun r2 u2 H2 locs2 hp2 hP hS => ?_)
  obtain ⟨σ2, τ2⟩ := u2
  obtain ⟨hR, f2, fL2, hq2, hp2_0⟩ : P_X12_isSmall σ τ r1 r2 σ2 τ2 := hp2
  have hP : va_P D vwCl (gw cA ad σ2 τ2) H2 := hP
  obtain rfl := FrL.nil fL2
  obtain rfl := Fr.nil f2
  refine r_if_ne (tgt := 201) hx hb dX12_next_188 (by decide) (fun c3 => ?_) (fun c3 => ?_)
  · refine lv_iload_n hx hb dX12_next_201 rfl (lv_at hl 3 rfl) ?_
    refine r_if_eq (tgt := 220) hx hb dX12_next_202 (by decide) (fun c4 => ?_) (fun c4 => ?_)
    · refine r_iconst hx hb dX12_next_220 (by decide) (fun z5 ez5 => ?_)
      exact K221 σ τ H2 locs2 x1 x2 x3 z5 ls hR hF hFL hP hS (by omega) (by omega) (by omega) (by omega) (by omega) (by omega) (by omega) (by omega) (by omega) (lv_sub hl [0, 1, 2, 3] rfl) (by omega)
    · refine lv_aload_n hx hb dX12_next_205 rfl (lv_at hl 0 rfl) ?_
      refine r_cVi (k := 387) (As := []) (rest := []) ⟨hx, hb, hml, hown, hts⟩ hK hP hN hS (c_X12_peek l D cA ad hI σ τ hR) (cwV 0 hts gX12_next_X12_peek rfl rfl rfl (by decide +kernel) ⟨by decide, by decide⟩) (rv_M hK hP (by decide) (by decide)) rfl hl.1 rfl (Nat.le_of_ble_eq_true rfl) dX12_next_206 (Nat.zero_le _) (Nat.zero_le _) (fun r6 u6 H6 locs6 hp6 hP hS => ?_)
      obtain ⟨σ6, τ6⟩ := u6
      obtain ⟨hR, f6, fL6, hq6, hp6_0⟩ : P_X12_peek σ τ r6 σ6 τ6 := hp6
      have hP : va_P D vwCl (gw cA ad σ6 τ6) H6 := hP
      obtain rfl := FrL.nil fL6
      obtain rfl := Fr.nil f6
      refine r_cSi (As := [.int r6]) (rest := []) ⟨hx, hb, hml, hown, hts⟩ hK hP hN hS (c_X12_isSmall l D cA ad hI σ τ hR r6 (by omega)) (va_cwS 1 hts gX12_next_X12_isSmall rfl rfl rfl (by decide +kernel) ⟨by decide, by decide⟩) rfl hl.1 rfl (Nat.le_of_ble_eq_true rfl) dX12_next_209 (Nat.zero_le _) (Nat.zero_le _) (fun r7 u7 H7 locs7 hp7 hP hS => ?_)
      obtain ⟨σ7, τ7⟩ := u7
      obtain ⟨hR, f7, fL7, hq7, hp7_0⟩ : P_X12_isSmall σ τ r6 r7 σ7 τ7 := hp7
      have hP : va_P D vwCl (gw cA ad σ7 τ7) H7 := hP
      obtain rfl := FrL.nil fL7
      obtain rfl := Fr.nil f7
      refine lv_iload_n hx hb dX12_next_212 rfl (lv_at hl 2 rfl) ?_
      refine r_icmp_ne (tgt := 220) hx hb dX12_next_213 (by decide) (fun c8 => ?_) (fun c8 => ?_)
      · refine r_iconst hx hb dX12_next_220 (by decide) (fun z9 ez9 => ?_)
        exact K221 σ τ H7 locs7 x1 x2 x3 z9 ls hR hF hFL hP hS (by omega) (by omega) (by omega) (by omega) (by omega) (by omega) (by omega) (by omega) (by omega) (lv_sub hl [0, 1, 2, 3] rfl) (by omega)
      · refine r_iconst hx hb dX12_next_216 (by decide) (fun z10 ez10 => ?_)
        refine lv_goto (tgt := 221) hx hb dX12_next_217 (by decide) ?_
        exact K221 σ τ H7 locs7 x1 x2 x3 z10 ls hR hF hFL hP hS (by omega) (by omega) (by omega) (by omega) (by omega) (by omega) (by omega) (by omega) (by omega) (lv_sub hl [0, 1, 2, 3] rfl) (by omega)
  · refine lv_aload_n hx hb dX12_next_191 rfl (lv_at hl 0 rfl) ?_
    refine r_cVi (k := 387) (As := []) (rest := []) ⟨hx, hb, hml, hown, hts⟩ hK hP hN hS (c_X12_peek l D cA ad hI σ τ hR) (cwV 0 hts gX12_next_X12_peek rfl rfl rfl (by decide +kernel) ⟨by decide, by decide⟩) (rv_M hK hP (by decide) (by decide)) rfl hl.1 rfl (Nat.le_of_ble_eq_true rfl) dX12_next_192 (Nat.zero_le _) (Nat.zero_le _) (fun r11 u11 H11 locs11 hp11 hP hS => ?_)
    obtain ⟨σ11, τ11⟩ := u11
    obtain ⟨hR, f11, fL11, hq11, hp11_0⟩ : P_X12_peek σ τ r11 σ11 τ11 := hp11
    have hP : va_P D vwCl (gw cA ad σ11 τ11) H11 := hP
    obtain rfl := FrL.nil fL11
    obtain rfl := Fr.nil f11
    refine r_cSi (As := [.int r11]) (rest := []) ⟨hx, hb, hml, hown, hts⟩ hK hP hN hS (c_X12_isDigit l D cA ad hI σ τ hR r11 (by omega)) (va_cwS 1 hts gX12_next_X12_isDigit rfl rfl rfl (by decide +kernel) ⟨by decide, by decide⟩) rfl hl.1 rfl (Nat.le_of_ble_eq_true rfl) dX12_next_195 (Nat.zero_le _) (Nat.zero_le _) (fun r12 u12 H12 locs12 hp12 hP hS => ?_)
    obtain ⟨σ12, τ12⟩ := u12
    obtain ⟨hR, f12, fL12, hq12, hp12_0⟩ : P_X12_isDigit σ τ r11 r12 σ12 τ12 := hp12
    have hP : va_P D vwCl (gw cA ad σ12 τ12) H12 := hP
    obtain rfl := FrL.nil fL12
    obtain rfl := Fr.nil f12
    refine r_if_eq (tgt := 298) hx hb dX12_next_198 (by decide) (fun c13 => ?_) (fun c13 => ?_)
    · refine lv_aload_n hx hb dX12_next_298 rfl (lv_at hl 0 rfl) ?_
      refine lv_iload_n hx hb dX12_next_299 rfl (lv_at hl 3 rfl) ?_
      refine r_if_eq (tgt := 320) hx hb dX12_next_300 (by decide) (fun c14 => ?_) (fun c14 => ?_)
      · refine r_iconst hx hb dX12_next_320 (by decide) (fun z15 ez15 => ?_)
        refine lv_goto (tgt := 333) hx hb dX12_next_321 (by decide) ?_
        refine fp_12_11 (k := 387) hx hb hts in_X12_next_12 hown hK hP (by decide) (by decide) (hts _ lk_X12_next_159) hI hR hS dX12_next_333 (fun σ16 H16 locs16 u16 v16 hR hP hS => ?_)
        have hF := hF.puts u16 1 rfl (by decide) (by decide) (by decide) (by decide)
        have t17 : (σ16 387 4).toInt = (σ 387 4).toInt := congrArg Int32.toInt (u16 387 4 (by omega))
        have t18 : (σ16 387 3).toInt = (σ 387 3).toInt := congrArg Int32.toInt (u16 387 3 (by omega))
        have t19 : (σ16 387 13).toInt = (σ 387 13).toInt := congrArg Int32.toInt (u16 387 13 (by omega))
        have t20 : (σ16 387 5).toInt = (σ 387 5).toInt := congrArg Int32.toInt (u16 387 5 (by omega))
        exact r_vret hx hb hr hK hP hS hk dX12_next_336 (show P_X12_next σ0 τ0 σ16 τ from ⟨hR, hF, hFL, by omega, by omega, by omega⟩)
      · refine lv_aload_n hx hb dX12_next_303 rfl (lv_at hl 0 rfl) ?_
        refine fg_12_13 (k := 387) hx hb hts in_X12_next_12 hown hK hP (by decide) (by decide) (hts _ lk_X12_next_156) dX12_next_304 ?_
        refine lv_iload_n hx hb dX12_next_307 rfl (lv_at hl 2 rfl) ?_
        refine r_if_eq (tgt := 316) hx hb dX12_next_308 (by decide) (fun c21 => ?_) (fun c21 => ?_)
        · refine r_iconst hx hb dX12_next_316 (by decide) (fun z22 ez22 => ?_)
          refine r_icmp_le (tgt := 324) hx hb dX12_next_317 (by decide) (fun c23 => ?_) (fun c23 => ?_)
          · refine lv_iload_n hx hb dX12_next_324 rfl (lv_at hl 2 rfl) ?_
            refine r_if_eq (tgt := 332) hx hb dX12_next_325 (by decide) (fun c24 => ?_) (fun c24 => ?_)
            · refine r_iconst hx hb dX12_next_332 (by decide) (fun z25 ez25 => ?_)
              refine fp_12_11 (k := 387) hx hb hts in_X12_next_12 hown hK hP (by decide) (by decide) (hts _ lk_X12_next_159) hI hR hS dX12_next_333 (fun σ26 H26 locs26 u26 v26 hR hP hS => ?_)
              have hF := hF.puts u26 1 rfl (by decide) (by decide) (by decide) (by decide)
              have t27 : (σ26 387 4).toInt = (σ 387 4).toInt := congrArg Int32.toInt (u26 387 4 (by omega))
              have t28 : (σ26 387 3).toInt = (σ 387 3).toInt := congrArg Int32.toInt (u26 387 3 (by omega))
              have t29 : (σ26 387 13).toInt = (σ 387 13).toInt := congrArg Int32.toInt (u26 387 13 (by omega))
              have t30 : (σ26 387 5).toInt = (σ 387 5).toInt := congrArg Int32.toInt (u26 387 5 (by omega))
              exact r_vret hx hb hr hK hP hS hk dX12_next_336 (show P_X12_next σ0 τ0 σ26 τ from ⟨hR, hF, hFL, by omega, by omega, by omega⟩)
            · exfalso; omega
          · refine r_iconst hx hb dX12_next_320 (by decide) (fun z31 ez31 => ?_)
            refine lv_goto (tgt := 333) hx hb dX12_next_321 (by decide) ?_
            refine fp_12_11 (k := 387) hx hb hts in_X12_next_12 hown hK hP (by decide) (by decide) (hts _ lk_X12_next_159) hI hR hS dX12_next_333 (fun σ32 H32 locs32 u32 v32 hR hP hS => ?_)
            have hF := hF.puts u32 1 rfl (by decide) (by decide) (by decide) (by decide)
            have t33 : (σ32 387 4).toInt = (σ 387 4).toInt := congrArg Int32.toInt (u32 387 4 (by omega))
            have t34 : (σ32 387 3).toInt = (σ 387 3).toInt := congrArg Int32.toInt (u32 387 3 (by omega))
            have t35 : (σ32 387 13).toInt = (σ 387 13).toInt := congrArg Int32.toInt (u32 387 13 (by omega))
            have t36 : (σ32 387 5).toInt = (σ 387 5).toInt := congrArg Int32.toInt (u32 387 5 (by omega))
            exact r_vret hx hb hr hK hP hS hk dX12_next_336 (show P_X12_next σ0 τ0 σ32 τ from ⟨hR, hF, hFL, by omega, by omega, by omega⟩)
        · refine r_bipush hx hb dX12_next_311 (by decide) (fun z37 ez37 => ?_)
          refine lv_goto (tgt := 317) hx hb dX12_next_313 (by decide) ?_
          refine r_icmp_le (tgt := 324) hx hb dX12_next_317 (by decide) (fun c38 => ?_) (fun c38 => ?_)
          · refine lv_iload_n hx hb dX12_next_324 rfl (lv_at hl 2 rfl) ?_
            refine r_if_eq (tgt := 332) hx hb dX12_next_325 (by decide) (fun c39 => ?_) (fun c39 => ?_)
            · exfalso; omega
            · refine r_iconst hx hb dX12_next_328 (by decide) (fun z40 ez40 => ?_)
              refine lv_goto (tgt := 333) hx hb dX12_next_329 (by decide) ?_
              refine fp_12_11 (k := 387) hx hb hts in_X12_next_12 hown hK hP (by decide) (by decide) (hts _ lk_X12_next_159) hI hR hS dX12_next_333 (fun σ41 H41 locs41 u41 v41 hR hP hS => ?_)
              have hF := hF.puts u41 1 rfl (by decide) (by decide) (by decide) (by decide)
              have t42 : (σ41 387 4).toInt = (σ 387 4).toInt := congrArg Int32.toInt (u41 387 4 (by omega))
              have t43 : (σ41 387 3).toInt = (σ 387 3).toInt := congrArg Int32.toInt (u41 387 3 (by omega))
              have t44 : (σ41 387 13).toInt = (σ 387 13).toInt := congrArg Int32.toInt (u41 387 13 (by omega))
              have t45 : (σ41 387 5).toInt = (σ 387 5).toInt := congrArg Int32.toInt (u41 387 5 (by omega))
              exact r_vret hx hb hr hK hP hS hk dX12_next_336 (show P_X12_next σ0 τ0 σ41 τ from ⟨hR, hF, hFL, by omega, by omega, by omega⟩)
          · refine r_iconst hx hb dX12_next_320 (by decide) (fun z46 ez46 => ?_)
            refine lv_goto (tgt := 333) hx hb dX12_next_321 (by decide) ?_
            refine fp_12_11 (k := 387) hx hb hts in_X12_next_12 hown hK hP (by decide) (by decide) (hts _ lk_X12_next_159) hI hR hS dX12_next_333 (fun σ47 H47 locs47 u47 v47 hR hP hS => ?_)
            have hF := hF.puts u47 1 rfl (by decide) (by decide) (by decide) (by decide)
            have t48 : (σ47 387 4).toInt = (σ 387 4).toInt := congrArg Int32.toInt (u47 387 4 (by omega))
            have t49 : (σ47 387 3).toInt = (σ 387 3).toInt := congrArg Int32.toInt (u47 387 3 (by omega))
            have t50 : (σ47 387 13).toInt = (σ 387 13).toInt := congrArg Int32.toInt (u47 387 13 (by omega))
            have t51 : (σ47 387 5).toInt = (σ 387 5).toInt := congrArg Int32.toInt (u47 387 5 (by omega))
            exact r_vret hx hb hr hK hP hS hk dX12_next_336 (show P_X12_next σ0 τ0 σ47 τ from ⟨hR, hF, hFL, by omega, by omega, by omega⟩)
    · refine lv_iload_n hx hb dX12_next_201 rfl (lv_at hl 3 rfl) ?_
      refine r_if_eq (tgt := 220) hx hb dX12_next_202 (by decide) (fun c52 => ?_) (fun c52 => ?_)
      · refine r_iconst hx hb dX12_next_220 (by decide) (fun z53 ez53 => ?_)
        exact K221 σ τ H12 locs12 x1 x2 x3 z53 ls hR hF hFL hP hS (by omega) (by omega) (by omega) (by omega) (by omega) (by omega) (by omega) (by omega) (by omega) (lv_sub hl [0, 1, 2, 3] rfl) (by omega)
      · refine lv_aload_n hx hb dX12_next_205 rfl (lv_at hl 0 rfl) ?_
        refine r_cVi (k := 387) (As := []) (rest := []) ⟨hx, hb, hml, hown, hts⟩ hK hP hN hS (c_X12_peek l D cA ad hI σ τ hR) (cwV 0 hts gX12_next_X12_peek rfl rfl rfl (by decide +kernel) ⟨by decide, by decide⟩) (rv_M hK hP (by decide) (by decide)) rfl hl.1 rfl (Nat.le_of_ble_eq_true rfl) dX12_next_206 (Nat.zero_le _) (Nat.zero_le _) (fun r54 u54 H54 locs54 hp54 hP hS => ?_)
        obtain ⟨σ54, τ54⟩ := u54
        obtain ⟨hR, f54, fL54, hq54, hp54_0⟩ : P_X12_peek σ τ r54 σ54 τ54 := hp54
        have hP : va_P D vwCl (gw cA ad σ54 τ54) H54 := hP
        obtain rfl := FrL.nil fL54
        obtain rfl := Fr.nil f54
        refine r_cSi (As := [.int r54]) (rest := []) ⟨hx, hb, hml, hown, hts⟩ hK hP hN hS (c_X12_isSmall l D cA ad hI σ τ hR r54 (by omega)) (va_cwS 1 hts gX12_next_X12_isSmall rfl rfl rfl (by decide +kernel) ⟨by decide, by decide⟩) rfl hl.1 rfl (Nat.le_of_ble_eq_true rfl) dX12_next_209 (Nat.zero_le _) (Nat.zero_le _) (fun r55 u55 H55 locs55 hp55 hP hS => ?_)
        obtain ⟨σ55, τ55⟩ := u55
        obtain ⟨hR, f55, fL55, hq55, hp55_0⟩ : P_X12_isSmall σ τ r54 r55 σ55 τ55 := hp55
        have hP : va_P D vwCl (gw cA ad σ55 τ55) H55 := hP
        obtain rfl := FrL.nil fL55
        obtain rfl := Fr.nil f55
        refine lv_iload_n hx hb dX12_next_212 rfl (lv_at hl 2 rfl) ?_
        refine r_icmp_ne (tgt := 220) hx hb dX12_next_213 (by decide) (fun c56 => ?_) (fun c56 => ?_)
        · refine r_iconst hx hb dX12_next_220 (by decide) (fun z57 ez57 => ?_)
          exact K221 σ τ H55 locs55 x1 x2 x3 z57 ls hR hF hFL hP hS (by omega) (by omega) (by omega) (by omega) (by omega) (by omega) (by omega) (by omega) (by omega) (lv_sub hl [0, 1, 2, 3] rfl) (by omega)
        · refine r_iconst hx hb dX12_next_216 (by decide) (fun z58 ez58 => ?_)
          refine lv_goto (tgt := 221) hx hb dX12_next_217 (by decide) ?_
          exact K221 σ τ H55 locs55 x1 x2 x3 z58 ls hR hF hFL hP hS (by omega) (by omega) (by omega) (by omega) (by omega) (by omega) (by omega) (by omega) (by omega) (lv_sub hl [0, 1, 2, 3] rfl) (by omega)
set_option maxHeartbeats 4000000 in
theorem B_X12_next_221 (p : Program) (l : Launch) (e : Env) (s : State) (m : MethodId) (args : Array Value) (below : List Frame) (meth : Method) (c : Code) (D : va_G) (cA : Nat → ClassId) (ad : Nat → Nat) (σ0 : Nat → Nat → Int32) (τ0 : Nat → Nat → Int64)  (n : Nat) (C : Cy p s m args meth c cX12_next 4 wsX12_next RX12 D cA ad none)  (K0 : J_X12_next_0 p l e s m args below meth c D cA ad σ0 τ0 n) (K80 : J_X12_next_80 p l e s m args below meth c D cA ad σ0 τ0 n) (K181 : J_X12_next_181 p l e s m args below meth c D cA ad σ0 τ0 n) (K221 : J_X12_next_221 p l e s m args below meth c D cA ad σ0 τ0 n) (K248 : J_X12_next_248 p l e s m args below meth c D cA ad σ0 τ0 n) : J_X12_next_221 p l e s m args below meth c D cA ad σ0 τ0 (n + 1) := by
  obtain ⟨hx, hb, hml, hown, hts, hK, hk, hr, hI, hN⟩ := C
  intro σ τ H locs x1 x2 x3 w0 ls hR hF hFL hP hS hc0 hc1 hc2 hc3 hc4 hc5 hc6 hi0 hi1 hl hm
  refine lv_istore_n (lv' := [(3, .int w0), (0, .ref (ad 387)), (1, .int x1), (2, .int x2)]) hx hb dX12_next_221 rfl hl (by decide) rfl (fun ls hl => ?_)
  refine lv_aload_n hx hb dX12_next_222 rfl (lv_at hl 1 rfl) ?_
  refine fg_12_13 (k := 387) hx hb hts in_X12_next_12 hown hK hP (by decide) (by decide) (hts _ lk_X12_next_156) dX12_next_223 ?_
  refine r_bipush hx hb dX12_next_226 (by decide) (fun z1 ez1 => ?_)
  refine r_icmp_ge (tgt := 248) hx hb dX12_next_228 (by decide) (fun c2 => ?_) (fun c2 => ?_)
  · exact K248 σ τ H locs x1 x2 w0 ls hR hF hFL hP hS (by omega) (by omega) (by omega) (by omega) (by omega) (by omega) (by omega) (by omega) (lv_sub hl [1, 2, 3, 0] rfl) (by omega)
  · refine lv_aload_n hx hb dX12_next_231 rfl (lv_at hl 1 rfl) ?_
    refine lv_aload_n hx hb dX12_next_232 rfl (lv_at hl 1 rfl) ?_
    refine fg_12_17 (k := 387) hx hb hts in_X12_next_12 hown hK hP (by decide) (by decide) (hts _ lk_X12_next_172) dX12_next_233 ?_
    refine r_bipush hx hb dX12_next_236 (by decide) (fun z3 ez3 => ?_)
    refine lv_lshl hx hb dX12_next_238 rfl ?_
    refine lv_aload_n hx hb dX12_next_239 rfl (lv_at hl 1 rfl) ?_
    refine r_cVi (k := 387) (As := []) (rest := [.long ((τ 387 17) <<< (z3.toInt64 &&& 63)), .ref (ad 387)]) ⟨hx, hb, hml, hown, hts⟩ hK hP hN hS (c_X12_peek l D cA ad hI σ τ hR) (cwV 0 hts gX12_next_X12_peek rfl rfl rfl (by decide +kernel) ⟨by decide, by decide⟩) (rv_M hK hP (by decide) (by decide)) rfl hl.1 rfl (Nat.le_of_ble_eq_true rfl) dX12_next_240 (Nat.zero_le _) (Nat.zero_le _) (fun r4 u4 H4 locs4 hp4 hP hS => ?_)
    obtain ⟨σ4, τ4⟩ := u4
    obtain ⟨hR, f4, fL4, hq4, hp4_0⟩ : P_X12_peek σ τ r4 σ4 τ4 := hp4
    have hP : va_P D vwCl (gw cA ad σ4 τ4) H4 := hP
    obtain rfl := FrL.nil fL4
    obtain rfl := Fr.nil f4
    refine lv_i2l hx hb dX12_next_243 rfl ?_
    refine lv_lor hx hb dX12_next_244 ?_
    refine fpL_12_17 (k := 387) hx hb hts in_X12_next_12 hown hK hP (by decide) (by decide) (hts _ lk_X12_next_172) hI hS dX12_next_245 (fun τ5 H5 locs5 uL5 vL5 hP hS => ?_)
    have hFL := hFL.puts uL5 0 rfl (by decide) (by decide) (by decide) (by decide)
    exact K248 σ τ5 H5 locs5 x1 x2 w0 ls hR hF hFL hP hS (by omega) (by omega) (by omega) (by omega) (by omega) (by omega) (by omega) (by omega) (lv_sub hl [1, 2, 3, 0] rfl) (by omega)
set_option maxHeartbeats 4000000 in
theorem B_X12_next_248 (p : Program) (l : Launch) (e : Env) (s : State) (m : MethodId) (args : Array Value) (below : List Frame) (meth : Method) (c : Code) (D : va_G) (cA : Nat → ClassId) (ad : Nat → Nat) (σ0 : Nat → Nat → Int32) (τ0 : Nat → Nat → Int64)  (n : Nat) (C : Cy p s m args meth c cX12_next 4 wsX12_next RX12 D cA ad none)  (K0 : J_X12_next_0 p l e s m args below meth c D cA ad σ0 τ0 n) (K80 : J_X12_next_80 p l e s m args below meth c D cA ad σ0 τ0 n) (K181 : J_X12_next_181 p l e s m args below meth c D cA ad σ0 τ0 n) (K221 : J_X12_next_221 p l e s m args below meth c D cA ad σ0 τ0 n) (K248 : J_X12_next_248 p l e s m args below meth c D cA ad σ0 τ0 n) : J_X12_next_248 p l e s m args below meth c D cA ad σ0 τ0 (n + 1) := by
  obtain ⟨hx, hb, hml, hown, hts, hK, hk, hr, hI, hN⟩ := C
  intro σ τ H locs x1 x2 x3 ls hR hF hFL hP hS hc0 hc1 hc2 hc3 hc4 hc5 hi0 hi1 hl hm
  refine lv_aload_n hx hb dX12_next_248 rfl (lv_at hl 0 rfl) ?_
  refine fg_12_13 (k := 387) hx hb hts in_X12_next_12 hown hK hP (by decide) (by decide) (hts _ lk_X12_next_156) dX12_next_249 ?_
  refine r_iconst hx hb dX12_next_252 (by decide) (fun z1 ez1 => ?_)
  refine r_icmp_ge (tgt := 275) hx hb dX12_next_253 (by decide) (fun c2 => ?_) (fun c2 => ?_)
  · refine lv_aload_n hx hb dX12_next_275 rfl (lv_at hl 0 rfl) ?_
    refine lv_dup hx hb dX12_next_276 rfl ?_
    refine fg_12_13 (k := 387) hx hb hts in_X12_next_12 hown hK hP (by decide) (by decide) (hts _ lk_X12_next_156) dX12_next_277 ?_
    refine r_iconst hx hb dX12_next_280 (by decide) (fun z3 ez3 => ?_)
    refine r_iaddU hx hb dX12_next_281 (fun z4 => ?_)
    refine fp_12_13 (k := 387) hx hb hts in_X12_next_12 hown hK hP (by decide) (by decide) (hts _ lk_X12_next_156) hI hR hS dX12_next_282 (fun σ5 H5 locs5 u5 v5 hR hP hS => ?_)
    have hF := hF.puts u5 1 rfl (by decide) (by decide) (by decide) (by decide)
    have t6 : (σ5 387 4).toInt = (σ 387 4).toInt := congrArg Int32.toInt (u5 387 4 (by omega))
    have t7 : (σ5 387 3).toInt = (σ 387 3).toInt := congrArg Int32.toInt (u5 387 3 (by omega))
    have t8 : (σ5 387 11).toInt = (σ 387 11).toInt := congrArg Int32.toInt (u5 387 11 (by omega))
    have t9 : (σ5 387 5).toInt = (σ 387 5).toInt := congrArg Int32.toInt (u5 387 5 (by omega))
    refine lv_aload_n hx hb dX12_next_285 rfl (lv_at hl 0 rfl) ?_
    refine lv_dup hx hb dX12_next_286 rfl ?_
    refine fg_12_4 (k := 387) hx hb hts in_X12_next_12 hown hK hP (by decide) (by decide) (hts _ lk_X12_next_21) dX12_next_287 ?_
    refine r_iconst hx hb dX12_next_290 (by decide) (fun z10 ez10 => ?_)
    refine r_iadd hx hb dX12_next_291 (by omega) (fun z11 ez11 => ?_)
    refine fp_12_4 (k := 387) hx hb hts in_X12_next_12 hown hK hP (by decide) (by decide) (hts _ lk_X12_next_21) hI hR hS (by omega) dX12_next_292 (fun σ12 H12 locs12 u12 v12 hR hP hS => ?_)
    have hF := hF.puts u12 0 rfl (by decide) (by decide) (by decide) (by decide)
    have t13 : (σ12 387 3).toInt = (σ5 387 3).toInt := congrArg Int32.toInt (u12 387 3 (by omega))
    have t14 : (σ12 387 11).toInt = (σ5 387 11).toInt := congrArg Int32.toInt (u12 387 11 (by omega))
    have t15 : (σ12 387 5).toInt = (σ5 387 5).toInt := congrArg Int32.toInt (u12 387 5 (by omega))
    have t16 : (σ12 387 13).toInt = (σ5 387 13).toInt := congrArg Int32.toInt (u12 387 13 (by omega))
    refine lv_goto (tgt := 181) hx hb dX12_next_295 (by decide) ?_
    exact K181 σ12 τ H12 locs12 x1 x2 x3 ls hR hF hFL hP hS (by omega) (by omega) (by omega) (by omega) (by omega) (by omega) (by omega) (lv_sub hl [0, 1, 2, 3] rfl) (by omega)
  · refine lv_aload_n hx hb dX12_next_256 rfl (lv_at hl 0 rfl) ?_
    refine r_bipush hx hb dX12_next_257 (by decide) (fun z17 ez17 => ?_)
    refine lv_aload_n hx hb dX12_next_259 rfl (lv_at hl 0 rfl) ?_
    refine fg_12_14 (k := 387) hx hb hts in_X12_next_12 hown hK hP (by decide) (by decide) (hts _ lk_X12_next_169) dX12_next_260 ?_
    refine r_imulU hx hb dX12_next_263 (fun z18 => ?_)
    refine lv_aload_n hx hb dX12_next_264 rfl (lv_at hl 0 rfl) ?_
    refine r_cVi (k := 387) (As := []) (rest := [.int z18, .ref (ad 387)]) ⟨hx, hb, hml, hown, hts⟩ hK hP hN hS (c_X12_peek l D cA ad hI σ τ hR) (cwV 0 hts gX12_next_X12_peek rfl rfl rfl (by decide +kernel) ⟨by decide, by decide⟩) (rv_M hK hP (by decide) (by decide)) rfl hl.1 rfl (Nat.le_of_ble_eq_true rfl) dX12_next_265 (Nat.zero_le _) (Nat.zero_le _) (fun r19 u19 H19 locs19 hp19 hP hS => ?_)
    obtain ⟨σ19, τ19⟩ := u19
    obtain ⟨hR, f19, fL19, hq19, hp19_0⟩ : P_X12_peek σ τ r19 σ19 τ19 := hp19
    have hP : va_P D vwCl (gw cA ad σ19 τ19) H19 := hP
    obtain rfl := FrL.nil fL19
    obtain rfl := Fr.nil f19
    refine r_iaddU hx hb dX12_next_268 (fun z20 => ?_)
    refine r_bipush hx hb dX12_next_269 (by decide) (fun z21 ez21 => ?_)
    refine r_isubU hx hb dX12_next_271 (fun z22 => ?_)
    refine fp_12_14 (k := 387) hx hb hts in_X12_next_12 hown hK hP (by decide) (by decide) (hts _ lk_X12_next_169) hI hR hS dX12_next_272 (fun σ23 H23 locs23 u23 v23 hR hP hS => ?_)
    have hF := hF.puts u23 1 rfl (by decide) (by decide) (by decide) (by decide)
    have t24 : (σ23 387 4).toInt = (σ 387 4).toInt := congrArg Int32.toInt (u23 387 4 (by omega))
    have t25 : (σ23 387 3).toInt = (σ 387 3).toInt := congrArg Int32.toInt (u23 387 3 (by omega))
    have t26 : (σ23 387 11).toInt = (σ 387 11).toInt := congrArg Int32.toInt (u23 387 11 (by omega))
    have t27 : (σ23 387 13).toInt = (σ 387 13).toInt := congrArg Int32.toInt (u23 387 13 (by omega))
    have t28 : (σ23 387 5).toInt = (σ 387 5).toInt := congrArg Int32.toInt (u23 387 5 (by omega))
    refine lv_aload_n hx hb dX12_next_275 rfl (lv_at hl 0 rfl) ?_
    refine lv_dup hx hb dX12_next_276 rfl ?_
    refine fg_12_13 (k := 387) hx hb hts in_X12_next_12 hown hK hP (by decide) (by decide) (hts _ lk_X12_next_156) dX12_next_277 ?_
    refine r_iconst hx hb dX12_next_280 (by decide) (fun z29 ez29 => ?_)
    have b31 := And.intro (ti_lo (σ23 387 13)) (ti_hi (σ23 387 13))
    refine r_iadd hx hb dX12_next_281 (by omega) (fun z30 ez30 => ?_)
    refine fp_12_13 (k := 387) hx hb hts in_X12_next_12 hown hK hP (by decide) (by decide) (hts _ lk_X12_next_156) hI hR hS dX12_next_282 (fun σ32 H32 locs32 u32 v32 hR hP hS => ?_)
    have hF := hF.puts u32 1 rfl (by decide) (by decide) (by decide) (by decide)
    have t33 : (σ32 387 4).toInt = (σ23 387 4).toInt := congrArg Int32.toInt (u32 387 4 (by omega))
    have t34 : (σ32 387 3).toInt = (σ23 387 3).toInt := congrArg Int32.toInt (u32 387 3 (by omega))
    have t35 : (σ32 387 11).toInt = (σ23 387 11).toInt := congrArg Int32.toInt (u32 387 11 (by omega))
    have t36 : (σ32 387 5).toInt = (σ23 387 5).toInt := congrArg Int32.toInt (u32 387 5 (by omega))
    refine lv_aload_n hx hb dX12_next_285 rfl (lv_at hl 0 rfl) ?_
    refine lv_dup hx hb dX12_next_286 rfl ?_
    refine fg_12_4 (k := 387) hx hb hts in_X12_next_12 hown hK hP (by decide) (by decide) (hts _ lk_X12_next_21) dX12_next_287 ?_
    refine r_iconst hx hb dX12_next_290 (by decide) (fun z37 ez37 => ?_)
    refine r_iadd hx hb dX12_next_291 (by omega) (fun z38 ez38 => ?_)
    refine fp_12_4 (k := 387) hx hb hts in_X12_next_12 hown hK hP (by decide) (by decide) (hts _ lk_X12_next_21) hI hR hS (by omega) dX12_next_292 (fun σ39 H39 locs39 u39 v39 hR hP hS => ?_)
    have hF := hF.puts u39 0 rfl (by decide) (by decide) (by decide) (by decide)
    have t40 : (σ39 387 3).toInt = (σ32 387 3).toInt := congrArg Int32.toInt (u39 387 3 (by omega))
    have t41 : (σ39 387 11).toInt = (σ32 387 11).toInt := congrArg Int32.toInt (u39 387 11 (by omega))
    have t42 : (σ39 387 5).toInt = (σ32 387 5).toInt := congrArg Int32.toInt (u39 387 5 (by omega))
    have t43 : (σ39 387 13).toInt = (σ32 387 13).toInt := congrArg Int32.toInt (u39 387 13 (by omega))
    refine lv_goto (tgt := 181) hx hb dX12_next_295 (by decide) ?_
    exact K181 σ39 τ H39 locs39 x1 x2 x3 ls hR hF hFL hP hS (by omega) (by omega) (by omega) (by omega) (by omega) (by omega) (by omega) (lv_sub hl [0, 1, 2, 3] rfl) (by omega)
theorem A_X12_next (p : Program) (l : Launch) (e : Env) (s : State) (m : MethodId) (args : Array Value) (below : List Frame) (meth : Method) (c : Code) (D : va_G) (cA : Nat → ClassId) (ad : Nat → Nat) (σ0 : Nat → Nat → Int32) (τ0 : Nat → Nat → Int64)  (C : Cy p s m args meth c cX12_next 4 wsX12_next RX12 D cA ad none)  : ∀ n : Nat, J_X12_next_0 p l e s m args below meth c D cA ad σ0 τ0 n ∧ J_X12_next_80 p l e s m args below meth c D cA ad σ0 τ0 n ∧ J_X12_next_181 p l e s m args below meth c D cA ad σ0 τ0 n ∧ J_X12_next_221 p l e s m args below meth c D cA ad σ0 τ0 n ∧ J_X12_next_248 p l e s m args below meth c D cA ad σ0 τ0 n := by
  intro n
  induction n with
  | zero =>
    exact ⟨(by intro σ τ H locs ls hR hF hFL hP hS hc0 hc1 hi0 hl hm; exfalso; omega), (by intro σ τ H locs ls hR hF hFL hP hS hc0 hc1 hc2 hc3 hi0 hl hm; exfalso; omega), (by intro σ τ H locs x1 x2 x3 ls hR hF hFL hP hS hc0 hc1 hc2 hc3 hc4 hc5 hi0 hl hm; exfalso; omega), (by intro σ τ H locs x1 x2 x3 w0 ls hR hF hFL hP hS hc0 hc1 hc2 hc3 hc4 hc5 hc6 hi0 hi1 hl hm; exfalso; omega), (by intro σ τ H locs x1 x2 x3 ls hR hF hFL hP hS hc0 hc1 hc2 hc3 hc4 hc5 hi0 hi1 hl hm; exfalso; omega)⟩
  | succ n ih =>
    exact ⟨B_X12_next_0 p l e s m args below meth c D cA ad σ0 τ0 n C  ih.1 ih.2.1 ih.2.2.1 ih.2.2.2.1 ih.2.2.2.2, B_X12_next_80 p l e s m args below meth c D cA ad σ0 τ0 n C  ih.1 ih.2.1 ih.2.2.1 ih.2.2.2.1 ih.2.2.2.2, B_X12_next_181 p l e s m args below meth c D cA ad σ0 τ0 n C  ih.1 ih.2.1 ih.2.2.1 ih.2.2.2.1 ih.2.2.2.2, B_X12_next_221 p l e s m args below meth c D cA ad σ0 τ0 n C  ih.1 ih.2.1 ih.2.2.1 ih.2.2.2.1 ih.2.2.2.2, B_X12_next_248 p l e s m args below meth c D cA ad σ0 τ0 n C  ih.1 ih.2.1 ih.2.2.1 ih.2.2.2.1 ih.2.2.2.2⟩
set_option maxHeartbeats 4000000 in
theorem c_X12_next (l : Launch) (D : va_G) (cA : Nat → ClassId) (ad : Nat → Nat) (hI : Inj ad) (σ0 : Nat → Nat → Int32) (τ0 : Nat → Nat → Int64) (hR : Rg σ0)   : Met l yX12_next wsX12_next ({ frames := 1, cells := 0, slots := 0, locals := 20 } : Room) (WQc D cA ad [.ref (ad 387)] σ0 τ0) (va_Qv (fun u : SS => P_X12_next σ0 τ0 u.1 u.2) (WB D cA ad) (AA ad)) 0 0 (AA ad) := by
  refine Met.ofW (cc := cX12_next) (maxL := 4) (ret := none) (by decide) rfl ?_
  intro p e s m args below meth c s₁ B hml hv
  obtain ⟨rfl, hP, hK, hN⟩ := hv
  have C : Cy p s m _ meth c cX12_next 4 wsX12_next RX12 D cA ad none := ⟨B.exec, B.bytes, hml, findClass_of_methodNamed B.named, atoms_spec (ws := wsX12_next) B.pre, hK, B.notSynchronized, B.returns, hI, hN⟩
  have hl := lv_entry ([.ref (ad 387)]) (n := 4) (Nat.le_of_ble_eq_true rfl)
  rw [lg_entry_eq]
  generalize (lg_sl ([.ref (ad 387)]) ++ List.replicate (4 - (lg_sl ([.ref (ad 387)])).length) Slot.unset).toArray = ls at hl ⊢
  have hl : lv_has ls 4 [(0, .ref (ad 387))] := hl
  have hS : va_S (AA ad) s.heap s.heap [] := va_S.rf
  have hF : Fr L_X12_next σ0 σ0 := Fr.rf
  have hFL : FrL LL_X12_next τ0 τ0 := FrL.rf
  have hA := A_X12_next p l e s m _ below meth c D cA ad σ0 τ0 C  7102678
  have K0 := hA.1
  have K80 := hA.2.1
  have K181 := hA.2.2.1
  have K221 := hA.2.2.2.1
  have K248 := hA.2.2.2.2
  clear hA
  obtain ⟨hx, hb, _, hown, hts, _, hk, hr, _, _⟩ := C
  have hrt4 := rg_12_4 hR (k := 387) (by decide) (by decide)
  have hrt3 := rg_12_3 hR (k := 387) (by decide) (by decide)
  exact K0 σ0 τ0 s.heap []  ls hR hF hFL hP hS (by omega) (by omega) (by omega) (lv_sub hl [0] rfl) (by omega)
