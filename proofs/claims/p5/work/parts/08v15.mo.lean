theorem in_X12_drawn_12 : ∀ w ∈ u_ws RX12 TX12 47, w ∈ wsX12_drawn := by decide +kernel
theorem lk_X12_drawn_1 : Cond.fieldLink RX12 1 "CuckooSharesModel" "thrown" "I" ∈ wsX12_drawn := by decide +kernel
theorem lk_X12_drawn_33 : Cond.fieldLink RX12 33 "CuckooSharesModel" "s" "[I" ∈ wsX12_drawn := by decide +kernel
abbrev L_X12_drawn : List Rc := [(387, 387, 0, 0), (387, 387, 33, 33), (387, 387, 29, 29), (398, 398, 0, 279), (394, 394, 0, 7), (395, 395, 0, 7), (396, 396, 0, 7), (387, 387, 26, 26), (397, 397, 0, 7), (389, 389, 211, 221), (389, 389, 230, 245)]
abbrev LL_X12_drawn : List Rc := []
def P_X12_drawn (σ0 : Nat → Nat → Int32) (τ0 : Nat → Nat → Int64) (a1 : Int32) (a2 : Int32) (r : Int32) (σ : Nat → Nat → Int32) (τ : Nat → Nat → Int64) : Prop := Rg σ ∧ Fr L_X12_drawn σ0 σ ∧ FrL LL_X12_drawn τ0 τ ∧ (-1 ≤ r.toInt ∧ r.toInt ≤ 40)
set_option maxHeartbeats 4000000 in
theorem c_X12_drawn (l : Launch) (D : va_G) (cA : Nat → ClassId) (ad : Nat → Nat) (hI : Inj ad) (σ0 : Nat → Nat → Int32) (τ0 : Nat → Nat → Int64) (hR : Rg σ0) (a1 : Int32) (a2 : Int32) (gSI0 : SI σ0) : Met l yX12_drawn wsX12_drawn ({ frames := 7, cells := 0, slots := 0, locals := 165 } : Room) (WQc D cA ad [.ref (ad 387), .int a1, .int a2] σ0 τ0) (va_Qi (fun (r : Int32) (u : SS) => P_X12_drawn σ0 τ0 a1 a2 r u.1 u.2) (WB D cA ad) (AA ad)) 0 0 (AA ad) := by
  refine Met.ofW (cc := cX12_drawn) (maxL := 3) (ret := (some .int)) (by decide) rfl ?_
  intro p e s m args below meth c s₁ B hml hv
  obtain ⟨rfl, hP, hK, hN⟩ := hv
  have C : Cy p s m _ meth c cX12_drawn 3 wsX12_drawn RX12 D cA ad (some .int) := ⟨B.exec, B.bytes, hml, findClass_of_methodNamed B.named, atoms_spec (ws := wsX12_drawn) B.pre, hK, B.notSynchronized, B.returns, hI, hN⟩
  have hl := lv_entry ([.ref (ad 387), .int a1, .int a2]) (n := 3) (Nat.le_of_ble_eq_true rfl)
  rw [lg_entry_eq]
  generalize (lg_sl ([.ref (ad 387), .int a1, .int a2]) ++ List.replicate (3 - (lg_sl ([.ref (ad 387), .int a1, .int a2])).length) Slot.unset).toArray = ls at hl ⊢
  have hl : lv_has ls 3 [(0, .ref (ad 387)), (1, .int a1), (2, .int a2)] := hl
  have hS : va_S (AA ad) s.heap s.heap [] := va_S.rf
  have hF : Fr L_X12_drawn σ0 σ0 := Fr.rf
  have hFL : FrL LL_X12_drawn τ0 τ0 := FrL.rf
  have gSI := gSI0
  obtain ⟨hx, hb, _, hown, hts, _, hk, hr, _, _⟩ := C
  refine lv_aload_n hx hb dX12_drawn_0 rfl (lv_at hl 0 rfl) ?_
  refine r_iconst hx hb dX12_drawn_1 (by decide) (fun z1 ez1 => ?_)
  refine fp_12_0 (k := 387) hx hb hts in_X12_drawn_12 hown hK hP (by decide) (by decide) (hts _ lk_X12_drawn_1) hI hR hS (by omega) dX12_drawn_2 (fun σ2 H2 locs2 u2 v2 hR hP hS => ?_)
  have hF := hF.puts u2 0 rfl (by decide) (by decide) (by decide) (by decide)
  have gSI := SI.put gSI hR u2 (by decide)
  refine lv_iload_n hx hb dX12_drawn_5 rfl (lv_at hl 1 rfl) ?_
  refine r_iconst hx hb dX12_drawn_6 (by decide) (fun z3 ez3 => ?_)
  refine r_bipush hx hb dX12_drawn_7 (by decide) (fun z4 ez4 => ?_)
  refine r_cSi (As := [.int a1, .int z3, .int z4]) (rest := []) ⟨hx, hb, hml, hown, hts⟩ hK hP hN hS (c_X12_isIn l D cA ad hI σ2 τ0 hR a1 z3 z4) (va_cwS 3 hts gX12_drawn_X12_isIn rfl rfl rfl (by decide +kernel) ⟨by decide, by decide⟩) rfl hl.1 rfl (Nat.le_of_ble_eq_true rfl) dX12_drawn_9 (Nat.zero_le _) (Nat.zero_le _) (fun r5 u5 H5 locs5 hp5 hP hS => ?_)
  obtain ⟨σ5, τ5⟩ := u5
  obtain ⟨hR, f5, fL5, hq5, hp5_0, hp5_1⟩ : P_X12_isIn σ2 τ0 a1 z3 z4 r5 σ5 τ5 := hp5
  have hP : va_P D vwCl (gw cA ad σ5 τ5) H5 := hP
  obtain rfl := FrL.nil fL5
  obtain rfl := Fr.nil f5
  refine r_if_eq (tgt := 33) hx hb dX12_drawn_12 (by decide) (fun c6 => ?_) (fun c6 => ?_)
  · clear hp5_0
    refine r_iconst hx hb dX12_drawn_33 (by decide) (fun z7 ez7 => ?_)
    exact r_iret hx hb hr hK hP hS hk dX12_drawn_34 (show P_X12_drawn σ0 τ0 a1 a2 z7 σ2 τ0 from ⟨hR, hF, hFL, by omega⟩)
  · replace hp5_0 := hp5_0.resolve_left (by omega)
    refine lv_aload_n hx hb dX12_drawn_15 rfl (lv_at hl 0 rfl) ?_
    refine fg_12_6 (k := 387) hx hb hts in_X12_drawn_12 hown hK hP (by decide) (by decide) (hts _ lk_X12_drawn_33) dX12_drawn_16 ?_
    refine r_iconst hx hb dX12_drawn_19 (by decide) (fun z8 ez8 => ?_)
    refine ad_ms (k := 389) (j := 0) hx hb hK hP (by decide) (by decide) (by omega) (by omega) dX12_drawn_20 ?_
    have hr9 := ra_ms_0 hR (k := 389) (j := 0) (by decide) (by decide) (by decide) (by decide)
    refine r_if_eq (tgt := 33) hx hb dX12_drawn_21 (by decide) (fun c10 => ?_) (fun c10 => ?_)
    · refine r_iconst hx hb dX12_drawn_33 (by decide) (fun z11 ez11 => ?_)
      exact r_iret hx hb hr hK hP hS hk dX12_drawn_34 (show P_X12_drawn σ0 τ0 a1 a2 z11 σ2 τ0 from ⟨hR, hF, hFL, by omega⟩)
    · refine lv_aload_n hx hb dX12_drawn_24 rfl (lv_at hl 0 rfl) ?_
      refine fg_12_6 (k := 387) hx hb hts in_X12_drawn_12 hown hK hP (by decide) (by decide) (hts _ lk_X12_drawn_33) dX12_drawn_25 ?_
      refine r_iconst hx hb dX12_drawn_28 (by decide) (fun z12 ez12 => ?_)
      refine ad_ms (k := 389) (j := 2) hx hb hK hP (by decide) (by decide) (by omega) (by omega) dX12_drawn_29 ?_
      have hr13 := ra_ms_1 hR (k := 389) (j := 2) (by decide) (by decide) (by decide) (by decide)
      refine r_if_ne (tgt := 35) hx hb dX12_drawn_30 (by decide) (fun c14 => ?_) (fun c14 => ?_)
      · refine lv_aload_n hx hb dX12_drawn_35 rfl (lv_at hl 0 rfl) ?_
        refine fg_12_6 (k := 387) hx hb hts in_X12_drawn_12 hown hK hP (by decide) (by decide) (hts _ lk_X12_drawn_33) dX12_drawn_36 ?_
        refine r_sipush hx hb dX12_drawn_39 (by decide) (fun z15 ez15 => ?_)
        refine ad_ms (k := 389) (j := 211) hx hb hK hP (by decide) (by decide) (by omega) (by omega) dX12_drawn_42 ?_
        refine r_bipush hx hb dX12_drawn_43 (by decide) (fun z16 ez16 => ?_)
        refine r_icmp_ge (tgt := 52) hx hb dX12_drawn_45 (by decide) (fun c17 => ?_) (fun c17 => ?_)
        · refine lv_aload_n hx hb dX12_drawn_52 rfl (lv_at hl 0 rfl) ?_
          refine lv_iload_n hx hb dX12_drawn_53 rfl (lv_at hl 1 rfl) ?_
          refine lv_iload_n hx hb dX12_drawn_54 rfl (lv_at hl 2 rfl) ?_
          refine r_cVi (k := 387) (As := [.int a1, .int a2]) (rest := []) ⟨hx, hb, hml, hown, hts⟩ hK hP hN hS (c_X12_draws l D cA ad hI σ2 τ0 hR a1 a2 (by omega) (by omega) gSI) (cwV 2 hts gX12_drawn_X12_draws rfl rfl rfl (by decide +kernel) ⟨by decide, by decide⟩) (rv_M hK hP (by decide) (by decide)) rfl hl.1 rfl (Nat.le_of_ble_eq_true rfl) dX12_drawn_55 (Nat.zero_le _) (Nat.zero_le _) (fun r18 u18 H18 locs18 hp18 hP hS => ?_)
          obtain ⟨σ18, τ18⟩ := u18
          obtain ⟨hR, f18, fL18, hq18⟩ : P_X12_draws σ2 τ0 a1 a2 r18 σ18 τ18 := hp18
          have hP : va_P D vwCl (gw cA ad σ18 τ18) H18 := hP
          obtain rfl := FrL.nil fL18
          have hF := hF.step f18 (by decide)
          have gSI := SI.fr gSI hR f18 (by decide)
          have t19 : (σ18 389 0).toInt = (σ2 389 0).toInt := congrArg Int32.toInt (f18.at 389 0 (by decide))
          have t20 : (σ18 389 2).toInt = (σ2 389 2).toInt := congrArg Int32.toInt (f18.at 389 2 (by decide))
          exact r_iret hx hb hr hK hP hS hk dX12_drawn_58 (show P_X12_drawn σ0 τ0 a1 a2 r18 σ18 τ0 from ⟨hR, hF, hFL, by omega⟩)
        · refine lv_aload_n hx hb dX12_drawn_48 rfl (lv_at hl 0 rfl) ?_
          refine r_cVv (k := 387) (As := []) (rest := []) ⟨hx, hb, hml, hown, hts⟩ hK hP hN hS (c_X12_keep l D cA ad hI σ2 τ0 hR) (cwV 0 hts gX12_drawn_X12_keep rfl rfl rfl (by decide +kernel) ⟨by decide, by decide⟩) (rv_M hK hP (by decide) (by decide)) rfl hl.1 rfl (Nat.le_of_ble_eq_true rfl) dX12_drawn_49 (Nat.zero_le _) (Nat.zero_le _) (fun u21 H21 locs21 hp21 hP hS => ?_)
          obtain ⟨σ21, τ21⟩ := u21
          obtain ⟨hR, f21, fL21, hp21_0⟩ : P_X12_keep σ2 τ0 σ21 τ21 := hp21
          have hP : va_P D vwCl (gw cA ad σ21 τ21) H21 := hP
          obtain rfl := FrL.nil fL21
          have hF := hF.step f21 (by decide)
          have gSI := SI.fr gSI hR f21 (by decide)
          have t22 : (σ21 389 0).toInt = (σ2 389 0).toInt := congrArg Int32.toInt (f21.at 389 0 (by decide))
          have t23 : (σ21 389 2).toInt = (σ2 389 2).toInt := congrArg Int32.toInt (f21.at 389 2 (by decide))
          have t24 : (σ21 389 211).toInt = (σ2 389 211).toInt := congrArg Int32.toInt (f21.at 389 211 (by decide))
          refine lv_aload_n hx hb dX12_drawn_52 rfl (lv_at hl 0 rfl) ?_
          refine lv_iload_n hx hb dX12_drawn_53 rfl (lv_at hl 1 rfl) ?_
          refine lv_iload_n hx hb dX12_drawn_54 rfl (lv_at hl 2 rfl) ?_
          refine r_cVi (k := 387) (As := [.int a1, .int a2]) (rest := []) ⟨hx, hb, hml, hown, hts⟩ hK hP hN hS (c_X12_draws l D cA ad hI σ21 τ0 hR a1 a2 (by omega) (by omega) gSI) (cwV 2 hts gX12_drawn_X12_draws rfl rfl rfl (by decide +kernel) ⟨by decide, by decide⟩) (rv_M hK hP (by decide) (by decide)) rfl hl.1 rfl (Nat.le_of_ble_eq_true rfl) dX12_drawn_55 (Nat.zero_le _) (Nat.zero_le _) (fun r25 u25 H25 locs25 hp25 hP hS => ?_)
          obtain ⟨σ25, τ25⟩ := u25
          obtain ⟨hR, f25, fL25, hq25⟩ : P_X12_draws σ21 τ0 a1 a2 r25 σ25 τ25 := hp25
          have hP : va_P D vwCl (gw cA ad σ25 τ25) H25 := hP
          obtain rfl := FrL.nil fL25
          have hF := hF.step f25 (by decide)
          have gSI := SI.fr gSI hR f25 (by decide)
          have t26 : (σ25 389 0).toInt = (σ21 389 0).toInt := congrArg Int32.toInt (f25.at 389 0 (by decide))
          have t27 : (σ25 389 2).toInt = (σ21 389 2).toInt := congrArg Int32.toInt (f25.at 389 2 (by decide))
          have t28 : (σ25 387 29).toInt = (σ21 387 29).toInt := congrArg Int32.toInt (f25.at 387 29 (by decide))
          exact r_iret hx hb hr hK hP hS hk dX12_drawn_58 (show P_X12_drawn σ0 τ0 a1 a2 r25 σ25 τ0 from ⟨hR, hF, hFL, by omega⟩)
      · refine r_iconst hx hb dX12_drawn_33 (by decide) (fun z29 ez29 => ?_)
        exact r_iret hx hb hr hK hP hS hk dX12_drawn_34 (show P_X12_drawn σ0 τ0 a1 a2 z29 σ2 τ0 from ⟨hR, hF, hFL, by omega⟩)
theorem in_X12_back_12 : ∀ w ∈ u_ws RX12 TX12 47, w ∈ wsX12_back := by decide +kernel
theorem lk_X12_back_33 : Cond.fieldLink RX12 33 "CuckooSharesModel" "s" "[I" ∈ wsX12_back := by decide +kernel
theorem lk_X12_back_65 : Cond.fieldLink RX12 65 "CuckooSharesModel" "before" "[I" ∈ wsX12_back := by decide +kernel
abbrev L_X12_back : List Rc := [(389, 389, 211, 245)]
abbrev LL_X12_back : List Rc := []
def P_X12_back (σ0 : Nat → Nat → Int32) (τ0 : Nat → Nat → Int64)  (σ : Nat → Nat → Int32) (τ : Nat → Nat → Int64) : Prop := Rg σ ∧ Fr L_X12_back σ0 σ ∧ FrL LL_X12_back τ0 τ
def J_X12_back_2 (p : Program) (l : Launch) (e : Env) (s : State) (m : MethodId) (args : Array Value) (below : List Frame) (meth : Method) (c : Code) (D : va_G) (cA : Nat → ClassId) (ad : Nat → Nat) (σ0 : Nat → Nat → Int32) (τ0 : Nat → Nat → Int64)  (n : Nat) : Prop := ∀ (σ : Nat → Nat → Int32) (τ : Nat → Nat → Int64) (H : Heap) (locs : List Loc) (x1 : Int32) (ls : Array Slot), Rg σ → Fr L_X12_back σ0 σ → FrL LL_X12_back τ0 τ → va_P D vwCl (gw cA ad σ τ) H → va_S (AA ad) s.heap H locs → (0 ≤ x1.toInt ∧ x1.toInt ≤ 39) → lv_has ls 2 [(0, .ref (ad 387)), (1, .int x1)] → 2 * (39 - x1.toInt) + 1 < (n : Int) → W p l e ({ frames := 0, cells := 0, slots := 0, locals := 0 } : Room) s m args below meth c H locs 0 0 (MQ below (va_Qv (fun u : SS => P_X12_back σ0 τ0 u.1 u.2) (WB D cA ad) (AA ad)) args s 0 0 (AA ad)) (F0 m 2 ls [])
set_option maxHeartbeats 4000000 in
theorem B_X12_back_2 (p : Program) (l : Launch) (e : Env) (s : State) (m : MethodId) (args : Array Value) (below : List Frame) (meth : Method) (c : Code) (D : va_G) (cA : Nat → ClassId) (ad : Nat → Nat) (σ0 : Nat → Nat → Int32) (τ0 : Nat → Nat → Int64)  (n : Nat) (C : Cy p s m args meth c cX12_back 2 wsX12_back RX12 D cA ad none)  (K2 : J_X12_back_2 p l e s m args below meth c D cA ad σ0 τ0 n) : J_X12_back_2 p l e s m args below meth c D cA ad σ0 τ0 (n + 1) := by
  obtain ⟨hx, hb, hml, hown, hts, hK, hk, hr, hI, hN⟩ := C
  intro σ τ H locs x1 ls hR hF hFL hP hS hc0 hl hm
  obtain rfl := FrL.nil hFL
  refine lv_iload_n hx hb dX12_back_2 rfl (lv_at hl 1 rfl) ?_
  refine r_bipush hx hb dX12_back_3 (by decide) (fun z1 ez1 => ?_)
  refine r_icmp_ge (tgt := 30) hx hb dX12_back_5 (by decide) (fun c2 => ?_) (fun c2 => ?_)
  · exact r_vret hx hb hr hK hP hS hk dX12_back_30 (show P_X12_back σ0 τ0 σ τ0 from ⟨hR, hF, hFL⟩)
  · refine lv_aload_n hx hb dX12_back_8 rfl (lv_at hl 0 rfl) ?_
    refine fg_12_6 (k := 387) hx hb hts in_X12_back_12 hown hK hP (by decide) (by decide) (hts _ lk_X12_back_33) dX12_back_9 ?_
    refine r_sipush hx hb dX12_back_12 (by decide) (fun z3 ez3 => ?_)
    refine lv_iload_n hx hb dX12_back_15 rfl (lv_at hl 1 rfl) ?_
    refine r_iadd hx hb dX12_back_16 (by omega) (fun z4 ez4 => ?_)
    refine lv_aload_n hx hb dX12_back_17 rfl (lv_at hl 0 rfl) ?_
    refine fg_12_28 (k := 387) hx hb hts in_X12_back_12 hown hK hP (by decide) (by decide) (hts _ lk_X12_back_65) dX12_back_18 ?_
    refine lv_iload_n hx hb dX12_back_21 rfl (lv_at hl 1 rfl) ?_
    obtain ⟨j5, ej5⟩ : ∃ j : Nat, x1.toInt = (j : Int) := ⟨_, ti_nat (by omega)⟩
    refine ad_mbefore (k := 399) (j := j5) hx hb hK hP (by decide) (by decide) ej5 (by omega) dX12_back_22 ?_
    obtain ⟨j6, ej6⟩ : ∃ j : Nat, z4.toInt = (j : Int) := ⟨_, ti_nat (by omega)⟩
    refine as_ms (k := 389) (j := j6) hx hb hK hP hI hR hS (by decide) (by decide) ej6 (by omega) (mc_sb hR (by omega) (by omega)) dX12_back_23 (fun σ7 H7 locs7 u7 v7 hR hP hS => ?_)
    have hF := hF.puts u7 0 rfl (by decide) (by decide) (by omega) (by omega)
    refine r_iinc (k := 1) (lv1 := fun z8 => [(1, .int z8), (0, .ref (ad 387))]) hx hb dX12_back_24 hl rfl (by decide) (fun _ => rfl) (by decide) (by omega) (fun z8 ls ez8 hl => ?_)
    refine lv_goto (tgt := 2) hx hb dX12_back_27 (by decide) ?_
    exact K2 σ7 τ0 H7 locs7 z8 ls hR hF hFL hP hS (by omega) (lv_sub hl [1, 0] rfl) (by omega)
theorem A_X12_back (p : Program) (l : Launch) (e : Env) (s : State) (m : MethodId) (args : Array Value) (below : List Frame) (meth : Method) (c : Code) (D : va_G) (cA : Nat → ClassId) (ad : Nat → Nat) (σ0 : Nat → Nat → Int32) (τ0 : Nat → Nat → Int64)  (C : Cy p s m args meth c cX12_back 2 wsX12_back RX12 D cA ad none)  : ∀ n : Nat, J_X12_back_2 p l e s m args below meth c D cA ad σ0 τ0 n := by
  intro n
  induction n with
  | zero =>
    exact (by intro σ τ H locs x1 ls hR hF hFL hP hS hc0 hl hm; exfalso; omega)
  | succ n ih =>
    exact B_X12_back_2 p l e s m args below meth c D cA ad σ0 τ0 n C  ih
set_option maxHeartbeats 4000000 in
theorem c_X12_back (l : Launch) (D : va_G) (cA : Nat → ClassId) (ad : Nat → Nat) (hI : Inj ad) (σ0 : Nat → Nat → Int32) (τ0 : Nat → Nat → Int64) (hR : Rg σ0)   : Met l yX12_back wsX12_back ({ frames := 0, cells := 0, slots := 0, locals := 0 } : Room) (WQc D cA ad [.ref (ad 387)] σ0 τ0) (va_Qv (fun u : SS => P_X12_back σ0 τ0 u.1 u.2) (WB D cA ad) (AA ad)) 0 0 (AA ad) := by
  refine Met.ofW (cc := cX12_back) (maxL := 2) (ret := none) (by decide) rfl ?_
  intro p e s m args below meth c s₁ B hml hv
  obtain ⟨rfl, hP, hK, hN⟩ := hv
  have C : Cy p s m _ meth c cX12_back 2 wsX12_back RX12 D cA ad none := ⟨B.exec, B.bytes, hml, findClass_of_methodNamed B.named, atoms_spec (ws := wsX12_back) B.pre, hK, B.notSynchronized, B.returns, hI, hN⟩
  have hl := lv_entry ([.ref (ad 387)]) (n := 2) (Nat.le_of_ble_eq_true rfl)
  rw [lg_entry_eq]
  generalize (lg_sl ([.ref (ad 387)]) ++ List.replicate (2 - (lg_sl ([.ref (ad 387)])).length) Slot.unset).toArray = ls at hl ⊢
  have hl : lv_has ls 2 [(0, .ref (ad 387))] := hl
  have hS : va_S (AA ad) s.heap s.heap [] := va_S.rf
  have hF : Fr L_X12_back σ0 σ0 := Fr.rf
  have hFL : FrL LL_X12_back τ0 τ0 := FrL.rf
  have hA := A_X12_back p l e s m _ below meth c D cA ad σ0 τ0 C  166
  have K2 := hA
  clear hA
  obtain ⟨hx, hb, _, hown, hts, _, hk, hr, _, _⟩ := C
  refine r_iconst hx hb dX12_back_0 (by decide) (fun z1 ez1 => ?_)
  refine lv_istore_n (lv' := [(1, .int z1), (0, .ref (ad 387))]) hx hb dX12_back_1 rfl hl (by decide) rfl (fun ls hl => ?_)
  exact K2 σ0 τ0 s.heap [] z1 ls hR hF hFL hP hS (by omega) (lv_sub hl [1, 0] rfl) (by omega)
theorem in_X12_tries_12 : ∀ w ∈ u_ws RX12 TX12 47, w ∈ wsX12_tries := by decide +kernel
theorem lk_X12_tries_33 : Cond.fieldLink RX12 33 "CuckooSharesModel" "s" "[I" ∈ wsX12_tries := by decide +kernel
theorem lk_X12_tries_65 : Cond.fieldLink RX12 65 "CuckooSharesModel" "before" "[I" ∈ wsX12_tries := by decide +kernel
abbrev L_X12_tries : List Rc := [(399, 399, 0, 34)]
abbrev LL_X12_tries : List Rc := []
def P_X12_tries (σ0 : Nat → Nat → Int32) (τ0 : Nat → Nat → Int64)  (σ : Nat → Nat → Int32) (τ : Nat → Nat → Int64) : Prop := Rg σ ∧ Fr L_X12_tries σ0 σ ∧ FrL LL_X12_tries τ0 τ
def J_X12_tries_2 (p : Program) (l : Launch) (e : Env) (s : State) (m : MethodId) (args : Array Value) (below : List Frame) (meth : Method) (c : Code) (D : va_G) (cA : Nat → ClassId) (ad : Nat → Nat) (σ0 : Nat → Nat → Int32) (τ0 : Nat → Nat → Int64)  (n : Nat) : Prop := ∀ (σ : Nat → Nat → Int32) (τ : Nat → Nat → Int64) (H : Heap) (locs : List Loc) (x1 : Int32) (ls : Array Slot), Rg σ → Fr L_X12_tries σ0 σ → FrL LL_X12_tries τ0 τ → va_P D vwCl (gw cA ad σ τ) H → va_S (AA ad) s.heap H locs → (0 ≤ x1.toInt ∧ x1.toInt ≤ 39) → lv_has ls 2 [(0, .ref (ad 387)), (1, .int x1)] → 2 * (39 - x1.toInt) + 1 < (n : Int) → W p l e ({ frames := 0, cells := 0, slots := 0, locals := 0 } : Room) s m args below meth c H locs 0 0 (MQ below (va_Qv (fun u : SS => P_X12_tries σ0 τ0 u.1 u.2) (WB D cA ad) (AA ad)) args s 0 0 (AA ad)) (F0 m 2 ls [])
set_option maxHeartbeats 4000000 in
theorem B_X12_tries_2 (p : Program) (l : Launch) (e : Env) (s : State) (m : MethodId) (args : Array Value) (below : List Frame) (meth : Method) (c : Code) (D : va_G) (cA : Nat → ClassId) (ad : Nat → Nat) (σ0 : Nat → Nat → Int32) (τ0 : Nat → Nat → Int64)  (n : Nat) (C : Cy p s m args meth c cX12_tries 2 wsX12_tries RX12 D cA ad none)  (K2 : J_X12_tries_2 p l e s m args below meth c D cA ad σ0 τ0 n) : J_X12_tries_2 p l e s m args below meth c D cA ad σ0 τ0 (n + 1) := by
  obtain ⟨hx, hb, hml, hown, hts, hK, hk, hr, hI, hN⟩ := C
  intro σ τ H locs x1 ls hR hF hFL hP hS hc0 hl hm
  obtain rfl := FrL.nil hFL
  refine lv_iload_n hx hb dX12_tries_2 rfl (lv_at hl 1 rfl) ?_
  refine r_bipush hx hb dX12_tries_3 (by decide) (fun z1 ez1 => ?_)
  refine r_icmp_ge (tgt := 30) hx hb dX12_tries_5 (by decide) (fun c2 => ?_) (fun c2 => ?_)
  · exact r_vret hx hb hr hK hP hS hk dX12_tries_30 (show P_X12_tries σ0 τ0 σ τ0 from ⟨hR, hF, hFL⟩)
  · refine lv_aload_n hx hb dX12_tries_8 rfl (lv_at hl 0 rfl) ?_
    refine fg_12_28 (k := 387) hx hb hts in_X12_tries_12 hown hK hP (by decide) (by decide) (hts _ lk_X12_tries_65) dX12_tries_9 ?_
    refine lv_iload_n hx hb dX12_tries_12 rfl (lv_at hl 1 rfl) ?_
    refine lv_aload_n hx hb dX12_tries_13 rfl (lv_at hl 0 rfl) ?_
    refine fg_12_6 (k := 387) hx hb hts in_X12_tries_12 hown hK hP (by decide) (by decide) (hts _ lk_X12_tries_33) dX12_tries_14 ?_
    refine r_sipush hx hb dX12_tries_17 (by decide) (fun z3 ez3 => ?_)
    refine lv_iload_n hx hb dX12_tries_20 rfl (lv_at hl 1 rfl) ?_
    refine r_iadd hx hb dX12_tries_21 (by omega) (fun z4 ez4 => ?_)
    obtain ⟨j5, ej5⟩ : ∃ j : Nat, z4.toInt = (j : Int) := ⟨_, ti_nat (by omega)⟩
    refine ad_ms (k := 389) (j := j5) hx hb hK hP (by decide) (by decide) ej5 (by omega) dX12_tries_22 ?_
    obtain ⟨j6, ej6⟩ : ∃ j : Nat, x1.toInt = (j : Int) := ⟨_, ti_nat (by omega)⟩
    refine as_mbefore (k := 399) (j := j6) hx hb hK hP hI hR hS (by decide) (by decide) ej6 (by omega) (mc_bs hR (by omega) (by omega)) dX12_tries_23 (fun σ7 H7 locs7 u7 v7 hR hP hS => ?_)
    have hF := hF.puts u7 0 rfl (by decide) (by decide) (by omega) (by omega)
    refine r_iinc (k := 1) (lv1 := fun z8 => [(1, .int z8), (0, .ref (ad 387))]) hx hb dX12_tries_24 hl rfl (by decide) (fun _ => rfl) (by decide) (by omega) (fun z8 ls ez8 hl => ?_)
    refine lv_goto (tgt := 2) hx hb dX12_tries_27 (by decide) ?_
    exact K2 σ7 τ0 H7 locs7 z8 ls hR hF hFL hP hS (by omega) (lv_sub hl [1, 0] rfl) (by omega)
theorem A_X12_tries (p : Program) (l : Launch) (e : Env) (s : State) (m : MethodId) (args : Array Value) (below : List Frame) (meth : Method) (c : Code) (D : va_G) (cA : Nat → ClassId) (ad : Nat → Nat) (σ0 : Nat → Nat → Int32) (τ0 : Nat → Nat → Int64)  (C : Cy p s m args meth c cX12_tries 2 wsX12_tries RX12 D cA ad none)  : ∀ n : Nat, J_X12_tries_2 p l e s m args below meth c D cA ad σ0 τ0 n := by
  intro n
  induction n with
  | zero =>
    exact (by intro σ τ H locs x1 ls hR hF hFL hP hS hc0 hl hm; exfalso; omega)
  | succ n ih =>
    exact B_X12_tries_2 p l e s m args below meth c D cA ad σ0 τ0 n C  ih
set_option maxHeartbeats 4000000 in
theorem c_X12_tries (l : Launch) (D : va_G) (cA : Nat → ClassId) (ad : Nat → Nat) (hI : Inj ad) (σ0 : Nat → Nat → Int32) (τ0 : Nat → Nat → Int64) (hR : Rg σ0)   : Met l yX12_tries wsX12_tries ({ frames := 0, cells := 0, slots := 0, locals := 0 } : Room) (WQc D cA ad [.ref (ad 387)] σ0 τ0) (va_Qv (fun u : SS => P_X12_tries σ0 τ0 u.1 u.2) (WB D cA ad) (AA ad)) 0 0 (AA ad) := by
  refine Met.ofW (cc := cX12_tries) (maxL := 2) (ret := none) (by decide) rfl ?_
  intro p e s m args below meth c s₁ B hml hv
  obtain ⟨rfl, hP, hK, hN⟩ := hv
  have C : Cy p s m _ meth c cX12_tries 2 wsX12_tries RX12 D cA ad none := ⟨B.exec, B.bytes, hml, findClass_of_methodNamed B.named, atoms_spec (ws := wsX12_tries) B.pre, hK, B.notSynchronized, B.returns, hI, hN⟩
  have hl := lv_entry ([.ref (ad 387)]) (n := 2) (Nat.le_of_ble_eq_true rfl)
  rw [lg_entry_eq]
  generalize (lg_sl ([.ref (ad 387)]) ++ List.replicate (2 - (lg_sl ([.ref (ad 387)])).length) Slot.unset).toArray = ls at hl ⊢
  have hl : lv_has ls 2 [(0, .ref (ad 387))] := hl
  have hS : va_S (AA ad) s.heap s.heap [] := va_S.rf
  have hF : Fr L_X12_tries σ0 σ0 := Fr.rf
  have hFL : FrL LL_X12_tries τ0 τ0 := FrL.rf
  have hA := A_X12_tries p l e s m _ below meth c D cA ad σ0 τ0 C  166
  have K2 := hA
  clear hA
  obtain ⟨hx, hb, _, hown, hts, _, hk, hr, _, _⟩ := C
  refine r_iconst hx hb dX12_tries_0 (by decide) (fun z1 ez1 => ?_)
  refine lv_istore_n (lv' := [(1, .int z1), (0, .ref (ad 387))]) hx hb dX12_tries_1 rfl hl (by decide) rfl (fun ls hl => ?_)
  exact K2 σ0 τ0 s.heap [] z1 ls hR hF hFL hP hS (by omega) (lv_sub hl [1, 0] rfl) (by omega)
theorem in_X12_odds_12 : ∀ w ∈ u_ws RX12 TX12 47, w ∈ wsX12_odds := by decide +kernel
theorem lk_X12_odds_1 : Cond.fieldLink RX12 1 "CuckooSharesModel" "thrown" "I" ∈ wsX12_odds := by decide +kernel
theorem lk_X12_odds_33 : Cond.fieldLink RX12 33 "CuckooSharesModel" "s" "[I" ∈ wsX12_odds := by decide +kernel
abbrev L_X12_odds : List Rc := [(387, 387, 0, 0), (399, 399, 0, 34), (387, 387, 33, 33), (394, 394, 0, 7), (395, 395, 0, 7), (396, 396, 0, 7), (387, 387, 26, 26), (397, 397, 0, 7), (389, 389, 211, 245)]
abbrev LL_X12_odds : List Rc := []
def P_X12_odds (σ0 : Nat → Nat → Int32) (τ0 : Nat → Nat → Int64) (a1 : Int32) (a2 : Int32) (a3 : Int32) (a4 : Int32) (r : Int32) (σ : Nat → Nat → Int32) (τ : Nat → Nat → Int64) : Prop := Rg σ ∧ Fr L_X12_odds σ0 σ ∧ FrL LL_X12_odds τ0 τ
def J_X12_odds_55 (p : Program) (l : Launch) (e : Env) (s : State) (m : MethodId) (args : Array Value) (below : List Frame) (meth : Method) (c : Code) (D : va_G) (cA : Nat → ClassId) (ad : Nat → Nat) (σ0 : Nat → Nat → Int32) (τ0 : Nat → Nat → Int64) (a1 : Int32) (a2 : Int32) (a3 : Int32) (a4 : Int32) (n : Nat) : Prop := ∀ (σ : Nat → Nat → Int32) (τ : Nat → Nat → Int64) (H : Heap) (locs : List Loc) (x5 : Int32) (x6 : Int32) (ls : Array Slot), Rg σ → Fr L_X12_odds σ0 σ → FrL LL_X12_odds τ0 τ → va_P D vwCl (gw cA ad σ τ) H → va_S (AA ad) s.heap H locs → (0 ≤ a1.toInt ∧ a1.toInt ≤ 7) → (0 ≤ a2.toInt ∧ a2.toInt ≤ 999) → (1 ≤ a3.toInt ∧ a3.toInt ≤ 30) → (0 ≤ x6.toInt ∧ x6.toInt ≤ 30) → (1 ≤ (σ 389 2).toInt ∧ (σ 389 2).toInt ≤ 4) → (1 ≤ (σ 389 2).toInt) → (SI σ) → lv_has ls 8 [(0, .ref (ad 387)), (1, .int a1), (2, .int a2), (3, .int a3), (4, .int a4), (5, .int x5), (6, .int x6)] → 2 * (30 - x6.toInt) + 1 < (n : Int) → W p l e ({ frames := 7, cells := 0, slots := 0, locals := 165 } : Room) s m args below meth c H locs 0 0 (MQ below (va_Qi (fun (r : Int32) (u : SS) => P_X12_odds σ0 τ0 a1 a2 a3 a4 r u.1 u.2) (WB D cA ad) (AA ad)) args s 0 0 (AA ad)) (F0 m 55 ls [])
set_option maxHeartbeats 4000000 in
theorem B_X12_odds_55 (p : Program) (l : Launch) (e : Env) (s : State) (m : MethodId) (args : Array Value) (below : List Frame) (meth : Method) (c : Code) (D : va_G) (cA : Nat → ClassId) (ad : Nat → Nat) (σ0 : Nat → Nat → Int32) (τ0 : Nat → Nat → Int64) (a1 : Int32) (a2 : Int32) (a3 : Int32) (a4 : Int32) (n : Nat) (C : Cy p s m args meth c cX12_odds 8 wsX12_odds RX12 D cA ad (some .int)) (gSI0 : SI σ0) (K55 : J_X12_odds_55 p l e s m args below meth c D cA ad σ0 τ0 a1 a2 a3 a4 n) : J_X12_odds_55 p l e s m args below meth c D cA ad σ0 τ0 a1 a2 a3 a4 (n + 1) := by
  obtain ⟨hx, hb, hml, hown, hts, hK, hk, hr, hI, hN⟩ := C
  intro σ τ H locs x5 x6 ls hR hF hFL hP hS hc0 hc1 hc2 hc3 hc4 hi0 gSI hl hm
  obtain rfl := FrL.nil hFL
  refine lv_iload hx hb dX12_odds_55 (lv_at hl 6 rfl) ?_
  refine lv_iload_n hx hb dX12_odds_57 rfl (lv_at hl 3 rfl) ?_
  refine r_icmp_ge (tgt := 121) hx hb dX12_odds_58 (by decide) (fun c1 => ?_) (fun c1 => ?_)
  · refine lv_iload hx hb dX12_odds_121 (lv_at hl 5 rfl) ?_
    exact r_iret hx hb hr hK hP hS hk dX12_odds_123 (show P_X12_odds σ0 τ0 a1 a2 a3 a4 x5 σ τ0 from ⟨hR, hF, hFL⟩)
  · refine lv_aload_n hx hb dX12_odds_61 rfl (lv_at hl 0 rfl) ?_
    refine fg_12_6 (k := 387) hx hb hts in_X12_odds_12 hown hK hP (by decide) (by decide) (hts _ lk_X12_odds_33) dX12_odds_62 ?_
    refine r_sipush hx hb dX12_odds_65 (by decide) (fun z2 ez2 => ?_)
    refine lv_iload_n hx hb dX12_odds_68 rfl (lv_at hl 1 rfl) ?_
    refine r_iadd hx hb dX12_odds_69 (by omega) (fun z3 ez3 => ?_)
    obtain ⟨j4, ej4⟩ : ∃ j : Nat, z3.toInt = (j : Int) := ⟨_, ti_nat (by omega)⟩
    refine ad_ms (k := 389) (j := j4) hx hb hK hP (by decide) (by decide) ej4 (by omega) dX12_odds_70 ?_
    refine lv_istore (lv' := [(7, .int (σ 389 j4)), (0, .ref (ad 387)), (1, .int a1), (2, .int a2), (3, .int a3), (4, .int a4), (5, .int x5), (6, .int x6)]) hx hb dX12_odds_71 hl (by decide) rfl (fun ls hl => ?_)
    refine lv_aload_n hx hb dX12_odds_73 rfl (lv_at hl 1 rfl) ?_
    refine r_iconst hx hb dX12_odds_74 (by decide) (fun z5 ez5 => ?_)
    refine lv_iload hx hb dX12_odds_75 (lv_at hl 5 rfl) ?_
    refine lv_iload hx hb dX12_odds_77 (lv_at hl 7 rfl) ?_
    refine r_iaddU hx hb dX12_odds_79 (fun z6 => ?_)
    refine r_cVi (k := 387) (As := [.int z5, .int z6]) (rest := []) ⟨hx, hb, hml, hown, hts⟩ hK hP hN hS (c_X12_draws l D cA ad hI σ τ0 hR z5 z6 (by omega) (by omega) gSI) (cwV 2 hts gX12_odds_X12_draws rfl rfl rfl (by decide +kernel) ⟨by decide, by decide⟩) (rv_M hK hP (by decide) (by decide)) rfl hl.1 rfl (Nat.le_of_ble_eq_true rfl) dX12_odds_80 (Nat.zero_le _) (Nat.zero_le _) (fun r7 u7 H7 locs7 hp7 hP hS => ?_)
    obtain ⟨σ7, τ7⟩ := u7
    obtain ⟨hR, f7, fL7, hq7⟩ : P_X12_draws σ τ0 z5 z6 r7 σ7 τ7 := hp7
    have hP : va_P D vwCl (gw cA ad σ7 τ7) H7 := hP
    obtain rfl := FrL.nil fL7
    have hF := hF.step f7 (by decide)
    have gSI := SI.fr gSI hR f7 (by decide)
    have t8 : (σ7 389 2).toInt = (σ 389 2).toInt := congrArg Int32.toInt (f7.at 389 2 (by decide))
    refine lv_pop hx hb dX12_odds_83 rfl ?_
    refine lv_iload hx hb dX12_odds_84 (lv_at hl 6 rfl) ?_
    refine lv_aload_n hx hb dX12_odds_86 rfl (lv_at hl 1 rfl) ?_
    refine fg_12_6 (k := 387) hx hb hts in_X12_odds_12 hown hK hP (by decide) (by decide) (hts _ lk_X12_odds_33) dX12_odds_87 ?_
    refine r_sipush hx hb dX12_odds_90 (by decide) (fun z9 ez9 => ?_)
    refine lv_iload_n hx hb dX12_odds_93 rfl (lv_at hl 2 rfl) ?_
    refine r_iadd hx hb dX12_odds_94 (by omega) (fun z10 ez10 => ?_)
    refine ad_ms (k := 389) (j := j4) hx hb hK hP (by decide) (by decide) (by omega) (by omega) dX12_odds_95 ?_
    refine lv_iload hx hb dX12_odds_96 (lv_at hl 0 rfl) ?_
    refine lv_iload_n hx hb dX12_odds_98 rfl (lv_at hl 3 rfl) ?_
    refine r_iaddU hx hb dX12_odds_99 (fun z11 => ?_)
    refine r_icmp_le (tgt := 107) hx hb dX12_odds_100 (by decide) (fun c12 => ?_) (fun c12 => ?_)
    · refine r_iconst hx hb dX12_odds_107 (by decide) (fun z13 ez13 => ?_)
      have b15 := And.intro (ti_lo x5) (ti_hi x5)
      refine r_iadd hx hb dX12_odds_108 (by omega) (fun z14 ez14 => ?_)
      refine lv_istore (lv' := [(5, .int z14), (7, .int (σ 389 j4)), (0, .ref (ad 387)), (1, .int a1), (2, .int a2), (3, .int a3), (4, .int a4), (6, .int x6)]) hx hb dX12_odds_109 hl (by decide) rfl (fun ls hl => ?_)
      refine lv_aload_n hx hb dX12_odds_111 rfl (lv_at hl 2 rfl) ?_
      refine r_cVv (k := 387) (As := []) (rest := []) ⟨hx, hb, hml, hown, hts⟩ hK hP hN hS (c_X12_back l D cA ad hI σ7 τ0 hR) (cwV 0 hts gX12_odds_X12_back rfl rfl rfl (by decide +kernel) ⟨by decide, by decide⟩) (rv_M hK hP (by decide) (by decide)) rfl hl.1 rfl (Nat.le_of_ble_eq_true rfl) dX12_odds_112 (Nat.zero_le _) (Nat.zero_le _) (fun u16 H16 locs16 hp16 hP hS => ?_)
      obtain ⟨σ16, τ16⟩ := u16
      obtain ⟨hR, f16, fL16⟩ : P_X12_back σ7 τ0 σ16 τ16 := hp16
      have hP : va_P D vwCl (gw cA ad σ16 τ16) H16 := hP
      obtain rfl := FrL.nil fL16
      have hF := hF.step f16 (by decide)
      have gSI := SI.fr gSI hR f16 (by decide)
      have t17 : (σ16 389 2).toInt = (σ7 389 2).toInt := congrArg Int32.toInt (f16.at 389 2 (by decide))
      refine r_iinc (k := 7) (lv1 := fun z18 => [(6, .int z18), (5, .int z14), (7, .int (σ 389 j4)), (0, .ref (ad 387)), (1, .int a1), (2, .int a2), (3, .int a3), (4, .int a4)]) hx hb dX12_odds_115 hl rfl (by decide) (fun _ => rfl) (by decide) (by omega) (fun z18 ls ez18 hl => ?_)
      refine lv_goto (tgt := 55) hx hb dX12_odds_118 (by decide) ?_
      exact K55 σ16 τ0 H16 locs16 z14 z18 ls hR hF hFL hP hS (by omega) (by omega) (by omega) (by omega) (by omega) (by omega) gSI (lv_sub hl [3, 4, 5, 6, 7, 1, 0] rfl) (by omega)
    · refine r_iconst hx hb dX12_odds_103 (by decide) (fun z19 ez19 => ?_)
      refine lv_goto (tgt := 108) hx hb dX12_odds_104 (by decide) ?_
      refine r_iaddU hx hb dX12_odds_108 (fun z20 => ?_)
      refine lv_istore (lv' := [(5, .int z20), (7, .int (σ 389 j4)), (0, .ref (ad 387)), (1, .int a1), (2, .int a2), (3, .int a3), (4, .int a4), (6, .int x6)]) hx hb dX12_odds_109 hl (by decide) rfl (fun ls hl => ?_)
      refine lv_aload_n hx hb dX12_odds_111 rfl (lv_at hl 2 rfl) ?_
      refine r_cVv (k := 387) (As := []) (rest := []) ⟨hx, hb, hml, hown, hts⟩ hK hP hN hS (c_X12_back l D cA ad hI σ7 τ0 hR) (cwV 0 hts gX12_odds_X12_back rfl rfl rfl (by decide +kernel) ⟨by decide, by decide⟩) (rv_M hK hP (by decide) (by decide)) rfl hl.1 rfl (Nat.le_of_ble_eq_true rfl) dX12_odds_112 (Nat.zero_le _) (Nat.zero_le _) (fun u21 H21 locs21 hp21 hP hS => ?_)
      obtain ⟨σ21, τ21⟩ := u21
      obtain ⟨hR, f21, fL21⟩ : P_X12_back σ7 τ0 σ21 τ21 := hp21
      have hP : va_P D vwCl (gw cA ad σ21 τ21) H21 := hP
      obtain rfl := FrL.nil fL21
      have hF := hF.step f21 (by decide)
      have gSI := SI.fr gSI hR f21 (by decide)
      have t22 : (σ21 389 2).toInt = (σ7 389 2).toInt := congrArg Int32.toInt (f21.at 389 2 (by decide))
      refine r_iinc (k := 7) (lv1 := fun z23 => [(6, .int z23), (5, .int z20), (7, .int (σ 389 j4)), (0, .ref (ad 387)), (1, .int a1), (2, .int a2), (3, .int a3), (4, .int a4)]) hx hb dX12_odds_115 hl rfl (by decide) (fun _ => rfl) (by decide) (by omega) (fun z23 ls ez23 hl => ?_)
      refine lv_goto (tgt := 55) hx hb dX12_odds_118 (by decide) ?_
      exact K55 σ21 τ0 H21 locs21 z20 z23 ls hR hF hFL hP hS (by omega) (by omega) (by omega) (by omega) (by omega) (by omega) gSI (lv_sub hl [3, 4, 5, 6, 7, 1, 0] rfl) (by omega)
theorem A_X12_odds (p : Program) (l : Launch) (e : Env) (s : State) (m : MethodId) (args : Array Value) (below : List Frame) (meth : Method) (c : Code) (D : va_G) (cA : Nat → ClassId) (ad : Nat → Nat) (σ0 : Nat → Nat → Int32) (τ0 : Nat → Nat → Int64) (a1 : Int32) (a2 : Int32) (a3 : Int32) (a4 : Int32) (C : Cy p s m args meth c cX12_odds 8 wsX12_odds RX12 D cA ad (some .int)) (gSI0 : SI σ0) : ∀ n : Nat, J_X12_odds_55 p l e s m args below meth c D cA ad σ0 τ0 a1 a2 a3 a4 n := by
  intro n
  induction n with
  | zero =>
    exact (by intro σ τ H locs x5 x6 ls hR hF hFL hP hS hc0 hc1 hc2 hc3 hc4 hi0 gSI hl hm; exfalso; omega)
  | succ n ih =>
    exact B_X12_odds_55 p l e s m args below meth c D cA ad σ0 τ0 a1 a2 a3 a4 n C gSI0 ih
set_option maxHeartbeats 4000000 in
theorem c_X12_odds (l : Launch) (D : va_G) (cA : Nat → ClassId) (ad : Nat → Nat) (hI : Inj ad) (σ0 : Nat → Nat → Int32) (τ0 : Nat → Nat → Int64) (hR : Rg σ0) (a1 : Int32) (a2 : Int32) (a3 : Int32) (a4 : Int32) (gSI0 : SI σ0) : Met l yX12_odds wsX12_odds ({ frames := 7, cells := 0, slots := 0, locals := 165 } : Room) (WQc D cA ad [.ref (ad 387), .int a1, .int a2, .int a3, .int a4] σ0 τ0) (va_Qi (fun (r : Int32) (u : SS) => P_X12_odds σ0 τ0 a1 a2 a3 a4 r u.1 u.2) (WB D cA ad) (AA ad)) 0 0 (AA ad) := by
  refine Met.ofW (cc := cX12_odds) (maxL := 8) (ret := (some .int)) (by decide) rfl ?_
  intro p e s m args below meth c s₁ B hml hv
  obtain ⟨rfl, hP, hK, hN⟩ := hv
  have C : Cy p s m _ meth c cX12_odds 8 wsX12_odds RX12 D cA ad (some .int) := ⟨B.exec, B.bytes, hml, findClass_of_methodNamed B.named, atoms_spec (ws := wsX12_odds) B.pre, hK, B.notSynchronized, B.returns, hI, hN⟩
  have hl := lv_entry ([.ref (ad 387), .int a1, .int a2, .int a3, .int a4]) (n := 8) (Nat.le_of_ble_eq_true rfl)
  rw [lg_entry_eq]
  generalize (lg_sl ([.ref (ad 387), .int a1, .int a2, .int a3, .int a4]) ++ List.replicate (8 - (lg_sl ([.ref (ad 387), .int a1, .int a2, .int a3, .int a4])).length) Slot.unset).toArray = ls at hl ⊢
  have hl : lv_has ls 8 [(0, .ref (ad 387)), (1, .int a1), (2, .int a2), (3, .int a3), (4, .int a4)] := hl
  have hS : va_S (AA ad) s.heap s.heap [] := va_S.rf
  have hF : Fr L_X12_odds σ0 σ0 := Fr.rf
  have hFL : FrL LL_X12_odds τ0 τ0 := FrL.rf
  have gSI := gSI0
  have hA := A_X12_odds p l e s m _ below meth c D cA ad σ0 τ0 a1 a2 a3 a4 C gSI0 130
  have K55 := hA
  clear hA
  obtain ⟨hx, hb, _, hown, hts, _, hk, hr, _, _⟩ := C
  refine lv_aload_n hx hb dX12_odds_0 rfl (lv_at hl 0 rfl) ?_
  refine r_iconst hx hb dX12_odds_1 (by decide) (fun z1 ez1 => ?_)
  refine fp_12_0 (k := 387) hx hb hts in_X12_odds_12 hown hK hP (by decide) (by decide) (hts _ lk_X12_odds_1) hI hR hS (by omega) dX12_odds_2 (fun σ2 H2 locs2 u2 v2 hR hP hS => ?_)
  have hF := hF.puts u2 0 rfl (by decide) (by decide) (by decide) (by decide)
  have gSI := SI.put gSI hR u2 (by decide)
  refine lv_aload_n hx hb dX12_odds_5 rfl (lv_at hl 0 rfl) ?_
  refine lv_iload_n hx hb dX12_odds_6 rfl (lv_at hl 1 rfl) ?_
  refine r_cVi (k := 387) (As := [.int a1]) (rest := []) ⟨hx, hb, hml, hown, hts⟩ hK hP hN hS (c_X12_isMan l D cA ad hI σ2 τ0 hR a1) (cwV 1 hts gX12_odds_X12_isMan rfl rfl rfl (by decide +kernel) ⟨by decide, by decide⟩) (rv_M hK hP (by decide) (by decide)) rfl hl.1 rfl (Nat.le_of_ble_eq_true rfl) dX12_odds_7 (Nat.zero_le _) (Nat.zero_le _) (fun r3 u3 H3 locs3 hp3 hP hS => ?_)
  obtain ⟨σ3, τ3⟩ := u3
  obtain ⟨hR, f3, fL3, hq3, hp3_0⟩ : P_X12_isMan σ2 τ0 a1 r3 σ3 τ3 := hp3
  have hP : va_P D vwCl (gw cA ad σ3 τ3) H3 := hP
  obtain rfl := FrL.nil fL3
  obtain rfl := Fr.nil f3
  refine r_if_eq (tgt := 43) hx hb dX12_odds_10 (by decide) (fun c4 => ?_) (fun c4 => ?_)
  · clear hp3_0
    refine r_iconst hx hb dX12_odds_43 (by decide) (fun z5 ez5 => ?_)
    exact r_iret hx hb hr hK hP hS hk dX12_odds_44 (show P_X12_odds σ0 τ0 a1 a2 a3 a4 z5 σ2 τ0 from ⟨hR, hF, hFL⟩)
  · replace hp3_0 := hp3_0.resolve_left (by omega)
    refine lv_iload_n hx hb dX12_odds_13 rfl (lv_at hl 2 rfl) ?_
    refine r_iconst hx hb dX12_odds_14 (by decide) (fun z6 ez6 => ?_)
    refine r_sipush hx hb dX12_odds_15 (by decide) (fun z7 ez7 => ?_)
    refine r_cSi (As := [.int a2, .int z6, .int z7]) (rest := []) ⟨hx, hb, hml, hown, hts⟩ hK hP hN hS (c_X12_isIn l D cA ad hI σ2 τ0 hR a2 z6 z7) (va_cwS 3 hts gX12_odds_X12_isIn rfl rfl rfl (by decide +kernel) ⟨by decide, by decide⟩) rfl hl.1 rfl (Nat.le_of_ble_eq_true rfl) dX12_odds_18 (Nat.zero_le _) (Nat.zero_le _) (fun r8 u8 H8 locs8 hp8 hP hS => ?_)
    obtain ⟨σ8, τ8⟩ := u8
    obtain ⟨hR, f8, fL8, hq8, hp8_0, hp8_1⟩ : P_X12_isIn σ2 τ0 a2 z6 z7 r8 σ8 τ8 := hp8
    have hP : va_P D vwCl (gw cA ad σ8 τ8) H8 := hP
    obtain rfl := FrL.nil fL8
    obtain rfl := Fr.nil f8
    refine r_if_eq (tgt := 43) hx hb dX12_odds_21 (by decide) (fun c9 => ?_) (fun c9 => ?_)
    · clear hp8_0
      refine r_iconst hx hb dX12_odds_43 (by decide) (fun z10 ez10 => ?_)
      exact r_iret hx hb hr hK hP hS hk dX12_odds_44 (show P_X12_odds σ0 τ0 a1 a2 a3 a4 z10 σ2 τ0 from ⟨hR, hF, hFL⟩)
    · replace hp8_0 := hp8_0.resolve_left (by omega)
      refine lv_iload_n hx hb dX12_odds_24 rfl (lv_at hl 3 rfl) ?_
      refine r_iconst hx hb dX12_odds_25 (by decide) (fun z11 ez11 => ?_)
      refine r_bipush hx hb dX12_odds_26 (by decide) (fun z12 ez12 => ?_)
      refine r_cSi (As := [.int a3, .int z11, .int z12]) (rest := []) ⟨hx, hb, hml, hown, hts⟩ hK hP hN hS (c_X12_isIn l D cA ad hI σ2 τ0 hR a3 z11 z12) (va_cwS 3 hts gX12_odds_X12_isIn rfl rfl rfl (by decide +kernel) ⟨by decide, by decide⟩) rfl hl.1 rfl (Nat.le_of_ble_eq_true rfl) dX12_odds_28 (Nat.zero_le _) (Nat.zero_le _) (fun r13 u13 H13 locs13 hp13 hP hS => ?_)
      obtain ⟨σ13, τ13⟩ := u13
      obtain ⟨hR, f13, fL13, hq13, hp13_0, hp13_1⟩ : P_X12_isIn σ2 τ0 a3 z11 z12 r13 σ13 τ13 := hp13
      have hP : va_P D vwCl (gw cA ad σ13 τ13) H13 := hP
      obtain rfl := FrL.nil fL13
      obtain rfl := Fr.nil f13
      refine r_if_eq (tgt := 43) hx hb dX12_odds_31 (by decide) (fun c14 => ?_) (fun c14 => ?_)
      · clear hp13_0
        refine r_iconst hx hb dX12_odds_43 (by decide) (fun z15 ez15 => ?_)
        exact r_iret hx hb hr hK hP hS hk dX12_odds_44 (show P_X12_odds σ0 τ0 a1 a2 a3 a4 z15 σ2 τ0 from ⟨hR, hF, hFL⟩)
      · replace hp13_0 := hp13_0.resolve_left (by omega)
        refine lv_aload_n hx hb dX12_odds_34 rfl (lv_at hl 0 rfl) ?_
        refine fg_12_6 (k := 387) hx hb hts in_X12_odds_12 hown hK hP (by decide) (by decide) (hts _ lk_X12_odds_33) dX12_odds_35 ?_
        refine r_iconst hx hb dX12_odds_38 (by decide) (fun z16 ez16 => ?_)
        refine ad_ms (k := 389) (j := 2) hx hb hK hP (by decide) (by decide) (by omega) (by omega) dX12_odds_39 ?_
        have hr17 := ra_ms_1 hR (k := 389) (j := 2) (by decide) (by decide) (by decide) (by decide)
        refine r_if_ne (tgt := 45) hx hb dX12_odds_40 (by decide) (fun c18 => ?_) (fun c18 => ?_)
        · refine lv_aload_n hx hb dX12_odds_45 rfl (lv_at hl 0 rfl) ?_
          refine r_cVv (k := 387) (As := []) (rest := []) ⟨hx, hb, hml, hown, hts⟩ hK hP hN hS (c_X12_tries l D cA ad hI σ2 τ0 hR) (cwV 0 hts gX12_odds_X12_tries rfl rfl rfl (by decide +kernel) ⟨by decide, by decide⟩) (rv_M hK hP (by decide) (by decide)) rfl hl.1 rfl (Nat.le_of_ble_eq_true rfl) dX12_odds_46 (Nat.zero_le _) (Nat.zero_le _) (fun u19 H19 locs19 hp19 hP hS => ?_)
          obtain ⟨σ19, τ19⟩ := u19
          obtain ⟨hR, f19, fL19⟩ : P_X12_tries σ2 τ0 σ19 τ19 := hp19
          have hP : va_P D vwCl (gw cA ad σ19 τ19) H19 := hP
          obtain rfl := FrL.nil fL19
          have hF := hF.step f19 (by decide)
          have gSI := SI.fr gSI hR f19 (by decide)
          have t20 : (σ19 389 2).toInt = (σ2 389 2).toInt := congrArg Int32.toInt (f19.at 389 2 (by decide))
          refine r_iconst hx hb dX12_odds_49 (by decide) (fun z21 ez21 => ?_)
          refine lv_istore (lv' := [(5, .int z21), (0, .ref (ad 387)), (1, .int a1), (2, .int a2), (3, .int a3), (4, .int a4)]) hx hb dX12_odds_50 hl (by decide) rfl (fun ls hl => ?_)
          refine r_iconst hx hb dX12_odds_52 (by decide) (fun z22 ez22 => ?_)
          refine lv_istore (lv' := [(6, .int z22), (5, .int z21), (0, .ref (ad 387)), (1, .int a1), (2, .int a2), (3, .int a3), (4, .int a4)]) hx hb dX12_odds_53 hl (by decide) rfl (fun ls hl => ?_)
          exact K55 σ19 τ0 H19 locs19 z21 z22 ls hR hF hFL hP hS (by omega) (by omega) (by omega) (by omega) (by omega) (by omega) gSI (lv_sub hl [2, 3, 4, 5, 6, 1, 0] rfl) (by omega)
        · refine r_iconst hx hb dX12_odds_43 (by decide) (fun z23 ez23 => ?_)
          exact r_iret hx hb hr hK hP hS hk dX12_odds_44 (show P_X12_odds σ0 τ0 a1 a2 a3 a4 z23 σ2 τ0 from ⟨hR, hF, hFL⟩)
theorem in_X12_livesLine_12 : ∀ w ∈ u_ws RX12 TX12 47, w ∈ wsX12_livesLine := by decide +kernel
theorem lk_X12_livesLine_33 : Cond.fieldLink RX12 33 "CuckooSharesModel" "s" "[I" ∈ wsX12_livesLine := by decide +kernel
abbrev L_X12_livesLine : List Rc := [(394, 394, 0, 7), (395, 395, 0, 7), (396, 396, 0, 7), (387, 387, 26, 26), (397, 397, 0, 7), (389, 389, 211, 245)]
abbrev LL_X12_livesLine : List Rc := []
def P_X12_livesLine (σ0 : Nat → Nat → Int32) (τ0 : Nat → Nat → Int64) (a1 : Int32) (a2 : Int32) (a3 : Int32) (σ : Nat → Nat → Int32) (τ : Nat → Nat → Int64) : Prop := Rg σ ∧ Fr L_X12_livesLine σ0 σ ∧ FrL LL_X12_livesLine τ0 τ
set_option maxHeartbeats 4000000 in
theorem c_X12_livesLine (l : Launch) (D : va_G) (cA : Nat → ClassId) (ad : Nat → Nat) (hI : Inj ad) (σ0 : Nat → Nat → Int32) (τ0 : Nat → Nat → Int64) (hR : Rg σ0) (a1 : Int32) (a2 : Int32) (a3 : Int32) (hpre0 : a1.toInt < 1 ∨ 3 < a1.toInt ∨ (0 ≤ a2.toInt ∧ a2.toInt ≤ 7)) (hpre1 : a1.toInt ≠ 2 ∨ (0 ≤ a3.toInt ∧ a3.toInt ≤ 9)) (hpre2 : a1.toInt ≠ 3 ∨ (0 ≤ a3.toInt ∧ a3.toInt ≤ 7)) (hpre3 : a1.toInt ≠ 1 ∨ (0 ≤ a3.toInt ∧ a3.toInt ≤ 7)) (hpre4 : a1.toInt ≠ 0 ∨ (0 ≤ a2.toInt ∧ a2.toInt ≤ 3)) : Met l yX12_livesLine wsX12_livesLine ({ frames := 5, cells := 0, slots := 0, locals := 112 } : Room) (WQc D cA ad [.ref (ad 387), .int a1, .int a2, .int a3] σ0 τ0) (va_Qv (fun u : SS => P_X12_livesLine σ0 τ0 a1 a2 a3 u.1 u.2) (WB D cA ad) (AA ad)) 0 0 (AA ad) := by
  refine Met.ofW (cc := cX12_livesLine) (maxL := 4) (ret := none) (by decide) rfl ?_
  intro p e s m args below meth c s₁ B hml hv
  obtain ⟨rfl, hP, hK, hN⟩ := hv
  have C : Cy p s m _ meth c cX12_livesLine 4 wsX12_livesLine RX12 D cA ad none := ⟨B.exec, B.bytes, hml, findClass_of_methodNamed B.named, atoms_spec (ws := wsX12_livesLine) B.pre, hK, B.notSynchronized, B.returns, hI, hN⟩
  have hl := lv_entry ([.ref (ad 387), .int a1, .int a2, .int a3]) (n := 4) (Nat.le_of_ble_eq_true rfl)
  rw [lg_entry_eq]
  generalize (lg_sl ([.ref (ad 387), .int a1, .int a2, .int a3]) ++ List.replicate (4 - (lg_sl ([.ref (ad 387), .int a1, .int a2, .int a3])).length) Slot.unset).toArray = ls at hl ⊢
  have hl : lv_has ls 4 [(0, .ref (ad 387)), (1, .int a1), (2, .int a2), (3, .int a3)] := hl
  have hS : va_S (AA ad) s.heap s.heap [] := va_S.rf
  have hF : Fr L_X12_livesLine σ0 σ0 := Fr.rf
  have hFL : FrL LL_X12_livesLine τ0 τ0 := FrL.rf
  obtain ⟨hx, hb, _, hown, hts, _, hk, hr, _, _⟩ := C
  refine lv_iload_n hx hb dX12_livesLine_0 rfl (lv_at hl 1 rfl) ?_
  by_cases c1 : a1.toInt = 0
  · refine lv_tableIn (off := 35) (tgt := 36) hx hb dX12_livesLine_1 (by omega) (by omega) (by rw [c1]; rfl) (by decide) ?_
    refine lv_aload_n hx hb dX12_livesLine_36 rfl (lv_at hl 0 rfl) ?_
    refine fg_12_6 (k := 387) hx hb hts in_X12_livesLine_12 hown hK hP (by decide) (by decide) (hts _ lk_X12_livesLine_33) dX12_livesLine_37 ?_
    refine r_sipush hx hb dX12_livesLine_40 (by decide) (fun z2 ez2 => ?_)
    refine lv_iload_n hx hb dX12_livesLine_43 rfl (lv_at hl 2 rfl) ?_
    refine r_iconst hx hb dX12_livesLine_44 (by decide) (fun z3 ez3 => ?_)
    refine r_iadd hx hb dX12_livesLine_45 (by omega) (fun z4 ez4 => ?_)
    refine as_ms (k := 389) (j := 212) hx hb hK hP hI hR hS (by decide) (by decide) (by omega) (by omega) (rw_ms_5 (by decide) (by decide) (by decide) (by decide) (by omega)) dX12_livesLine_46 (fun σ5 H5 locs5 u5 v5 hR hP hS => ?_)
    have hF := hF.puts u5 5 rfl (by decide) (by decide) (by decide) (by decide)
    refine lv_goto (tgt := 116) hx hb dX12_livesLine_47 (by decide) ?_
    exact r_vret hx hb hr hK hP hS hk dX12_livesLine_116 (show P_X12_livesLine σ0 τ0 a1 a2 a3 σ5 τ0 from ⟨hR, hF, hFL⟩)
  by_cases c6 : a1.toInt = 1
  · refine lv_tableIn (off := 49) (tgt := 50) hx hb dX12_livesLine_1 (by omega) (by omega) (by rw [c6]; rfl) (by decide) ?_
    refine lv_aload_n hx hb dX12_livesLine_50 rfl (lv_at hl 0 rfl) ?_
    refine fg_12_6 (k := 387) hx hb hts in_X12_livesLine_12 hown hK hP (by decide) (by decide) (hts _ lk_X12_livesLine_33) dX12_livesLine_51 ?_
    refine r_sipush hx hb dX12_livesLine_54 (by decide) (fun z7 ez7 => ?_)
    refine lv_iload_n hx hb dX12_livesLine_57 rfl (lv_at hl 2 rfl) ?_
    refine r_iadd hx hb dX12_livesLine_58 (by omega) (fun z8 ez8 => ?_)
    refine lv_iload_n hx hb dX12_livesLine_59 rfl (lv_at hl 3 rfl) ?_
    obtain ⟨j9, ej9⟩ : ∃ j : Nat, z8.toInt = (j : Int) := ⟨_, ti_nat (by omega)⟩
    refine as_ms (k := 389) (j := j9) hx hb hK hP hI hR hS (by decide) (by decide) ej9 (by omega) (rw_ms_6 (by decide) (by decide) (by omega) (by omega) (by omega)) dX12_livesLine_60 (fun σ10 H10 locs10 u10 v10 hR hP hS => ?_)
    have hF := hF.puts u10 5 rfl (by decide) (by decide) (by omega) (by omega)
    refine lv_goto (tgt := 116) hx hb dX12_livesLine_61 (by decide) ?_
    exact r_vret hx hb hr hK hP hS hk dX12_livesLine_116 (show P_X12_livesLine σ0 τ0 a1 a2 a3 σ10 τ0 from ⟨hR, hF, hFL⟩)
  by_cases c11 : a1.toInt = 2
  · refine lv_tableIn (off := 63) (tgt := 64) hx hb dX12_livesLine_1 (by omega) (by omega) (by rw [c11]; rfl) (by decide) ?_
    refine lv_aload_n hx hb dX12_livesLine_64 rfl (lv_at hl 0 rfl) ?_
    refine lv_iload_n hx hb dX12_livesLine_65 rfl (lv_at hl 2 rfl) ?_
    refine lv_iload_n hx hb dX12_livesLine_66 rfl (lv_at hl 3 rfl) ?_
    refine r_cVv (k := 387) (As := [.int a2, .int a3]) (rest := []) ⟨hx, hb, hml, hown, hts⟩ hK hP hN hS (c_X12_swearsTo l D cA ad hI σ0 τ0 hR a2 a3 (by omega) (by omega)) (cwV 2 hts gX12_livesLine_X12_swearsTo rfl rfl rfl (by decide +kernel) ⟨by decide, by decide⟩) (rv_M hK hP (by decide) (by decide)) rfl hl.1 rfl (Nat.le_of_ble_eq_true rfl) dX12_livesLine_67 (Nat.zero_le _) (Nat.zero_le _) (fun u12 H12 locs12 hp12 hP hS => ?_)
    obtain ⟨σ12, τ12⟩ := u12
    obtain ⟨hR, f12, fL12⟩ : P_X12_swearsTo σ0 τ0 a2 a3 σ12 τ12 := hp12
    have hP : va_P D vwCl (gw cA ad σ12 τ12) H12 := hP
    obtain rfl := FrL.nil fL12
    have hF := hF.step f12 (by decide)
    refine lv_goto (tgt := 116) hx hb dX12_livesLine_70 (by decide) ?_
    exact r_vret hx hb hr hK hP hS hk dX12_livesLine_116 (show P_X12_livesLine σ0 τ0 a1 a2 a3 σ12 τ0 from ⟨hR, hF, hFL⟩)
  by_cases c13 : a1.toInt = 3
  · refine lv_tableIn (off := 72) (tgt := 73) hx hb dX12_livesLine_1 (by omega) (by omega) (by rw [c13]; rfl) (by decide) ?_
    refine lv_aload_n hx hb dX12_livesLine_73 rfl (lv_at hl 0 rfl) ?_
    refine lv_iload_n hx hb dX12_livesLine_74 rfl (lv_at hl 2 rfl) ?_
    refine lv_iload_n hx hb dX12_livesLine_75 rfl (lv_at hl 3 rfl) ?_
    refine r_cVv (k := 387) (As := [.int a2, .int a3]) (rest := []) ⟨hx, hb, hml, hown, hts⟩ hK hP hN hS (c_X12_accuses l D cA ad hI σ0 τ0 hR a2 a3 (by omega) (by omega)) (cwV 2 hts gX12_livesLine_X12_accuses rfl rfl rfl (by decide +kernel) ⟨by decide, by decide⟩) (rv_M hK hP (by decide) (by decide)) rfl hl.1 rfl (Nat.le_of_ble_eq_true rfl) dX12_livesLine_76 (Nat.zero_le _) (Nat.zero_le _) (fun u14 H14 locs14 hp14 hP hS => ?_)
    obtain ⟨σ14, τ14⟩ := u14
    obtain ⟨hR, f14, fL14⟩ : P_X12_accuses σ0 τ0 a2 a3 σ14 τ14 := hp14
    have hP : va_P D vwCl (gw cA ad σ14 τ14) H14 := hP
    obtain rfl := FrL.nil fL14
    have hF := hF.step f14 (by decide)
    refine lv_goto (tgt := 116) hx hb dX12_livesLine_79 (by decide) ?_
    exact r_vret hx hb hr hK hP hS hk dX12_livesLine_116 (show P_X12_livesLine σ0 τ0 a1 a2 a3 σ14 τ0 from ⟨hR, hF, hFL⟩)
  by_cases c15 : a1.toInt = 4
  · refine lv_tableIn (off := 81) (tgt := 82) hx hb dX12_livesLine_1 (by omega) (by omega) (by rw [c15]; rfl) (by decide) ?_
    refine lv_aload_n hx hb dX12_livesLine_82 rfl (lv_at hl 0 rfl) ?_
    refine r_cVv (k := 387) (As := []) (rest := []) ⟨hx, hb, hml, hown, hts⟩ hK hP hN hS (c_X12_sharesNow l D cA ad hI σ0 τ0 hR) (cwV 0 hts gX12_livesLine_X12_sharesNow rfl rfl rfl (by decide +kernel) ⟨by decide, by decide⟩) (rv_M hK hP (by decide) (by decide)) rfl hl.1 rfl (Nat.le_of_ble_eq_true rfl) dX12_livesLine_83 (Nat.zero_le _) (Nat.zero_le _) (fun u16 H16 locs16 hp16 hP hS => ?_)
    obtain ⟨σ16, τ16⟩ := u16
    obtain ⟨hR, f16, fL16⟩ : P_X12_sharesNow σ0 τ0 σ16 τ16 := hp16
    have hP : va_P D vwCl (gw cA ad σ16 τ16) H16 := hP
    obtain rfl := FrL.nil fL16
    have hF := hF.step f16 (by decide)
    refine lv_aload_n hx hb dX12_livesLine_86 rfl (lv_at hl 0 rfl) ?_
    refine r_cVv (k := 387) (As := []) (rest := []) ⟨hx, hb, hml, hown, hts⟩ hK hP hN hS (c_X12_ends l D cA ad hI σ16 τ0 hR) (cwV 0 hts gX12_livesLine_X12_ends rfl rfl rfl (by decide +kernel) ⟨by decide, by decide⟩) (rv_M hK hP (by decide) (by decide)) rfl hl.1 rfl (Nat.le_of_ble_eq_true rfl) dX12_livesLine_87 (Nat.zero_le _) (Nat.zero_le _) (fun u17 H17 locs17 hp17 hP hS => ?_)
    obtain ⟨σ17, τ17⟩ := u17
    obtain ⟨hR, f17, fL17⟩ : P_X12_ends σ16 τ0 σ17 τ17 := hp17
    have hP : va_P D vwCl (gw cA ad σ17 τ17) H17 := hP
    obtain rfl := FrL.nil fL17
    have hF := hF.step f17 (by decide)
    refine lv_goto (tgt := 116) hx hb dX12_livesLine_90 (by decide) ?_
    exact r_vret hx hb hr hK hP hS hk dX12_livesLine_116 (show P_X12_livesLine σ0 τ0 a1 a2 a3 σ17 τ0 from ⟨hR, hF, hFL⟩)
  refine lv_tableOut (tgt := 93) hx hb dX12_livesLine_1 (by omega) (by decide) ?_
  refine lv_aload_n hx hb dX12_livesLine_93 rfl (lv_at hl 0 rfl) ?_
  refine fg_12_6 (k := 387) hx hb hts in_X12_livesLine_12 hown hK hP (by decide) (by decide) (hts _ lk_X12_livesLine_33) dX12_livesLine_94 ?_
  refine r_sipush hx hb dX12_livesLine_97 (by decide) (fun z18 ez18 => ?_)
  refine r_bipush hx hb dX12_livesLine_100 (by decide) (fun z19 ez19 => ?_)
  refine lv_aload_n hx hb dX12_livesLine_102 rfl (lv_at hl 0 rfl) ?_
  refine fg_12_6 (k := 387) hx hb hts in_X12_livesLine_12 hown hK hP (by decide) (by decide) (hts _ lk_X12_livesLine_33) dX12_livesLine_103 ?_
  refine r_sipush hx hb dX12_livesLine_106 (by decide) (fun z20 ez20 => ?_)
  refine ad_ms (k := 389) (j := 213) hx hb hK hP (by decide) (by decide) (by omega) (by omega) dX12_livesLine_109 ?_
  refine lv_iload_n hx hb dX12_livesLine_110 rfl (lv_at hl 2 rfl) ?_
  refine r_iaddU hx hb dX12_livesLine_111 (fun z21 => ?_)
  refine r_cSi (As := [.int z19, .int z21]) (rest := [.int z18, .ref (ad 389)]) ⟨hx, hb, hml, hown, hts⟩ hK hP hN hS (c_X12_lesser l D cA ad hI σ0 τ0 hR z19 z21 (by omega)) (va_cwS 2 hts gX12_livesLine_X12_lesser rfl rfl rfl (by decide +kernel) ⟨by decide, by decide⟩) rfl hl.1 rfl (Nat.le_of_ble_eq_true rfl) dX12_livesLine_112 (Nat.zero_le _) (Nat.zero_le _) (fun r22 u22 H22 locs22 hp22 hP hS => ?_)
  obtain ⟨σ22, τ22⟩ := u22
  obtain ⟨hR, f22, fL22, hq22⟩ : P_X12_lesser σ0 τ0 z19 z21 r22 σ22 τ22 := hp22
  have hP : va_P D vwCl (gw cA ad σ22 τ22) H22 := hP
  obtain rfl := FrL.nil fL22
  obtain rfl := Fr.nil f22
  refine as_ms (k := 389) (j := 213) hx hb hK hP hI hR hS (by decide) (by decide) (by omega) (by omega) (rx_ms_213 (by decide) (by decide) (by decide) (by decide)) dX12_livesLine_115 (fun σ23 H23 locs23 u23 v23 hR hP hS => ?_)
  have hF := hF.puts u23 5 rfl (by decide) (by decide) (by decide) (by decide)
  exact r_vret hx hb hr hK hP hS hk dX12_livesLine_116 (show P_X12_livesLine σ0 τ0 a1 a2 a3 σ23 τ0 from ⟨hR, hF, hFL⟩)
abbrev L_X12_find_x : List Rc := []
abbrev LL_X12_find_x : List Rc := []
def P_X12_find_x (σ0 : Nat → Nat → Int32) (τ0 : Nat → Nat → Int64) (a1 : Int32) (a2 : Int32) (r : Int32) (σ : Nat → Nat → Int32) (τ : Nat → Nat → Int64) : Prop := Rg σ ∧ Fr L_X12_find_x σ0 σ ∧ FrL LL_X12_find_x τ0 τ ∧ (-1 ≤ r.toInt ∧ r.toInt ≤ 7) ∧ (r.toInt = -1 ∨ r.toInt < a2.toInt) ∧ (r.toInt = fndq (fun i => τ0 392 (a1.toInt.toNat + i)) (τ0 387 17) a2.toInt.toNat)
def J_X12_find_x_2 (p : Program) (l : Launch) (e : Env) (s : State) (m : MethodId) (args : Array Value) (below : List Frame) (meth : Method) (c : Code) (D : va_G) (cA : Nat → ClassId) (ad : Nat → Nat) (σ0 : Nat → Nat → Int32) (τ0 : Nat → Nat → Int64) (a1 : Int32) (a2 : Int32) (n : Nat) : Prop := ∀ (σ : Nat → Nat → Int32) (τ : Nat → Nat → Int64) (H : Heap) (locs : List Loc) (x3 : Int32) (ls : Array Slot), Rg σ → Fr L_X12_find_x σ0 σ → FrL LL_X12_find_x τ0 τ → va_P D vwCl (gw cA ad σ τ) H → va_S (AA ad) s.heap H locs → (0 ≤ x3.toInt ∧ x3.toInt ≤ 8) → (∀ i : Nat, (i : Int) < x3.toInt → τ0 392 (a1.toInt.toNat + i) ≠ τ0 387 17) → lv_has ls 4 [(0, .ref (ad 387)), (1, .int a1), (2, .int a2), (3, .int x3)] → 2 * (8 - x3.toInt) + 1 < (n : Int) → W p l e ({ frames := 0, cells := 0, slots := 0, locals := 0 } : Room) s m args below meth c H locs 0 0 (MQ below (va_Qi (fun (r : Int32) (u : SS) => P_X12_find_x σ0 τ0 a1 a2 r u.1 u.2) (WB D cA ad) (AA ad)) args s 0 0 (AA ad)) (F0 m 2 ls [])
set_option maxHeartbeats 4000000 in
theorem B_X12_find_x_2 (p : Program) (l : Launch) (e : Env) (s : State) (m : MethodId) (args : Array Value) (below : List Frame) (meth : Method) (c : Code) (D : va_G) (cA : Nat → ClassId) (ad : Nat → Nat) (σ0 : Nat → Nat → Int32) (τ0 : Nat → Nat → Int64) (a1 : Int32) (a2 : Int32) (n : Nat) (C : Cy p s m args meth c cX12_find 4 wsX12_find RX12 D cA ad (some .int)) (ha1 : 0 ≤ a1.toInt ∧ a1.toInt ≤ 8) (ha2 : 0 ≤ a2.toInt ∧ a2.toInt ≤ 8) (K2 : J_X12_find_x_2 p l e s m args below meth c D cA ad σ0 τ0 a1 a2 n) : J_X12_find_x_2 p l e s m args below meth c D cA ad σ0 τ0 a1 a2 (n + 1) := by
  obtain ⟨hx, hb, hml, hown, hts, hK, hk, hr, hI, hN⟩ := C
  intro σ τ H locs x3 ls hR hF hFL hP hS hc0 hi0 hl hm
  obtain rfl := Fr.nil hF
  obtain rfl := FrL.nil hFL
  refine lv_iload_n hx hb dX12_find_2 rfl (lv_at hl 3 rfl) ?_
  refine lv_iload_n hx hb dX12_find_3 rfl (lv_at hl 2 rfl) ?_
  refine r_icmp_ge (tgt := 31) hx hb dX12_find_4 (by decide) (fun c1 => ?_) (fun c1 => ?_)
  · refine r_iconst hx hb dX12_find_31 (by decide) (fun z2 ez2 => ?_)
    exact r_iret hx hb hr hK hP hS hk dX12_find_32 (show P_X12_find_x σ0 τ0 a1 a2 z2 σ0 τ0 from ⟨hR, hF, hFL, by omega, by omega, by first | (rw [fndq_at (i := x3.toInt.toNat) (show τ0 392 (a1.toInt.toNat + x3.toInt.toNat) = τ0 387 17 by rw [← show 0 = a1.toInt.toNat + x3.toInt.toNat by omega]; exact lc.mp (by omega)) (fun j hj => hi0 j (by omega)) (by omega)]; omega) | (rw [fndq_no (fun i hi => hi0 i (by omega))]; omega)⟩)
  · refine lv_aload_n hx hb dX12_find_7 rfl (lv_at hl 0 rfl) ?_
    refine fg_12_9 (k := 387) hx hb hts in_X12_find_12 hown hK hP (by decide) (by decide) (hts _ lk_X12_find_43) dX12_find_8 ?_
    refine lv_iload_n hx hb dX12_find_11 rfl (lv_at hl 1 rfl) ?_
    refine lv_iload_n hx hb dX12_find_12 rfl (lv_at hl 3 rfl) ?_
    refine r_iadd hx hb dX12_find_13 (by omega) (fun z3 ez3 => ?_)
    obtain ⟨j4, ej4⟩ : ∃ j : Nat, z3.toInt = (j : Int) := ⟨_, ti_nat (by omega)⟩
    refine adL_mnames (k := 392) (j := j4) hx hb hK hP (by decide) (by decide) ej4 (by omega) dX12_find_14 ?_
    refine lv_aload_n hx hb dX12_find_15 rfl (lv_at hl 0 rfl) ?_
    refine fg_12_17 (k := 387) hx hb hts in_X12_find_12 hown hK hP (by decide) (by decide) (hts _ lk_X12_find_172) dX12_find_16 ?_
    refine r_lcmpE hx hb dX12_find_19 (fun z5 ez5 => ?_)
    have lc := ez5
    refine r_if_ne (tgt := 25) hx hb dX12_find_20 (by decide) (fun c6 => ?_) (fun c6 => ?_)
    · refine r_iinc (k := 3) (lv1 := fun z7 => [(3, .int z7), (0, .ref (ad 387)), (1, .int a1), (2, .int a2)]) hx hb dX12_find_25 hl rfl (by decide) (fun _ => rfl) (by decide) (by omega) (fun z7 ls ez7 hl => ?_)
      refine lv_goto (tgt := 2) hx hb dX12_find_28 (by decide) ?_
      exact K2 σ0 τ0 H locs z7 ls hR hF hFL hP hS (by omega) (by first | exact (fun i hi => absurd hi (by omega)) | exact allS hi0 (fun g => absurd (lc.mpr (by rw [show j4 = a1.toInt.toNat + x3.toInt.toNat by omega]; exact g)) (by omega)) (by omega) (by omega)) (lv_sub hl [1, 2, 3, 0] rfl) (by omega)
    · refine lv_iload_n hx hb dX12_find_23 rfl (lv_at hl 3 rfl) ?_
      exact r_iret hx hb hr hK hP hS hk dX12_find_24 (show P_X12_find_x σ0 τ0 a1 a2 x3 σ0 τ0 from ⟨hR, hF, hFL, by omega, by omega, by first | (rw [fndq_at (i := x3.toInt.toNat) (show τ0 392 (a1.toInt.toNat + x3.toInt.toNat) = τ0 387 17 by rw [← show j4 = a1.toInt.toNat + x3.toInt.toNat by omega]; exact lc.mp (by omega)) (fun j hj => hi0 j (by omega)) (by omega)]; omega) | (rw [fndq_no (fun i hi => hi0 i (by omega))]; omega)⟩)
theorem A_X12_find_x (p : Program) (l : Launch) (e : Env) (s : State) (m : MethodId) (args : Array Value) (below : List Frame) (meth : Method) (c : Code) (D : va_G) (cA : Nat → ClassId) (ad : Nat → Nat) (σ0 : Nat → Nat → Int32) (τ0 : Nat → Nat → Int64) (a1 : Int32) (a2 : Int32) (C : Cy p s m args meth c cX12_find 4 wsX12_find RX12 D cA ad (some .int)) (ha1 : 0 ≤ a1.toInt ∧ a1.toInt ≤ 8) (ha2 : 0 ≤ a2.toInt ∧ a2.toInt ≤ 8) : ∀ n : Nat, J_X12_find_x_2 p l e s m args below meth c D cA ad σ0 τ0 a1 a2 n := by
  intro n
  induction n with
  | zero =>
    exact (by intro σ τ H locs x3 ls hR hF hFL hP hS hc0 hi0 hl hm; exfalso; omega)
  | succ n ih =>
    exact B_X12_find_x_2 p l e s m args below meth c D cA ad σ0 τ0 a1 a2 n C ha1 ha2 ih
set_option maxHeartbeats 4000000 in
theorem c_X12_find_x (l : Launch) (D : va_G) (cA : Nat → ClassId) (ad : Nat → Nat) (hI : Inj ad) (σ0 : Nat → Nat → Int32) (τ0 : Nat → Nat → Int64) (hR : Rg σ0) (a1 : Int32) (a2 : Int32) (ha1 : 0 ≤ a1.toInt ∧ a1.toInt ≤ 8) (ha2 : 0 ≤ a2.toInt ∧ a2.toInt ≤ 8) : Met l yX12_find wsX12_find ({ frames := 0, cells := 0, slots := 0, locals := 0 } : Room) (WQc D cA ad [.ref (ad 387), .int a1, .int a2] σ0 τ0) (va_Qi (fun (r : Int32) (u : SS) => P_X12_find_x σ0 τ0 a1 a2 r u.1 u.2) (WB D cA ad) (AA ad)) 0 0 (AA ad) := by
  refine Met.ofW (cc := cX12_find) (maxL := 4) (ret := (some .int)) (by decide) rfl ?_
  intro p e s m args below meth c s₁ B hml hv
  obtain ⟨rfl, hP, hK, hN⟩ := hv
  have C : Cy p s m _ meth c cX12_find 4 wsX12_find RX12 D cA ad (some .int) := ⟨B.exec, B.bytes, hml, findClass_of_methodNamed B.named, atoms_spec (ws := wsX12_find) B.pre, hK, B.notSynchronized, B.returns, hI, hN⟩
  have hl := lv_entry ([.ref (ad 387), .int a1, .int a2]) (n := 4) (Nat.le_of_ble_eq_true rfl)
  rw [lg_entry_eq]
  generalize (lg_sl ([.ref (ad 387), .int a1, .int a2]) ++ List.replicate (4 - (lg_sl ([.ref (ad 387), .int a1, .int a2])).length) Slot.unset).toArray = ls at hl ⊢
  have hl : lv_has ls 4 [(0, .ref (ad 387)), (1, .int a1), (2, .int a2)] := hl
  have hS : va_S (AA ad) s.heap s.heap [] := va_S.rf
  have hF : Fr L_X12_find_x σ0 σ0 := Fr.rf
  have hFL : FrL LL_X12_find_x τ0 τ0 := FrL.rf
  have hA := A_X12_find_x p l e s m _ below meth c D cA ad σ0 τ0 a1 a2 C ha1 ha2 42
  have K2 := hA
  clear hA
  obtain ⟨hx, hb, _, hown, hts, _, hk, hr, _, _⟩ := C
  refine r_iconst hx hb dX12_find_0 (by decide) (fun z1 ez1 => ?_)
  refine lv_istore_n (lv' := [(3, .int z1), (0, .ref (ad 387)), (1, .int a1), (2, .int a2)]) hx hb dX12_find_1 rfl hl (by decide) rfl (fun ls hl => ?_)
  exact K2 σ0 τ0 s.heap [] z1 ls hR hF hFL hP hS (by omega) (by first | exact (fun i hi => absurd hi (by omega)) | exact allS hi0 (fun g => absurd (lc.mpr (by rw [show 0 = a1.toInt.toNat + x3.toInt.toNat by omega]; exact g)) (by omega)) (by omega) (by omega)) (lv_sub hl [1, 2, 3, 0] rfl) (by omega)
