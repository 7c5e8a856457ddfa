theorem in_X12_beside_12 : ∀ w ∈ u_ws RX12 TX12 47, w ∈ wsX12_beside := by decide +kernel
theorem lk_X12_beside_1 : Cond.fieldLink RX12 1 "CuckooSharesModel" "thrown" "I" ∈ wsX12_beside := by decide +kernel
theorem lk_X12_beside_33 : Cond.fieldLink RX12 33 "CuckooSharesModel" "s" "[I" ∈ wsX12_beside := by decide +kernel
abbrev L_X12_beside : List Rc := [(387, 387, 0, 0), (387, 387, 30, 32), (394, 394, 0, 7), (395, 395, 0, 7), (396, 396, 0, 7), (387, 387, 26, 26), (397, 397, 0, 7)]
abbrev LL_X12_beside : List Rc := []
def P_X12_beside (σ0 : Nat → Nat → Int32) (τ0 : Nat → Nat → Int64) (a1 : Int32) (r : Int32) (σ : Nat → Nat → Int32) (τ : Nat → Nat → Int64) : Prop := Rg σ ∧ Fr L_X12_beside σ0 σ ∧ FrL LL_X12_beside τ0 τ ∧ (-1 ≤ r.toInt ∧ r.toInt ≤ 7) ∧ BI σ
def J_X12_beside_35 (p : Program) (l : Launch) (e : Env) (s : State) (m : MethodId) (args : Array Value) (below : List Frame) (meth : Method) (c : Code) (D : va_G) (cA : Nat → ClassId) (ad : Nat → Nat) (σ0 : Nat → Nat → Int32) (τ0 : Nat → Nat → Int64) (a1 : Int32) (n : Nat) : Prop := ∀ (σ : Nat → Nat → Int32) (τ : Nat → Nat → Int64) (H : Heap) (locs : List Loc) (x2 : Int32) (x3 : Int32) (x4 : Int32) (ls : Array Slot), Rg σ → Fr L_X12_beside σ0 σ → FrL LL_X12_beside τ0 τ → va_P D vwCl (gw cA ad σ τ) H → va_S (AA ad) s.heap H locs → (0 ≤ a1.toInt ∧ a1.toInt ≤ 7) → (-1 ≤ x2.toInt ∧ x2.toInt ≤ 7) → (0 ≤ x4.toInt ∧ x4.toInt ≤ 8) → (1 ≤ (σ 389 2).toInt ∧ (σ 389 2).toInt ≤ 4) → (SI σ) → (BI σ) → lv_has ls 6 [(0, .ref (ad 387)), (1, .int a1), (2, .int x2), (3, .int x3), (4, .int x4)] → 2 * (8 - x4.toInt) + 1 < (n : Int) → W p l e ({ frames := 7, cells := 0, slots := 0, locals := 163 } : Room) s m args below meth c H locs 0 0 (MQ below (va_Qi (fun (r : Int32) (u : SS) => P_X12_beside σ0 τ0 a1 r u.1 u.2) (WB D cA ad) (AA ad)) args s 0 0 (AA ad)) (F0 m 35 ls [])
set_option maxHeartbeats 4000000 in
theorem B_X12_beside_35 (p : Program) (l : Launch) (e : Env) (s : State) (m : MethodId) (args : Array Value) (below : List Frame) (meth : Method) (c : Code) (D : va_G) (cA : Nat → ClassId) (ad : Nat → Nat) (σ0 : Nat → Nat → Int32) (τ0 : Nat → Nat → Int64) (a1 : Int32) (n : Nat) (C : Cy p s m args meth c cX12_beside 6 wsX12_beside RX12 D cA ad (some .int)) (gSI0 : SI σ0) (gBI0 : BI σ0) (K35 : J_X12_beside_35 p l e s m args below meth c D cA ad σ0 τ0 a1 n) : J_X12_beside_35 p l e s m args below meth c D cA ad σ0 τ0 a1 (n + 1) := by
  obtain ⟨hx, hb, hml, hown, hts, hK, hk, hr, hI, hN⟩ := C
  intro σ τ H locs x2 x3 x4 ls hR hF hFL hP hS hc0 hc1 hc2 hc3 gSI gBI hl hm
  obtain rfl := FrL.nil hFL
  refine lv_iload hx hb dX12_beside_35 (lv_at hl 4 rfl) ?_
  refine lv_aload_n hx hb dX12_beside_37 rfl (lv_at hl 0 rfl) ?_
  refine fg_12_6 (k := 387) hx hb hts in_X12_beside_12 hown hK hP (by decide) (by decide) (hts _ lk_X12_beside_33) dX12_beside_38 ?_
  refine r_iconst hx hb dX12_beside_41 (by decide) (fun z1 ez1 => ?_)
  refine ad_ms (k := 389) (j := 0) hx hb hK hP (by decide) (by decide) (by omega) (by omega) dX12_beside_42 ?_
  have hr2 := ra_ms_0 hR (k := 389) (j := 0) (by decide) (by decide) (by decide) (by decide)
  refine r_icmp_ge (tgt := 85) hx hb dX12_beside_43 (by decide) (fun c3 => ?_) (fun c3 => ?_)
  · refine lv_aload_n hx hb dX12_beside_85 rfl (lv_at hl 0 rfl) ?_
    refine lv_iload_n hx hb dX12_beside_86 rfl (lv_at hl 3 rfl) ?_
    refine r_cVv (k := 387) (As := [.int x3]) (rest := []) ⟨hx, hb, hml, hown, hts⟩ hK hP hN hS (c_X12_tellsBetter l D cA ad hI σ τ0 hR x3 (by omega) gSI) (cwV 1 hts gX12_beside_X12_tellsBetter rfl rfl rfl (by decide +kernel) ⟨by decide, by decide⟩) (rv_M hK hP (by decide) (by decide)) rfl hl.1 rfl (Nat.le_of_ble_eq_true rfl) dX12_beside_87 (Nat.zero_le _) (Nat.zero_le _) (fun u4 H4 locs4 hp4 hP hS => ?_)
    obtain ⟨σ4, τ4⟩ := u4
    obtain ⟨hR, f4, fL4, hp4_0⟩ : P_X12_tellsBetter σ τ0 x3 σ4 τ4 := hp4
    have hP : va_P D vwCl (gw cA ad σ4 τ4) H4 := hP
    obtain rfl := FrL.nil fL4
    have hF := hF.step f4 (by decide)
    have gSI := SI.fr gSI hR f4 (by decide)
    have t5 : (σ4 389 2).toInt = (σ 389 2).toInt := congrArg Int32.toInt (f4.at 389 2 (by decide))
    have t6 : (σ4 389 0).toInt = (σ 389 0).toInt := congrArg Int32.toInt (f4.at 389 0 (by decide))
    refine lv_iload_n hx hb dX12_beside_90 rfl (lv_at hl 2 rfl) ?_
    exact r_iret hx hb hr hK hP hS hk dX12_beside_91 (show P_X12_beside σ0 τ0 a1 x2 σ4 τ0 from ⟨hR, hF, hFL, by omega, Or.inr (by omega)⟩)
  · refine lv_aload_n hx hb dX12_beside_46 rfl (lv_at hl 0 rfl) ?_
    refine lv_iload_n hx hb dX12_beside_47 rfl (lv_at hl 1 rfl) ?_
    refine lv_iload hx hb dX12_beside_48 (lv_at hl 4 rfl) ?_
    refine r_cVv (k := 387) (As := [.int a1, .int x4]) (rest := []) ⟨hx, hb, hml, hown, hts⟩ hK hP hN hS (c_X12_stands l D cA ad hI σ τ0 hR a1 x4 (by omega) (by omega)) (cwV 2 hts gX12_beside_X12_stands rfl rfl rfl (by decide +kernel) ⟨by decide, by decide⟩) (rv_M hK hP (by decide) (by decide)) rfl hl.1 rfl (Nat.le_of_ble_eq_true rfl) dX12_beside_50 (Nat.zero_le _) (Nat.zero_le _) (fun u7 H7 locs7 hp7 hP hS => ?_)
    obtain ⟨σ7, τ7⟩ := u7
    obtain ⟨hR, f7, fL7⟩ : P_X12_stands σ τ0 a1 x4 σ7 τ7 := hp7
    have hP : va_P D vwCl (gw cA ad σ7 τ7) H7 := hP
    obtain rfl := FrL.nil fL7
    have hF := hF.step f7 (by decide)
    have gBI := BI.fr gBI f7 (by decide)
    have gSI := SI.fr gSI hR f7 (by decide)
    have t8 : (σ7 389 2).toInt = (σ 389 2).toInt := congrArg Int32.toInt (f7.at 389 2 (by decide))
    have t9 : (σ7 389 0).toInt = (σ 389 0).toInt := congrArg Int32.toInt (f7.at 389 0 (by decide))
    refine lv_aload_n hx hb dX12_beside_53 rfl (lv_at hl 0 rfl) ?_
    refine lv_iload_n hx hb dX12_beside_54 rfl (lv_at hl 1 rfl) ?_
    refine r_cVi (k := 387) (As := [.int a1]) (rest := []) ⟨hx, hb, hml, hown, hts⟩ hK hP hN hS (c_X12_meanOf l D cA ad hI σ7 τ0 hR a1 (by omega)) (cwV 1 hts gX12_beside_X12_meanOf rfl rfl rfl (by decide +kernel) ⟨by decide, by decide⟩) (rv_M hK hP (by decide) (by decide)) rfl hl.1 rfl (Nat.le_of_ble_eq_true rfl) dX12_beside_55 (Nat.zero_le _) (Nat.zero_le _) (fun r10 u10 H10 locs10 hp10 hP hS => ?_)
    obtain ⟨σ10, τ10⟩ := u10
    obtain ⟨hR, f10, fL10⟩ : P_X12_meanOf σ7 τ0 a1 r10 σ10 τ10 := hp10
    have hP : va_P D vwCl (gw cA ad σ10 τ10) H10 := hP
    obtain rfl := FrL.nil fL10
    have hF := hF.step f10 (by decide)
    have gBI := BI.fr gBI f10 (by decide)
    have gSI := SI.fr gSI hR f10 (by decide)
    have t11 : (σ10 389 2).toInt = (σ7 389 2).toInt := congrArg Int32.toInt (f10.at 389 2 (by decide))
    have t12 : (σ10 389 0).toInt = (σ7 389 0).toInt := congrArg Int32.toInt (f10.at 389 0 (by decide))
    refine lv_istore (lv' := [(5, .int r10), (0, .ref (ad 387)), (1, .int a1), (2, .int x2), (3, .int x3), (4, .int x4)]) hx hb dX12_beside_58 hl (by decide) rfl (fun ls hl => ?_)
    refine lv_iload_n hx hb dX12_beside_60 rfl (lv_at hl 3 rfl) ?_
    refine r_if_lt (tgt := 73) hx hb dX12_beside_61 (by decide) (fun c13 => ?_) (fun c13 => ?_)
    · refine lv_iload hx hb dX12_beside_73 (lv_at hl 5 rfl) ?_
      refine lv_istore_n (lv' := [(2, .int x4), (5, .int r10), (0, .ref (ad 387)), (1, .int a1), (3, .int x3), (4, .int x4)]) hx hb dX12_beside_75 rfl hl (by decide) rfl (fun ls hl => ?_)
      refine lv_iload hx hb dX12_beside_76 (lv_at hl 1 rfl) ?_
      refine lv_istore_n (lv' := [(3, .int r10), (2, .int x4), (5, .int r10), (0, .ref (ad 387)), (1, .int a1), (4, .int x4)]) hx hb dX12_beside_78 rfl hl (by decide) rfl (fun ls hl => ?_)
      refine r_iinc (k := 5) (lv1 := fun z14 => [(4, .int z14), (3, .int r10), (2, .int x4), (5, .int r10), (0, .ref (ad 387)), (1, .int a1)]) hx hb dX12_beside_79 hl rfl (by decide) (fun _ => rfl) (by decide) (by omega) (fun z14 ls ez14 hl => ?_)
      refine lv_goto (tgt := 35) hx hb dX12_beside_82 (by decide) ?_
      exact K35 σ10 τ0 H10 locs10 x4 r10 z14 ls hR hF hFL hP hS (by omega) (by omega) (by omega) (by omega) gSI gBI (lv_sub hl [4, 5, 2, 1, 0] rfl) (by omega)
    · refine lv_iload hx hb dX12_beside_64 (lv_at hl 0 rfl) ?_
      refine lv_iload_n hx hb dX12_beside_66 rfl (lv_at hl 4 rfl) ?_
      refine r_icmp_gt (tgt := 73) hx hb dX12_beside_67 (by decide) (fun c15 => ?_) (fun c15 => ?_)
      · refine lv_iload hx hb dX12_beside_73 (lv_at hl 5 rfl) ?_
        refine lv_istore_n (lv' := [(2, .int x4), (5, .int r10), (0, .ref (ad 387)), (1, .int a1), (3, .int x3), (4, .int x4)]) hx hb dX12_beside_75 rfl hl (by decide) rfl (fun ls hl => ?_)
        refine lv_iload hx hb dX12_beside_76 (lv_at hl 1 rfl) ?_
        refine lv_istore_n (lv' := [(3, .int r10), (2, .int x4), (5, .int r10), (0, .ref (ad 387)), (1, .int a1), (4, .int x4)]) hx hb dX12_beside_78 rfl hl (by decide) rfl (fun ls hl => ?_)
        refine r_iinc (k := 5) (lv1 := fun z16 => [(4, .int z16), (3, .int r10), (2, .int x4), (5, .int r10), (0, .ref (ad 387)), (1, .int a1)]) hx hb dX12_beside_79 hl rfl (by decide) (fun _ => rfl) (by decide) (by omega) (fun z16 ls ez16 hl => ?_)
        refine lv_goto (tgt := 35) hx hb dX12_beside_82 (by decide) ?_
        exact K35 σ10 τ0 H10 locs10 x4 r10 z16 ls hR hF hFL hP hS (by omega) (by omega) (by omega) (by omega) gSI gBI (lv_sub hl [4, 5, 2, 1, 0] rfl) (by omega)
      · refine lv_goto (tgt := 79) hx hb dX12_beside_70 (by decide) ?_
        refine r_iinc (k := 5) (lv1 := fun z17 => [(4, .int z17), (5, .int r10), (0, .ref (ad 387)), (1, .int a1), (2, .int x2), (3, .int x3)]) hx hb dX12_beside_79 hl rfl (by decide) (fun _ => rfl) (by decide) (by omega) (fun z17 ls ez17 hl => ?_)
        refine lv_goto (tgt := 35) hx hb dX12_beside_82 (by decide) ?_
        exact K35 σ10 τ0 H10 locs10 x2 x3 z17 ls hR hF hFL hP hS (by omega) (by omega) (by omega) (by omega) gSI gBI (lv_sub hl [2, 3, 4, 5, 0] rfl) (by omega)
theorem A_X12_beside (p : Program) (l : Launch) (e : Env) (s : State) (m : MethodId) (args : Array Value) (below : List Frame) (meth : Method) (c : Code) (D : va_G) (cA : Nat → ClassId) (ad : Nat → Nat) (σ0 : Nat → Nat → Int32) (τ0 : Nat → Nat → Int64) (a1 : Int32) (C : Cy p s m args meth c cX12_beside 6 wsX12_beside RX12 D cA ad (some .int)) (gSI0 : SI σ0) (gBI0 : BI σ0) : ∀ n : Nat, J_X12_beside_35 p l e s m args below meth c D cA ad σ0 τ0 a1 n := by
  intro n
  induction n with
  | zero =>
    exact (by intro σ τ H locs x2 x3 x4 ls hR hF hFL hP hS hc0 hc1 hc2 hc3 gSI gBI hl hm; exfalso; omega)
  | succ n ih =>
    exact B_X12_beside_35 p l e s m args below meth c D cA ad σ0 τ0 a1 n C gSI0 gBI0 ih
set_option maxHeartbeats 4000000 in
theorem c_X12_beside (l : Launch) (D : va_G) (cA : Nat → ClassId) (ad : Nat → Nat) (hI : Inj ad) (σ0 : Nat → Nat → Int32) (τ0 : Nat → Nat → Int64) (hR : Rg σ0) (a1 : Int32) (gSI0 : SI σ0) (gBI0 : BI σ0) : Met l yX12_beside wsX12_beside ({ frames := 7, cells := 0, slots := 0, locals := 163 } : Room) (WQc D cA ad [.ref (ad 387), .int a1] σ0 τ0) (va_Qi (fun (r : Int32) (u : SS) => P_X12_beside σ0 τ0 a1 r u.1 u.2) (WB D cA ad) (AA ad)) 0 0 (AA ad) := by
  refine Met.ofW (cc := cX12_beside) (maxL := 6) (ret := (some .int)) (by decide) rfl ?_
  intro p e s m args below meth c s₁ B hml hv
  obtain ⟨rfl, hP, hK, hN⟩ := hv
  have C : Cy p s m _ meth c cX12_beside 6 wsX12_beside RX12 D cA ad (some .int) := ⟨B.exec, B.bytes, hml, findClass_of_methodNamed B.named, atoms_spec (ws := wsX12_beside) B.pre, hK, B.notSynchronized, B.returns, hI, hN⟩
  have hl := lv_entry ([.ref (ad 387), .int a1]) (n := 6) (Nat.le_of_ble_eq_true rfl)
  rw [lg_entry_eq]
  generalize (lg_sl ([.ref (ad 387), .int a1]) ++ List.replicate (6 - (lg_sl ([.ref (ad 387), .int a1])).length) Slot.unset).toArray = ls at hl ⊢
  have hl : lv_has ls 6 [(0, .ref (ad 387)), (1, .int a1)] := hl
  have hS : va_S (AA ad) s.heap s.heap [] := va_S.rf
  have hF : Fr L_X12_beside σ0 σ0 := Fr.rf
  have hFL : FrL LL_X12_beside τ0 τ0 := FrL.rf
  have gSI := gSI0
  have gBI := gBI0
  have hA := A_X12_beside p l e s m _ below meth c D cA ad σ0 τ0 a1 C gSI0 gBI0 42
  have K35 := hA
  clear hA
  obtain ⟨hx, hb, _, hown, hts, _, hk, hr, _, _⟩ := C
  refine lv_aload_n hx hb dX12_beside_0 rfl (lv_at hl 0 rfl) ?_
  refine r_iconst hx hb dX12_beside_1 (by decide) (fun z1 ez1 => ?_)
  refine fp_12_0 (k := 387) hx hb hts in_X12_beside_12 hown hK hP (by decide) (by decide) (hts _ lk_X12_beside_1) hI hR hS (by omega) dX12_beside_2 (fun σ2 H2 locs2 u2 v2 hR hP hS => ?_)
  have hF := hF.puts u2 0 rfl (by decide) (by decide) (by decide) (by decide)
  have gBI := BI.put gBI u2 (by decide)
  have gSI := SI.put gSI hR u2 (by decide)
  refine lv_aload_n hx hb dX12_beside_5 rfl (lv_at hl 0 rfl) ?_
  refine lv_iload_n hx hb dX12_beside_6 rfl (lv_at hl 1 rfl) ?_
  refine r_cVi (k := 387) (As := [.int a1]) (rest := []) ⟨hx, hb, hml, hown, hts⟩ hK hP hN hS (c_X12_isMan l D cA ad hI σ2 τ0 hR a1) (cwV 1 hts gX12_beside_X12_isMan rfl rfl rfl (by decide +kernel) ⟨by decide, by decide⟩) (rv_M hK hP (by decide) (by decide)) rfl hl.1 rfl (Nat.le_of_ble_eq_true rfl) dX12_beside_7 (Nat.zero_le _) (Nat.zero_le _) (fun r3 u3 H3 locs3 hp3 hP hS => ?_)
  obtain ⟨σ3, τ3⟩ := u3
  obtain ⟨hR, f3, fL3, hq3, hp3_0⟩ : P_X12_isMan σ2 τ0 a1 r3 σ3 τ3 := hp3
  have hP : va_P D vwCl (gw cA ad σ3 τ3) H3 := hP
  obtain rfl := FrL.nil fL3
  obtain rfl := Fr.nil f3
  refine r_if_eq (tgt := 22) hx hb dX12_beside_10 (by decide) (fun c4 => ?_) (fun c4 => ?_)
  · clear hp3_0
    refine r_iconst hx hb dX12_beside_22 (by decide) (fun z5 ez5 => ?_)
    exact r_iret hx hb hr hK hP hS hk dX12_beside_23 (show P_X12_beside σ0 τ0 a1 z5 σ2 τ0 from ⟨hR, hF, hFL, by omega, gBI⟩)
  · replace hp3_0 := hp3_0.resolve_left (by omega)
    refine lv_aload_n hx hb dX12_beside_13 rfl (lv_at hl 0 rfl) ?_
    refine fg_12_6 (k := 387) hx hb hts in_X12_beside_12 hown hK hP (by decide) (by decide) (hts _ lk_X12_beside_33) dX12_beside_14 ?_
    refine r_iconst hx hb dX12_beside_17 (by decide) (fun z6 ez6 => ?_)
    refine ad_ms (k := 389) (j := 2) hx hb hK hP (by decide) (by decide) (by omega) (by omega) dX12_beside_18 ?_
    have hr7 := ra_ms_1 hR (k := 389) (j := 2) (by decide) (by decide) (by decide) (by decide)
    refine r_if_ne (tgt := 24) hx hb dX12_beside_19 (by decide) (fun c8 => ?_) (fun c8 => ?_)
    · refine lv_aload_n hx hb dX12_beside_24 rfl (lv_at hl 0 rfl) ?_
      refine r_cVv (k := 387) (As := []) (rest := []) ⟨hx, hb, hml, hown, hts⟩ hK hP hN hS (c_X12_asNow l D cA ad hI σ2 τ0 hR) (cwV 0 hts gX12_beside_X12_asNow rfl rfl rfl (by decide +kernel) ⟨by decide, by decide⟩) (rv_M hK hP (by decide) (by decide)) rfl hl.1 rfl (Nat.le_of_ble_eq_true rfl) dX12_beside_25 (Nat.zero_le _) (Nat.zero_le _) (fun u9 H9 locs9 hp9 hP hS => ?_)
      obtain ⟨σ9, τ9⟩ := u9
      obtain ⟨hR, f9, fL9⟩ : P_X12_asNow σ2 τ0 σ9 τ9 := hp9
      have hP : va_P D vwCl (gw cA ad σ9 τ9) H9 := hP
      obtain rfl := FrL.nil fL9
      have hF := hF.step f9 (by decide)
      have gBI := BI.fr gBI f9 (by decide)
      have gSI := SI.fr gSI hR f9 (by decide)
      have t10 : (σ9 389 2).toInt = (σ2 389 2).toInt := congrArg Int32.toInt (f9.at 389 2 (by decide))
      refine r_iconst hx hb dX12_beside_28 (by decide) (fun z11 ez11 => ?_)
      refine lv_istore_n (lv' := [(2, .int z11), (0, .ref (ad 387)), (1, .int a1)]) hx hb dX12_beside_29 rfl hl (by decide) rfl (fun ls hl => ?_)
      refine r_iconst hx hb dX12_beside_30 (by decide) (fun z12 ez12 => ?_)
      refine lv_istore_n (lv' := [(3, .int z12), (2, .int z11), (0, .ref (ad 387)), (1, .int a1)]) hx hb dX12_beside_31 rfl hl (by decide) rfl (fun ls hl => ?_)
      refine r_iconst hx hb dX12_beside_32 (by decide) (fun z13 ez13 => ?_)
      refine lv_istore (lv' := [(4, .int z13), (3, .int z12), (2, .int z11), (0, .ref (ad 387)), (1, .int a1)]) hx hb dX12_beside_33 hl (by decide) rfl (fun ls hl => ?_)
      exact K35 σ9 τ0 H9 locs9 z11 z12 z13 ls hR hF hFL hP hS (by omega) (by omega) (by omega) (by omega) gSI gBI (lv_sub hl [3, 4, 2, 1, 0] rfl) (by omega)
    · refine r_iconst hx hb dX12_beside_22 (by decide) (fun z14 ez14 => ?_)
      exact r_iret hx hb hr hK hP hS hk dX12_beside_23 (show P_X12_beside σ0 τ0 a1 z14 σ2 τ0 from ⟨hR, hF, hFL, by omega, gBI⟩)
theorem in_X12_hut_12 : ∀ w ∈ u_ws RX12 TX12 47, w ∈ wsX12_hut := by decide +kernel
theorem lk_X12_hut_1 : Cond.fieldLink RX12 1 "CuckooSharesModel" "thrown" "I" ∈ wsX12_hut := by decide +kernel
theorem lk_X12_hut_33 : Cond.fieldLink RX12 33 "CuckooSharesModel" "s" "[I" ∈ wsX12_hut := by decide +kernel
theorem lk_X12_hut_50 : Cond.fieldLink RX12 50 "CuckooSharesModel" "px" "[I" ∈ wsX12_hut := by decide +kernel
theorem lk_X12_hut_53 : Cond.fieldLink RX12 53 "CuckooSharesModel" "py" "[I" ∈ wsX12_hut := by decide +kernel
theorem lk_X12_hut_56 : Cond.fieldLink RX12 56 "CuckooSharesModel" "pf" "[I" ∈ wsX12_hut := by decide +kernel
abbrev L_X12_hut : List Rc := [(387, 387, 0, 0), (396, 396, 0, 7), (394, 394, 0, 7), (395, 395, 0, 7), (387, 387, 30, 32), (387, 387, 26, 26), (397, 397, 0, 7)]
abbrev LL_X12_hut : List Rc := []
def P_X12_hut (σ0 : Nat → Nat → Int32) (τ0 : Nat → Nat → Int64) (a1 : Int32) (r : Int32) (σ : Nat → Nat → Int32) (τ : Nat → Nat → Int64) : Prop := Rg σ ∧ Fr L_X12_hut σ0 σ ∧ FrL LL_X12_hut τ0 τ ∧ (-1 ≤ r.toInt ∧ r.toInt ≤ 16777215) ∧ BI σ
def J_X12_hut_42 (p : Program) (l : Launch) (e : Env) (s : State) (m : MethodId) (args : Array Value) (below : List Frame) (meth : Method) (c : Code) (D : va_G) (cA : Nat → ClassId) (ad : Nat → Nat) (σ0 : Nat → Nat → Int32) (τ0 : Nat → Nat → Int64) (a1 : Int32) (n : Nat) : Prop := ∀ (σ : Nat → Nat → Int32) (τ : Nat → Nat → Int64) (H : Heap) (locs : List Loc) (x2 : Int32) (x3 : Int32) (x4 : Int32) (ls : Array Slot), Rg σ → Fr L_X12_hut σ0 σ → FrL LL_X12_hut τ0 τ → va_P D vwCl (gw cA ad σ τ) H → va_S (AA ad) s.heap H locs → (0 ≤ a1.toInt ∧ a1.toInt ≤ 7) → (-1 ≤ x2.toInt ∧ x2.toInt ≤ 16777215) → (0 ≤ x4.toInt ∧ x4.toInt ≤ 21) → (1 ≤ (σ 389 2).toInt ∧ (σ 389 2).toInt ≤ 4) → (SI σ) → (BI σ) → lv_has ls 7 [(0, .ref (ad 387)), (1, .int a1), (2, .int x2), (3, .int x3), (4, .int x4)] → 47 * (21 - x4.toInt) + 46 < (n : Int) → W p l e ({ frames := 7, cells := 0, slots := 0, locals := 163 } : Room) s m args below meth c H locs 0 0 (MQ below (va_Qi (fun (r : Int32) (u : SS) => P_X12_hut σ0 τ0 a1 r u.1 u.2) (WB D cA ad) (AA ad)) args s 0 0 (AA ad)) (F0 m 42 ls [])
def J_X12_hut_52 (p : Program) (l : Launch) (e : Env) (s : State) (m : MethodId) (args : Array Value) (below : List Frame) (meth : Method) (c : Code) (D : va_G) (cA : Nat → ClassId) (ad : Nat → Nat) (σ0 : Nat → Nat → Int32) (τ0 : Nat → Nat → Int64) (a1 : Int32) (n : Nat) : Prop := ∀ (σ : Nat → Nat → Int32) (τ : Nat → Nat → Int64) (H : Heap) (locs : List Loc) (x2 : Int32) (x3 : Int32) (x4 : Int32) (x5 : Int32) (ls : Array Slot), Rg σ → Fr L_X12_hut σ0 σ → FrL LL_X12_hut τ0 τ → va_P D vwCl (gw cA ad σ τ) H → va_S (AA ad) s.heap H locs → (0 ≤ a1.toInt ∧ a1.toInt ≤ 7) → (-1 ≤ x2.toInt ∧ x2.toInt ≤ 16777215) → (0 ≤ x4.toInt ∧ x4.toInt ≤ 20) → (0 ≤ x5.toInt ∧ x5.toInt ≤ 21) → (1 ≤ (σ 389 2).toInt ∧ (σ 389 2).toInt ≤ 4) → (SI σ) → (BI σ) → lv_has ls 7 [(0, .ref (ad 387)), (1, .int a1), (2, .int x2), (3, .int x3), (4, .int x4), (5, .int x5)] → 47 * (21 - x4.toInt) + 2 * (21 - x5.toInt) + 1 < (n : Int) → W p l e ({ frames := 7, cells := 0, slots := 0, locals := 163 } : Room) s m args below meth c H locs 0 0 (MQ below (va_Qi (fun (r : Int32) (u : SS) => P_X12_hut σ0 τ0 a1 r u.1 u.2) (WB D cA ad) (AA ad)) args s 0 0 (AA ad)) (F0 m 52 ls [])
set_option maxHeartbeats 4000000 in
theorem B_X12_hut_42 (p : Program) (l : Launch) (e : Env) (s : State) (m : MethodId) (args : Array Value) (below : List Frame) (meth : Method) (c : Code) (D : va_G) (cA : Nat → ClassId) (ad : Nat → Nat) (σ0 : Nat → Nat → Int32) (τ0 : Nat → Nat → Int64) (a1 : Int32) (n : Nat) (C : Cy p s m args meth c cX12_hut 7 wsX12_hut RX12 D cA ad (some .int)) (gSI0 : SI σ0) (gBI0 : BI σ0) (K42 : J_X12_hut_42 p l e s m args below meth c D cA ad σ0 τ0 a1 n) (K52 : J_X12_hut_52 p l e s m args below meth c D cA ad σ0 τ0 a1 n) : J_X12_hut_42 p l e s m args below meth c D cA ad σ0 τ0 a1 (n + 1) := by
  obtain ⟨hx, hb, hml, hown, hts, hK, hk, hr, hI, hN⟩ := C
  intro σ τ H locs x2 x3 x4 ls hR hF hFL hP hS hc0 hc1 hc2 hc3 gSI gBI hl hm
  obtain rfl := FrL.nil hFL
  refine lv_iload hx hb dX12_hut_42 (lv_at hl 4 rfl) ?_
  refine r_bipush hx hb dX12_hut_44 (by decide) (fun z1 ez1 => ?_)
  refine r_icmp_gt (tgt := 119) hx hb dX12_hut_46 (by decide) (fun c2 => ?_) (fun c2 => ?_)
  · refine lv_aload_n hx hb dX12_hut_119 rfl (lv_at hl 0 rfl) ?_
    refine lv_iload_n hx hb dX12_hut_120 rfl (lv_at hl 3 rfl) ?_
    refine r_cVv (k := 387) (As := [.int x3]) (rest := []) ⟨hx, hb, hml, hown, hts⟩ hK hP hN hS (c_X12_tellsBetter l D cA ad hI σ τ0 hR x3 (by omega) gSI) (cwV 1 hts gX12_hut_X12_tellsBetter rfl rfl rfl (by decide +kernel) ⟨by decide, by decide⟩) (rv_M hK hP (by decide) (by decide)) rfl hl.1 rfl (Nat.le_of_ble_eq_true rfl) dX12_hut_121 (Nat.zero_le _) (Nat.zero_le _) (fun u3 H3 locs3 hp3 hP hS => ?_)
    obtain ⟨σ3, τ3⟩ := u3
    obtain ⟨hR, f3, fL3, hp3_0⟩ : P_X12_tellsBetter σ τ0 x3 σ3 τ3 := hp3
    have hP : va_P D vwCl (gw cA ad σ3 τ3) H3 := hP
    obtain rfl := FrL.nil fL3
    have hF := hF.step f3 (by decide)
    have gSI := SI.fr gSI hR f3 (by decide)
    have t4 : (σ3 389 2).toInt = (σ 389 2).toInt := congrArg Int32.toInt (f3.at 389 2 (by decide))
    refine lv_iload_n hx hb dX12_hut_124 rfl (lv_at hl 2 rfl) ?_
    exact r_iret hx hb hr hK hP hS hk dX12_hut_125 (show P_X12_hut σ0 τ0 a1 x2 σ3 τ0 from ⟨hR, hF, hFL, by omega, Or.inr (by omega)⟩)
  · refine r_iconst hx hb dX12_hut_49 (by decide) (fun z5 ez5 => ?_)
    refine lv_istore (lv' := [(5, .int z5), (0, .ref (ad 387)), (1, .int a1), (2, .int x2), (3, .int x3), (4, .int x4)]) hx hb dX12_hut_50 hl (by decide) rfl (fun ls hl => ?_)
    exact K52 σ τ0 H locs x2 x3 x4 z5 ls hR hF hFL hP hS (by omega) (by omega) (by omega) (by omega) (by omega) gSI gBI (lv_sub hl [1, 2, 3, 4, 5, 0] rfl) (by omega)
set_option maxHeartbeats 4000000 in
theorem B_X12_hut_52 (p : Program) (l : Launch) (e : Env) (s : State) (m : MethodId) (args : Array Value) (below : List Frame) (meth : Method) (c : Code) (D : va_G) (cA : Nat → ClassId) (ad : Nat → Nat) (σ0 : Nat → Nat → Int32) (τ0 : Nat → Nat → Int64) (a1 : Int32) (n : Nat) (C : Cy p s m args meth c cX12_hut 7 wsX12_hut RX12 D cA ad (some .int)) (gSI0 : SI σ0) (gBI0 : BI σ0) (K42 : J_X12_hut_42 p l e s m args below meth c D cA ad σ0 τ0 a1 n) (K52 : J_X12_hut_52 p l e s m args below meth c D cA ad σ0 τ0 a1 n) : J_X12_hut_52 p l e s m args below meth c D cA ad σ0 τ0 a1 (n + 1) := by
  obtain ⟨hx, hb, hml, hown, hts, hK, hk, hr, hI, hN⟩ := C
  intro σ τ H locs x2 x3 x4 x5 ls hR hF hFL hP hS hc0 hc1 hc2 hc3 hc4 gSI gBI hl hm
  obtain rfl := FrL.nil hFL
  refine lv_iload hx hb dX12_hut_52 (lv_at hl 5 rfl) ?_
  refine r_bipush hx hb dX12_hut_54 (by decide) (fun z1 ez1 => ?_)
  refine r_icmp_gt (tgt := 113) hx hb dX12_hut_56 (by decide) (fun c2 => ?_) (fun c2 => ?_)
  · refine r_iinc (k := 4) (lv1 := fun z3 => [(4, .int z3), (0, .ref (ad 387)), (1, .int a1), (2, .int x2), (3, .int x3), (5, .int x5)]) hx hb dX12_hut_113 hl rfl (by decide) (fun _ => rfl) (by decide) (by omega) (fun z3 ls ez3 hl => ?_)
    refine lv_goto (tgt := 42) hx hb dX12_hut_116 (by decide) ?_
    exact K42 σ τ0 H locs x2 x3 z3 ls hR hF hFL hP hS (by omega) (by omega) (by omega) (by omega) gSI gBI (lv_sub hl [1, 2, 3, 4, 0] rfl) (by omega)
  · refine lv_aload_n hx hb dX12_hut_59 rfl (lv_at hl 0 rfl) ?_
    refine fg_12_22 (k := 387) hx hb hts in_X12_hut_12 hown hK hP (by decide) (by decide) (hts _ lk_X12_hut_50) dX12_hut_60 ?_
    refine lv_iload_n hx hb dX12_hut_63 rfl (lv_at hl 1 rfl) ?_
    refine lv_iload hx hb dX12_hut_64 (lv_at hl 5 rfl) ?_
    obtain ⟨j4, ej4⟩ : ∃ j : Nat, a1.toInt = (j : Int) := ⟨_, ti_nat (by omega)⟩
    refine as_mp8 (k := 394) (j := j4) hx hb hK hP hI hR hS (by decide) (by decide) ej4 (by omega) dX12_hut_66 (fun σ5 H5 locs5 u5 v5 hR hP hS => ?_)
    have hF := hF.puts u5 2 rfl (by decide) (by decide) (by omega) (by omega)
    have gBI := BI.putV gBI u5 (by intro q hq; simp only [Gd_BI, List.mem_cons, List.not_mem_nil, or_false] at hq; rcases hq with rfl <;> dsimp only [inRc] <;> omega)
    have gSI := SI.putV gSI hR u5 (by intro q hq; simp only [Gd_SI, List.mem_cons, List.not_mem_nil, or_false] at hq; rcases hq with rfl | rfl | rfl <;> dsimp only [inRc] <;> omega)
    have t6 : (σ5 389 2).toInt = (σ 389 2).toInt := congrArg Int32.toInt (u5 389 2 (by omega))
    refine lv_aload_n hx hb dX12_hut_67 rfl (lv_at hl 0 rfl) ?_
    refine fg_12_23 (k := 387) hx hb hts in_X12_hut_12 hown hK hP (by decide) (by decide) (hts _ lk_X12_hut_53) dX12_hut_68 ?_
    refine lv_iload_n hx hb dX12_hut_71 rfl (lv_at hl 1 rfl) ?_
    refine lv_iload hx hb dX12_hut_72 (lv_at hl 4 rfl) ?_
    refine as_mp8 (k := 395) (j := j4) hx hb hK hP hI hR hS (by decide) (by decide) ej4 (by omega) dX12_hut_74 (fun σ7 H7 locs7 u7 v7 hR hP hS => ?_)
    have hF := hF.puts u7 3 rfl (by decide) (by decide) (by omega) (by omega)
    have gBI := BI.putV gBI u7 (by intro q hq; simp only [Gd_BI, List.mem_cons, List.not_mem_nil, or_false] at hq; rcases hq with rfl <;> dsimp only [inRc] <;> omega)
    have gSI := SI.putV gSI hR u7 (by intro q hq; simp only [Gd_SI, List.mem_cons, List.not_mem_nil, or_false] at hq; rcases hq with rfl | rfl | rfl <;> dsimp only [inRc] <;> omega)
    have t8 : (σ7 389 2).toInt = (σ5 389 2).toInt := congrArg Int32.toInt (u7 389 2 (by omega))
    have t9 : (σ7 394 j4).toInt = (σ5 394 j4).toInt := congrArg Int32.toInt (u7 394 j4 (by omega))
    refine lv_aload_n hx hb dX12_hut_75 rfl (lv_at hl 0 rfl) ?_
    refine lv_iload_n hx hb dX12_hut_76 rfl (lv_at hl 1 rfl) ?_
    refine r_cVi (k := 387) (As := [.int a1]) (rest := []) ⟨hx, hb, hml, hown, hts⟩ hK hP hN hS (c_X12_meanOf l D cA ad hI σ7 τ0 hR a1 (by omega)) (cwV 1 hts gX12_hut_X12_meanOf rfl rfl rfl (by decide +kernel) ⟨by decide, by decide⟩) (rv_M hK hP (by decide) (by decide)) rfl hl.1 rfl (Nat.le_of_ble_eq_true rfl) dX12_hut_77 (Nat.zero_le _) (Nat.zero_le _) (fun r10 u10 H10 locs10 hp10 hP hS => ?_)
    obtain ⟨σ10, τ10⟩ := u10
    obtain ⟨hR, f10, fL10⟩ : P_X12_meanOf σ7 τ0 a1 r10 σ10 τ10 := hp10
    have hP : va_P D vwCl (gw cA ad σ10 τ10) H10 := hP
    obtain rfl := FrL.nil fL10
    have hF := hF.step f10 (by decide)
    have gBI := BI.fr gBI f10 (by decide)
    have gSI := SI.fr gSI hR f10 (by decide)
    have t11 : (σ10 389 2).toInt = (σ7 389 2).toInt := congrArg Int32.toInt (f10.at 389 2 (by decide))
    have t12 : (σ10 394 j4).toInt = (σ7 394 j4).toInt := congrArg Int32.toInt (f10.atV 394 j4 (by intro q hq; simp only [L_X12_meanOf, List.mem_cons, List.not_mem_nil, or_false] at hq; rcases hq with rfl | rfl <;> dsimp only <;> omega))
    have t13 : (σ10 395 j4).toInt = (σ7 395 j4).toInt := congrArg Int32.toInt (f10.atV 395 j4 (by intro q hq; simp only [L_X12_meanOf, List.mem_cons, List.not_mem_nil, or_false] at hq; rcases hq with rfl | rfl <;> dsimp only <;> omega))
    refine lv_istore (lv' := [(6, .int r10), (0, .ref (ad 387)), (1, .int a1), (2, .int x2), (3, .int x3), (4, .int x4), (5, .int x5)]) hx hb dX12_hut_80 hl (by decide) rfl (fun ls hl => ?_)
    refine lv_iload_n hx hb dX12_hut_82 rfl (lv_at hl 3 rfl) ?_
    refine r_if_lt (tgt := 95) hx hb dX12_hut_83 (by decide) (fun c14 => ?_) (fun c14 => ?_)
    · refine r_bipush hx hb dX12_hut_95 (by decide) (fun z15 ez15 => ?_)
      refine lv_iload hx hb dX12_hut_97 (lv_at hl 5 rfl) ?_
      refine r_imulL (n := 100) hx hb dX12_hut_99 (by omega) (by omega) (fun z16 ez16 => ?_)
      refine lv_iload hx hb dX12_hut_100 (lv_at hl 6 rfl) ?_
      refine r_iadd hx hb dX12_hut_102 (by omega) (fun z17 ez17 => ?_)
      refine lv_istore_n (lv' := [(2, .int z17), (6, .int r10), (0, .ref (ad 387)), (1, .int a1), (3, .int x3), (4, .int x4), (5, .int x5)]) hx hb dX12_hut_103 rfl hl (by decide) rfl (fun ls hl => ?_)
      refine lv_iload hx hb dX12_hut_104 (lv_at hl 1 rfl) ?_
      refine lv_istore_n (lv' := [(3, .int r10), (2, .int z17), (6, .int r10), (0, .ref (ad 387)), (1, .int a1), (4, .int x4), (5, .int x5)]) hx hb dX12_hut_106 rfl hl (by decide) rfl (fun ls hl => ?_)
      refine r_iinc (k := 6) (lv1 := fun z18 => [(5, .int z18), (3, .int r10), (2, .int z17), (6, .int r10), (0, .ref (ad 387)), (1, .int a1), (4, .int x4)]) hx hb dX12_hut_107 hl rfl (by decide) (fun _ => rfl) (by decide) (by omega) (fun z18 ls ez18 hl => ?_)
      refine lv_goto (tgt := 52) hx hb dX12_hut_110 (by decide) ?_
      exact K52 σ10 τ0 H10 locs10 z17 r10 x4 z18 ls hR hF hFL hP hS (by omega) (by omega) (by omega) (by omega) (by omega) gSI gBI (lv_sub hl [4, 5, 2, 1, 6, 0] rfl) (by omega)
    · refine lv_iload hx hb dX12_hut_86 (lv_at hl 0 rfl) ?_
      refine lv_iload_n hx hb dX12_hut_88 rfl (lv_at hl 4 rfl) ?_
      refine r_icmp_gt (tgt := 95) hx hb dX12_hut_89 (by decide) (fun c19 => ?_) (fun c19 => ?_)
      · refine r_bipush hx hb dX12_hut_95 (by decide) (fun z20 ez20 => ?_)
        refine lv_iload hx hb dX12_hut_97 (lv_at hl 5 rfl) ?_
        refine r_imulL (n := 100) hx hb dX12_hut_99 (by omega) (by omega) (fun z21 ez21 => ?_)
        refine lv_iload hx hb dX12_hut_100 (lv_at hl 6 rfl) ?_
        refine r_iadd hx hb dX12_hut_102 (by omega) (fun z22 ez22 => ?_)
        refine lv_istore_n (lv' := [(2, .int z22), (6, .int r10), (0, .ref (ad 387)), (1, .int a1), (3, .int x3), (4, .int x4), (5, .int x5)]) hx hb dX12_hut_103 rfl hl (by decide) rfl (fun ls hl => ?_)
        refine lv_iload hx hb dX12_hut_104 (lv_at hl 1 rfl) ?_
        refine lv_istore_n (lv' := [(3, .int r10), (2, .int z22), (6, .int r10), (0, .ref (ad 387)), (1, .int a1), (4, .int x4), (5, .int x5)]) hx hb dX12_hut_106 rfl hl (by decide) rfl (fun ls hl => ?_)
        refine r_iinc (k := 6) (lv1 := fun z23 => [(5, .int z23), (3, .int r10), (2, .int z22), (6, .int r10), (0, .ref (ad 387)), (1, .int a1), (4, .int x4)]) hx hb dX12_hut_107 hl rfl (by decide) (fun _ => rfl) (by decide) (by omega) (fun z23 ls ez23 hl => ?_)
        refine lv_goto (tgt := 52) hx hb dX12_hut_110 (by decide) ?_
        exact K52 σ10 τ0 H10 locs10 z22 r10 x4 z23 ls hR hF hFL hP hS (by omega) (by omega) (by omega) (by omega) (by omega) gSI gBI (lv_sub hl [4, 5, 2, 1, 6, 0] rfl) (by omega)
      · refine lv_goto (tgt := 107) hx hb dX12_hut_92 (by decide) ?_
        refine r_iinc (k := 6) (lv1 := fun z24 => [(5, .int z24), (6, .int r10), (0, .ref (ad 387)), (1, .int a1), (2, .int x2), (3, .int x3), (4, .int x4)]) hx hb dX12_hut_107 hl rfl (by decide) (fun _ => rfl) (by decide) (by omega) (fun z24 ls ez24 hl => ?_)
        refine lv_goto (tgt := 52) hx hb dX12_hut_110 (by decide) ?_
        exact K52 σ10 τ0 H10 locs10 x2 x3 x4 z24 ls hR hF hFL hP hS (by omega) (by omega) (by omega) (by omega) (by omega) gSI gBI (lv_sub hl [2, 3, 4, 5, 6, 0] rfl) (by omega)
theorem A_X12_hut (p : Program) (l : Launch) (e : Env) (s : State) (m : MethodId) (args : Array Value) (below : List Frame) (meth : Method) (c : Code) (D : va_G) (cA : Nat → ClassId) (ad : Nat → Nat) (σ0 : Nat → Nat → Int32) (τ0 : Nat → Nat → Int64) (a1 : Int32) (C : Cy p s m args meth c cX12_hut 7 wsX12_hut RX12 D cA ad (some .int)) (gSI0 : SI σ0) (gBI0 : BI σ0) : ∀ n : Nat, J_X12_hut_42 p l e s m args below meth c D cA ad σ0 τ0 a1 n ∧ J_X12_hut_52 p l e s m args below meth c D cA ad σ0 τ0 a1 n := by
  intro n
  induction n with
  | zero =>
    exact ⟨(by intro σ τ H locs x2 x3 x4 ls hR hF hFL hP hS hc0 hc1 hc2 hc3 gSI gBI hl hm; exfalso; omega), (by intro σ τ H locs x2 x3 x4 x5 ls hR hF hFL hP hS hc0 hc1 hc2 hc3 hc4 gSI gBI hl hm; exfalso; omega)⟩
  | succ n ih =>
    exact ⟨B_X12_hut_42 p l e s m args below meth c D cA ad σ0 τ0 a1 n C gSI0 gBI0 ih.1 ih.2, B_X12_hut_52 p l e s m args below meth c D cA ad σ0 τ0 a1 n C gSI0 gBI0 ih.1 ih.2⟩
set_option maxHeartbeats 4000000 in
theorem c_X12_hut (l : Launch) (D : va_G) (cA : Nat → ClassId) (ad : Nat → Nat) (hI : Inj ad) (σ0 : Nat → Nat → Int32) (τ0 : Nat → Nat → Int64) (hR : Rg σ0) (a1 : Int32) (gSI0 : SI σ0) (gBI0 : BI σ0) : Met l yX12_hut wsX12_hut ({ frames := 7, cells := 0, slots := 0, locals := 163 } : Room) (WQc D cA ad [.ref (ad 387), .int a1] σ0 τ0) (va_Qi (fun (r : Int32) (u : SS) => P_X12_hut σ0 τ0 a1 r u.1 u.2) (WB D cA ad) (AA ad)) 0 0 (AA ad) := by
  refine Met.ofW (cc := cX12_hut) (maxL := 7) (ret := (some .int)) (by decide) rfl ?_
  intro p e s m args below meth c s₁ B hml hv
  obtain ⟨rfl, hP, hK, hN⟩ := hv
  have C : Cy p s m _ meth c cX12_hut 7 wsX12_hut RX12 D cA ad (some .int) := ⟨B.exec, B.bytes, hml, findClass_of_methodNamed B.named, atoms_spec (ws := wsX12_hut) B.pre, hK, B.notSynchronized, B.returns, hI, hN⟩
  have hl := lv_entry ([.ref (ad 387), .int a1]) (n := 7) (Nat.le_of_ble_eq_true rfl)
  rw [lg_entry_eq]
  generalize (lg_sl ([.ref (ad 387), .int a1]) ++ List.replicate (7 - (lg_sl ([.ref (ad 387), .int a1])).length) Slot.unset).toArray = ls at hl ⊢
  have hl : lv_has ls 7 [(0, .ref (ad 387)), (1, .int a1)] := hl
  have hS : va_S (AA ad) s.heap s.heap [] := va_S.rf
  have hF : Fr L_X12_hut σ0 σ0 := Fr.rf
  have hFL : FrL LL_X12_hut τ0 τ0 := FrL.rf
  have gSI := gSI0
  have gBI := gBI0
  have hA := A_X12_hut p l e s m _ below meth c D cA ad σ0 τ0 a1 C gSI0 gBI0 2163
  have K42 := hA.1
  have K52 := hA.2
  clear hA
  obtain ⟨hx, hb, _, hown, hts, _, hk, hr, _, _⟩ := C
  refine lv_aload_n hx hb dX12_hut_0 rfl (lv_at hl 0 rfl) ?_
  refine r_iconst hx hb dX12_hut_1 (by decide) (fun z1 ez1 => ?_)
  refine fp_12_0 (k := 387) hx hb hts in_X12_hut_12 hown hK hP (by decide) (by decide) (hts _ lk_X12_hut_1) hI hR hS (by omega) dX12_hut_2 (fun σ2 H2 locs2 u2 v2 hR hP hS => ?_)
  have hF := hF.puts u2 0 rfl (by decide) (by decide) (by decide) (by decide)
  have gBI := BI.put gBI u2 (by decide)
  have gSI := SI.put gSI hR u2 (by decide)
  refine lv_aload_n hx hb dX12_hut_5 rfl (lv_at hl 0 rfl) ?_
  refine lv_iload_n hx hb dX12_hut_6 rfl (lv_at hl 1 rfl) ?_
  refine r_cVi (k := 387) (As := [.int a1]) (rest := []) ⟨hx, hb, hml, hown, hts⟩ hK hP hN hS (c_X12_isMan l D cA ad hI σ2 τ0 hR a1) (cwV 1 hts gX12_hut_X12_isMan rfl rfl rfl (by decide +kernel) ⟨by decide, by decide⟩) (rv_M hK hP (by decide) (by decide)) rfl hl.1 rfl (Nat.le_of_ble_eq_true rfl) dX12_hut_7 (Nat.zero_le _) (Nat.zero_le _) (fun r3 u3 H3 locs3 hp3 hP hS => ?_)
  obtain ⟨σ3, τ3⟩ := u3
  obtain ⟨hR, f3, fL3, hq3, hp3_0⟩ : P_X12_isMan σ2 τ0 a1 r3 σ3 τ3 := hp3
  have hP : va_P D vwCl (gw cA ad σ3 τ3) H3 := hP
  obtain rfl := FrL.nil fL3
  obtain rfl := Fr.nil f3
  refine r_if_eq (tgt := 22) hx hb dX12_hut_10 (by decide) (fun c4 => ?_) (fun c4 => ?_)
  · clear hp3_0
    refine r_iconst hx hb dX12_hut_22 (by decide) (fun z5 ez5 => ?_)
    exact r_iret hx hb hr hK hP hS hk dX12_hut_23 (show P_X12_hut σ0 τ0 a1 z5 σ2 τ0 from ⟨hR, hF, hFL, by omega, gBI⟩)
  · replace hp3_0 := hp3_0.resolve_left (by omega)
    refine lv_aload_n hx hb dX12_hut_13 rfl (lv_at hl 0 rfl) ?_
    refine fg_12_6 (k := 387) hx hb hts in_X12_hut_12 hown hK hP (by decide) (by decide) (hts _ lk_X12_hut_33) dX12_hut_14 ?_
    refine r_iconst hx hb dX12_hut_17 (by decide) (fun z6 ez6 => ?_)
    refine ad_ms (k := 389) (j := 2) hx hb hK hP (by decide) (by decide) (by omega) (by omega) dX12_hut_18 ?_
    have hr7 := ra_ms_1 hR (k := 389) (j := 2) (by decide) (by decide) (by decide) (by decide)
    refine r_if_ne (tgt := 24) hx hb dX12_hut_19 (by decide) (fun c8 => ?_) (fun c8 => ?_)
    · refine lv_aload_n hx hb dX12_hut_24 rfl (lv_at hl 0 rfl) ?_
      refine r_cVv (k := 387) (As := []) (rest := []) ⟨hx, hb, hml, hown, hts⟩ hK hP hN hS (c_X12_asNow l D cA ad hI σ2 τ0 hR) (cwV 0 hts gX12_hut_X12_asNow rfl rfl rfl (by decide +kernel) ⟨by decide, by decide⟩) (rv_M hK hP (by decide) (by decide)) rfl hl.1 rfl (Nat.le_of_ble_eq_true rfl) dX12_hut_25 (Nat.zero_le _) (Nat.zero_le _) (fun u9 H9 locs9 hp9 hP hS => ?_)
      obtain ⟨σ9, τ9⟩ := u9
      obtain ⟨hR, f9, fL9⟩ : P_X12_asNow σ2 τ0 σ9 τ9 := hp9
      have hP : va_P D vwCl (gw cA ad σ9 τ9) H9 := hP
      obtain rfl := FrL.nil fL9
      have hF := hF.step f9 (by decide)
      have gBI := BI.fr gBI f9 (by decide)
      have gSI := SI.fr gSI hR f9 (by decide)
      have t10 : (σ9 389 2).toInt = (σ2 389 2).toInt := congrArg Int32.toInt (f9.at 389 2 (by decide))
      refine lv_aload_n hx hb dX12_hut_28 rfl (lv_at hl 0 rfl) ?_
      refine fg_12_24 (k := 387) hx hb hts in_X12_hut_12 hown hK hP (by decide) (by decide) (hts _ lk_X12_hut_56) dX12_hut_29 ?_
      refine lv_iload_n hx hb dX12_hut_32 rfl (lv_at hl 1 rfl) ?_
      refine r_iconst hx hb dX12_hut_33 (by decide) (fun z11 ez11 => ?_)
      obtain ⟨j12, ej12⟩ : ∃ j : Nat, a1.toInt = (j : Int) := ⟨_, ti_nat (by omega)⟩
      refine as_mp8 (k := 396) (j := j12) hx hb hK hP hI hR hS (by decide) (by decide) ej12 (by omega) dX12_hut_34 (fun σ13 H13 locs13 u13 v13 hR hP hS => ?_)
      have hF := hF.puts u13 1 rfl (by decide) (by decide) (by omega) (by omega)
      have gBI := BI.putV gBI u13 (by intro q hq; simp only [Gd_BI, List.mem_cons, List.not_mem_nil, or_false] at hq; rcases hq with rfl <;> dsimp only [inRc] <;> omega)
      have gSI := SI.putV gSI hR u13 (by intro q hq; simp only [Gd_SI, List.mem_cons, List.not_mem_nil, or_false] at hq; rcases hq with rfl | rfl | rfl <;> dsimp only [inRc] <;> omega)
      have t14 : (σ13 389 2).toInt = (σ9 389 2).toInt := congrArg Int32.toInt (u13 389 2 (by omega))
      refine r_iconst hx hb dX12_hut_35 (by decide) (fun z15 ez15 => ?_)
      refine lv_istore_n (lv' := [(2, .int z15), (0, .ref (ad 387)), (1, .int a1)]) hx hb dX12_hut_36 rfl hl (by decide) rfl (fun ls hl => ?_)
      refine r_iconst hx hb dX12_hut_37 (by decide) (fun z16 ez16 => ?_)
      refine lv_istore_n (lv' := [(3, .int z16), (2, .int z15), (0, .ref (ad 387)), (1, .int a1)]) hx hb dX12_hut_38 rfl hl (by decide) rfl (fun ls hl => ?_)
      refine r_iconst hx hb dX12_hut_39 (by decide) (fun z17 ez17 => ?_)
      refine lv_istore (lv' := [(4, .int z17), (3, .int z16), (2, .int z15), (0, .ref (ad 387)), (1, .int a1)]) hx hb dX12_hut_40 hl (by decide) rfl (fun ls hl => ?_)
      exact K42 σ13 τ0 H13 locs13 z15 z16 z17 ls hR hF hFL hP hS (by omega) (by omega) (by omega) (by omega) gSI gBI (lv_sub hl [3, 4, 2, 1, 0] rfl) (by omega)
    · refine r_iconst hx hb dX12_hut_22 (by decide) (fun z18 ez18 => ?_)
      exact r_iret hx hb hr hK hP hS hk dX12_hut_23 (show P_X12_hut σ0 τ0 a1 z18 σ2 τ0 from ⟨hR, hF, hFL, by omega, gBI⟩)
theorem in_X12_better_12 : ∀ w ∈ u_ws RX12 TX12 47, w ∈ wsX12_better := by decide +kernel
theorem lk_X12_better_378 : Cond.fieldLink RX12 378 "CuckooSharesModel" "hasBetter" "Z" ∈ wsX12_better := by decide +kernel
theorem lk_X12_better_382 : Cond.fieldLink RX12 382 "CuckooSharesModel" "betterUp" "I" ∈ wsX12_better := by decide +kernel
theorem lk_X12_better_385 : Cond.fieldLink RX12 385 "CuckooSharesModel" "betterBelow" "I" ∈ wsX12_better := by decide +kernel
abbrev L_X12_better : List Rc := [(387, 387, 0, 0)]
abbrev LL_X12_better : List Rc := []
def P_X12_better (σ0 : Nat → Nat → Int32) (τ0 : Nat → Nat → Int64) (a1 : Int32) (r : Int32) (σ : Nat → Nat → Int32) (τ : Nat → Nat → Int64) : Prop := Rg σ ∧ Fr L_X12_better σ0 σ ∧ FrL LL_X12_better τ0 τ
set_option maxHeartbeats 4000000 in
theorem c_X12_better (l : Launch) (D : va_G) (cA : Nat → ClassId) (ad : Nat → Nat) (hI : Inj ad) (σ0 : Nat → Nat → Int32) (τ0 : Nat → Nat → Int64) (hR : Rg σ0) (a1 : Int32) (hpre0 : (σ0 387 32).toInt = 0 ∨ (σ0 387 31).toInt ≠ 0) : Met l yX12_better wsX12_better ({ frames := 1, cells := 0, slots := 0, locals := 25 } : Room) (WQc D cA ad [.ref (ad 387), .int a1] σ0 τ0) (va_Qi (fun (r : Int32) (u : SS) => P_X12_better σ0 τ0 a1 r u.1 u.2) (WB D cA ad) (AA ad)) 0 0 (AA ad) := by
  refine Met.ofW (cc := cX12_better) (maxL := 2) (ret := (some .int)) (by decide) rfl ?_
  intro p e s m args below meth c s₁ B hml hv
  obtain ⟨rfl, hP, hK, hN⟩ := hv
  have C : Cy p s m _ meth c cX12_better 2 wsX12_better RX12 D cA ad (some .int) := ⟨B.exec, B.bytes, hml, findClass_of_methodNamed B.named, atoms_spec (ws := wsX12_better) B.pre, hK, B.notSynchronized, B.returns, hI, hN⟩
  have hl := lv_entry ([.ref (ad 387), .int a1]) (n := 2) (Nat.le_of_ble_eq_true rfl)
  rw [lg_entry_eq]
  generalize (lg_sl ([.ref (ad 387), .int a1]) ++ List.replicate (2 - (lg_sl ([.ref (ad 387), .int a1])).length) Slot.unset).toArray = ls at hl ⊢
  have hl : lv_has ls 2 [(0, .ref (ad 387)), (1, .int a1)] := hl
  have hS : va_S (AA ad) s.heap s.heap [] := va_S.rf
  have hF : Fr L_X12_better σ0 σ0 := Fr.rf
  have hFL : FrL LL_X12_better τ0 τ0 := FrL.rf
  obtain ⟨hx, hb, _, hown, hts, _, hk, hr, _, _⟩ := C
  have hrt32 := rg_12_32 hR (k := 387) (by decide) (by decide)
  refine lv_aload_n hx hb dX12_better_0 rfl (lv_at hl 0 rfl) ?_
  refine lv_aload_n hx hb dX12_better_1 rfl (lv_at hl 0 rfl) ?_
  refine fg_12_32 (k := 387) hx hb hts in_X12_better_12 hown hK hP (by decide) (by decide) (hts _ lk_X12_better_378) dX12_better_2 ?_
  refine r_if_eq (tgt := 17) hx hb dX12_better_5 (by decide) (fun c1 => ?_) (fun c1 => ?_)
  · refine r_iconst hx hb dX12_better_17 (by decide) (fun z2 ez2 => ?_)
    refine lv_goto (tgt := 22) hx hb dX12_better_18 (by decide) ?_
    refine r_cVi (k := 387) (As := [.int z2]) (rest := []) ⟨hx, hb, hml, hown, hts⟩ hK hP hN hS (c_X12_throwsIf l D cA ad hI σ0 τ0 hR z2 (by omega)) (cwV 1 hts gX12_better_X12_throwsIf rfl rfl rfl (by decide +kernel) ⟨by decide, by decide⟩) (rv_M hK hP (by decide) (by decide)) rfl hl.1 rfl (Nat.le_of_ble_eq_true rfl) dX12_better_22 (Nat.zero_le _) (Nat.zero_le _) (fun r3 u3 H3 locs3 hp3 hP hS => ?_)
    obtain ⟨σ3, τ3⟩ := u3
    obtain ⟨hR, f3, fL3, hq3, hp3_0⟩ : P_X12_throwsIf σ0 τ0 z2 r3 σ3 τ3 := hp3
    have hP : va_P D vwCl (gw cA ad σ3 τ3) H3 := hP
    obtain rfl := FrL.nil fL3
    have hF := hF.step f3 (by decide)
    have t4 : (σ3 387 31).toInt = (σ0 387 31).toInt := congrArg Int32.toInt (f3.at 387 31 (by decide))
    have t5 : (σ3 387 32).toInt = (σ0 387 32).toInt := congrArg Int32.toInt (f3.at 387 32 (by decide))
    refine r_if_eq (tgt := 32) hx hb dX12_better_25 (by decide) (fun c6 => ?_) (fun c6 => ?_)
    · exfalso; omega
    · refine r_iconst hx hb dX12_better_28 (by decide) (fun z7 ez7 => ?_)
      refine lv_goto (tgt := 44) hx hb dX12_better_29 (by decide) ?_
      exact r_iret hx hb hr hK hP hS hk dX12_better_44 (show P_X12_better σ0 τ0 a1 z7 σ3 τ0 from ⟨hR, hF, hFL⟩)
  · refine lv_iload_n hx hb dX12_better_8 rfl (lv_at hl 1 rfl) ?_
    refine r_iconst hx hb dX12_better_9 (by decide) (fun z8 ez8 => ?_)
    refine r_iconst hx hb dX12_better_10 (by decide) (fun z9 ez9 => ?_)
    refine r_cSi (As := [.int a1, .int z8, .int z9]) (rest := [.ref (ad 387)]) ⟨hx, hb, hml, hown, hts⟩ hK hP hN hS (c_X12_isIn l D cA ad hI σ0 τ0 hR a1 z8 z9) (va_cwS 3 hts gX12_better_X12_isIn rfl rfl rfl (by decide +kernel) ⟨by decide, by decide⟩) rfl hl.1 rfl (Nat.le_of_ble_eq_true rfl) dX12_better_11 (Nat.zero_le _) (Nat.zero_le _) (fun r10 u10 H10 locs10 hp10 hP hS => ?_)
    obtain ⟨σ10, τ10⟩ := u10
    obtain ⟨hR, f10, fL10, hq10, hp10_0, hp10_1⟩ : P_X12_isIn σ0 τ0 a1 z8 z9 r10 σ10 τ10 := hp10
    have hP : va_P D vwCl (gw cA ad σ10 τ10) H10 := hP
    obtain rfl := FrL.nil fL10
    obtain rfl := Fr.nil f10
    refine r_if_ne (tgt := 21) hx hb dX12_better_14 (by decide) (fun c11 => ?_) (fun c11 => ?_)
    · replace hp10_0 := hp10_0.resolve_left (by omega)
      refine r_iconst hx hb dX12_better_21 (by decide) (fun z12 ez12 => ?_)
      refine r_cVi (k := 387) (As := [.int z12]) (rest := []) ⟨hx, hb, hml, hown, hts⟩ hK hP hN hS (c_X12_throwsIf l D cA ad hI σ0 τ0 hR z12 (by omega)) (cwV 1 hts gX12_better_X12_throwsIf rfl rfl rfl (by decide +kernel) ⟨by decide, by decide⟩) (rv_M hK hP (by decide) (by decide)) rfl hl.1 rfl (Nat.le_of_ble_eq_true rfl) dX12_better_22 (Nat.zero_le _) (Nat.zero_le _) (fun r13 u13 H13 locs13 hp13 hP hS => ?_)
      obtain ⟨σ13, τ13⟩ := u13
      obtain ⟨hR, f13, fL13, hq13, hp13_0⟩ : P_X12_throwsIf σ0 τ0 z12 r13 σ13 τ13 := hp13
      have hP : va_P D vwCl (gw cA ad σ13 τ13) H13 := hP
      obtain rfl := FrL.nil fL13
      have hF := hF.step f13 (by decide)
      have t14 : (σ13 387 31).toInt = (σ0 387 31).toInt := congrArg Int32.toInt (f13.at 387 31 (by decide))
      have t15 : (σ13 387 32).toInt = (σ0 387 32).toInt := congrArg Int32.toInt (f13.at 387 32 (by decide))
      refine r_if_eq (tgt := 32) hx hb dX12_better_25 (by decide) (fun c16 => ?_) (fun c16 => ?_)
      · refine lv_aload_n hx hb dX12_better_32 rfl (lv_at hl 0 rfl) ?_
        refine fg_12_30 (k := 387) hx hb hts in_X12_better_12 hown hK hP (by decide) (by decide) (hts _ lk_X12_better_382) dX12_better_33 ?_
        refine lv_aload_n hx hb dX12_better_36 rfl (lv_at hl 0 rfl) ?_
        refine fg_12_31 (k := 387) hx hb hts in_X12_better_12 hown hK hP (by decide) (by decide) (hts _ lk_X12_better_385) dX12_better_37 ?_
        refine lv_iload_n hx hb dX12_better_40 rfl (lv_at hl 1 rfl) ?_
        refine r_cSi (As := [.int (σ13 387 30), .int (σ13 387 31), .int a1]) (rest := []) ⟨hx, hb, hml, hown, hts⟩ hK hP hN hS (c_X12_part l D cA ad hI σ13 τ0 hR (σ13 387 30) (σ13 387 31) a1 (by omega) (by omega)) (va_cwS 3 hts gX12_better_X12_part rfl rfl rfl (by decide +kernel) ⟨by decide, by decide⟩) rfl hl.1 rfl (Nat.le_of_ble_eq_true rfl) dX12_better_41 (Nat.zero_le _) (Nat.zero_le _) (fun r17 u17 H17 locs17 hp17 hP hS => ?_)
        obtain ⟨σ17, τ17⟩ := u17
        obtain ⟨hR, f17, fL17⟩ : P_X12_part σ13 τ0 (σ13 387 30) (σ13 387 31) a1 r17 σ17 τ17 := hp17
        have hP : va_P D vwCl (gw cA ad σ17 τ17) H17 := hP
        obtain rfl := FrL.nil fL17
        obtain rfl := Fr.nil f17
        exact r_iret hx hb hr hK hP hS hk dX12_better_44 (show P_X12_better σ0 τ0 a1 r17 σ13 τ0 from ⟨hR, hF, hFL⟩)
      · exfalso; omega
    · clear hp10_0
      refine r_iconst hx hb dX12_better_17 (by decide) (fun z18 ez18 => ?_)
      refine lv_goto (tgt := 22) hx hb dX12_better_18 (by decide) ?_
      refine r_cVi (k := 387) (As := [.int z18]) (rest := []) ⟨hx, hb, hml, hown, hts⟩ hK hP hN hS (c_X12_throwsIf l D cA ad hI σ0 τ0 hR z18 (by omega)) (cwV 1 hts gX12_better_X12_throwsIf rfl rfl rfl (by decide +kernel) ⟨by decide, by decide⟩) (rv_M hK hP (by decide) (by decide)) rfl hl.1 rfl (Nat.le_of_ble_eq_true rfl) dX12_better_22 (Nat.zero_le _) (Nat.zero_le _) (fun r19 u19 H19 locs19 hp19 hP hS => ?_)
      obtain ⟨σ19, τ19⟩ := u19
      obtain ⟨hR, f19, fL19, hq19, hp19_0⟩ : P_X12_throwsIf σ0 τ0 z18 r19 σ19 τ19 := hp19
      have hP : va_P D vwCl (gw cA ad σ19 τ19) H19 := hP
      obtain rfl := FrL.nil fL19
      have hF := hF.step f19 (by decide)
      have t20 : (σ19 387 31).toInt = (σ0 387 31).toInt := congrArg Int32.toInt (f19.at 387 31 (by decide))
      have t21 : (σ19 387 32).toInt = (σ0 387 32).toInt := congrArg Int32.toInt (f19.at 387 32 (by decide))
      refine r_if_eq (tgt := 32) hx hb dX12_better_25 (by decide) (fun c22 => ?_) (fun c22 => ?_)
      · exfalso; omega
      · refine r_iconst hx hb dX12_better_28 (by decide) (fun z23 ez23 => ?_)
        refine lv_goto (tgt := 44) hx hb dX12_better_29 (by decide) ?_
        exact r_iret hx hb hr hK hP hS hk dX12_better_44 (show P_X12_better σ0 τ0 a1 z23 σ19 τ0 from ⟨hR, hF, hFL⟩)
theorem in_X12_octet_12 : ∀ w ∈ u_ws RX12 TX12 47, w ∈ wsX12_octet := by decide +kernel
theorem lk_X12_octet_14 : Cond.fieldLink RX12 14 "CuckooSharesModel" "tape" "[B" ∈ wsX12_octet := by decide +kernel
abbrev L_X12_octet : List Rc := []
abbrev LL_X12_octet : List Rc := []
def P_X12_octet (σ0 : Nat → Nat → Int32) (τ0 : Nat → Nat → Int64) (a1 : Int32) (r : Int32) (σ : Nat → Nat → Int32) (τ : Nat → Nat → Int64) : Prop := Rg σ ∧ Fr L_X12_octet σ0 σ ∧ FrL LL_X12_octet τ0 τ ∧ (0 ≤ r.toInt ∧ r.toInt ≤ 255) ∧ (r.toInt = OCt σ0 a1) ∧ (0 ≤ r.toInt ∧ r.toInt ≤ 255)
set_option maxHeartbeats 4000000 in
theorem c_X12_octet (l : Launch) (D : va_G) (cA : Nat → ClassId) (ad : Nat → Nat) (hI : Inj ad) (σ0 : Nat → Nat → Int32) (τ0 : Nat → Nat → Int64) (hR : Rg σ0) (a1 : Int32) (ha1 : 0 ≤ a1.toInt ∧ a1.toInt ≤ 939) : Met l yX12_octet wsX12_octet ({ frames := 0, cells := 0, slots := 0, locals := 0 } : Room) (WQc D cA ad [.ref (ad 387), .int a1] σ0 τ0) (va_Qi (fun (r : Int32) (u : SS) => P_X12_octet σ0 τ0 a1 r u.1 u.2) (WB D cA ad) (AA ad)) 0 0 (AA ad) := by
  refine Met.ofW (cc := cX12_octet) (maxL := 2) (ret := (some .int)) (by decide) rfl ?_
  intro p e s m args below meth c s₁ B hml hv
  obtain ⟨rfl, hP, hK, hN⟩ := hv
  have C : Cy p s m _ meth c cX12_octet 2 wsX12_octet RX12 D cA ad (some .int) := ⟨B.exec, B.bytes, hml, findClass_of_methodNamed B.named, atoms_spec (ws := wsX12_octet) B.pre, hK, B.notSynchronized, B.returns, hI, hN⟩
  have hl := lv_entry ([.ref (ad 387), .int a1]) (n := 2) (Nat.le_of_ble_eq_true rfl)
  rw [lg_entry_eq]
  generalize (lg_sl ([.ref (ad 387), .int a1]) ++ List.replicate (2 - (lg_sl ([.ref (ad 387), .int a1])).length) Slot.unset).toArray = ls at hl ⊢
  have hl : lv_has ls 2 [(0, .ref (ad 387)), (1, .int a1)] := hl
  have hS : va_S (AA ad) s.heap s.heap [] := va_S.rf
  have hF : Fr L_X12_octet σ0 σ0 := Fr.rf
  have hFL : FrL LL_X12_octet τ0 τ0 := FrL.rf
  obtain ⟨hx, hb, _, hown, hts, _, hk, hr, _, _⟩ := C
  refine lv_aload_n hx hb dX12_octet_0 rfl (lv_at hl 0 rfl) ?_
  refine fg_12_1 (k := 387) hx hb hts in_X12_octet_12 hown hK hP (by decide) (by decide) (hts _ lk_X12_octet_14) dX12_octet_1 ?_
  refine lv_iload_n hx hb dX12_octet_4 rfl (lv_at hl 1 rfl) ?_
  obtain ⟨j1, ej1⟩ : ∃ j : Nat, a1.toInt = (j : Int) := ⟨_, ti_nat (by omega)⟩
  refine ad_mtape (k := 388) (j := j1) hx hb hK hP (by decide) (by decide) ej1 (by omega) dX12_octet_5 ?_
  refine lv_sipush (v := 255) hx hb dX12_octet_6 (by decide) ?_
  have kcz2 : (255 : Int32).toInt = 255 := rfl
  refine lv_iand hx hb dX12_octet_9 ?_
  exact r_iret hx hb hr hK hP hS hk dX12_octet_10 (show P_X12_octet σ0 τ0 a1 ((σ0 388 j1) &&& 255) σ0 τ0 from ⟨hR, hF, hFL, ti_and (n := 8) (by decide), by unfold OCt; rw [show a1.toInt.toNat = j1 from (by omega)], ti_and (n := 8) (by decide)⟩)
theorem in_X12_whence_12 : ∀ w ∈ u_ws RX12 TX12 47, w ∈ wsX12_whence := by decide +kernel
theorem lk_X12_whence_1 : Cond.fieldLink RX12 1 "CuckooSharesModel" "thrown" "I" ∈ wsX12_whence := by decide +kernel
theorem lk_X12_whence_18 : Cond.fieldLink RX12 18 "CuckooSharesModel" "size" "I" ∈ wsX12_whence := by decide +kernel
theorem lk_X12_whence_33 : Cond.fieldLink RX12 33 "CuckooSharesModel" "s" "[I" ∈ wsX12_whence := by decide +kernel
abbrev L_X12_whence : List Rc := [(387, 387, 0, 0), (387, 387, 2, 5), (394, 394, 0, 7), (395, 395, 0, 7), (396, 396, 0, 7)]
abbrev LL_X12_whence : List Rc := []
def P_X12_whence (σ0 : Nat → Nat → Int32) (τ0 : Nat → Nat → Int64)  (r : Int32) (σ : Nat → Nat → Int32) (τ : Nat → Nat → Int64) : Prop := Rg σ ∧ Fr L_X12_whence σ0 σ ∧ FrL LL_X12_whence τ0 τ ∧ ((σ 387 2).toInt = 0)
def J_X12_whence_39 (p : Program) (l : Launch) (e : Env) (s : State) (m : MethodId) (args : Array Value) (below : List Frame) (meth : Method) (c : Code) (D : va_G) (cA : Nat → ClassId) (ad : Nat → Nat) (σ0 : Nat → Nat → Int32) (τ0 : Nat → Nat → Int64)  (n : Nat) : Prop := ∀ (σ : Nat → Nat → Int32) (τ : Nat → Nat → Int64) (H : Heap) (locs : List Loc) (x1 : Int32) (ls : Array Slot), Rg σ → Fr L_X12_whence σ0 σ → FrL LL_X12_whence τ0 τ → va_P D vwCl (gw cA ad σ τ) H → va_S (AA ad) s.heap H locs → (0 ≤ x1.toInt ∧ x1.toInt ≤ 41) → (2 ≤ (σ 387 3).toInt ∧ (σ 387 3).toInt ≤ 40) → (0 ≤ (σ 387 2).toInt ∧ (σ 387 2).toInt ≤ 0) → (∀ y : Int32, 0 ≤ y.toInt → y.toInt < x1.toInt → y.toInt % 2 = 0 → OCt σ0 y ≤ 7) → (x1.toInt % 2 = 0) → lv_has ls 6 [(0, .ref (ad 387)), (1, .int x1)] → 6457 * (41 - x1.toInt) + 6456 < (n : Int) → W p l e ({ frames := 3, cells := 0, slots := 0, locals := 69 } : Room) s m args below meth c H locs 0 0 (MQ below (va_Qi (fun (r : Int32) (u : SS) => P_X12_whence σ0 τ0 r u.1 u.2) (WB D cA ad) (AA ad)) args s 0 0 (AA ad)) (F0 m 39 ls [])
def J_X12_whence_75 (p : Program) (l : Launch) (e : Env) (s : State) (m : MethodId) (args : Array Value) (below : List Frame) (meth : Method) (c : Code) (D : va_G) (cA : Nat → ClassId) (ad : Nat → Nat) (σ0 : Nat → Nat → Int32) (τ0 : Nat → Nat → Int64)  (n : Nat) : Prop := ∀ (σ : Nat → Nat → Int32) (τ : Nat → Nat → Int64) (H : Heap) (locs : List Loc) (x1 : Int32) (x2 : Int32) (ls : Array Slot), Rg σ → Fr L_X12_whence σ0 σ → FrL LL_X12_whence τ0 τ → va_P D vwCl (gw cA ad σ τ) H → va_S (AA ad) s.heap H locs → (0 ≤ x2.toInt ∧ x2.toInt ≤ 4) → (2 ≤ (σ 387 3).toInt ∧ (σ 387 3).toInt ≤ 40) → (0 ≤ (σ 387 2).toInt ∧ (σ 387 2).toInt ≤ 0) → (∀ y : Int32, 0 ≤ y.toInt → y.toInt < (σ 387 3).toInt → y.toInt % 2 = 0 → OCt σ0 y ≤ 7) → lv_has ls 6 [(0, .ref (ad 387)), (1, .int x1), (2, .int x2)] → 1076 * (4 - x2.toInt) + 1075 < (n : Int) → W p l e ({ frames := 3, cells := 0, slots := 0, locals := 69 } : Room) s m args below meth c H locs 0 0 (MQ below (va_Qi (fun (r : Int32) (u : SS) => P_X12_whence σ0 τ0 r u.1 u.2) (WB D cA ad) (AA ad)) args s 0 0 (AA ad)) (F0 m 75 ls [])
def J_X12_whence_90 (p : Program) (l : Launch) (e : Env) (s : State) (m : MethodId) (args : Array Value) (below : List Frame) (meth : Method) (c : Code) (D : va_G) (cA : Nat → ClassId) (ad : Nat → Nat) (σ0 : Nat → Nat → Int32) (τ0 : Nat → Nat → Int64)  (n : Nat) : Prop := ∀ (σ : Nat → Nat → Int32) (τ : Nat → Nat → Int64) (H : Heap) (locs : List Loc) (x1 : Int32) (x2 : Int32) (x3 : Int32) (x4 : Int32) (ls : Array Slot), Rg σ → Fr L_X12_whence σ0 σ → FrL LL_X12_whence τ0 τ → va_P D vwCl (gw cA ad σ τ) H → va_S (AA ad) s.heap H locs → (0 ≤ x2.toInt ∧ x2.toInt ≤ 3) → (0 ≤ x3.toInt ∧ x3.toInt ≤ 1) → (0 ≤ x4.toInt ∧ x4.toInt ≤ 41) → (2 ≤ (σ 387 3).toInt ∧ (σ 387 3).toInt ≤ 40) → (0 ≤ (σ 387 2).toInt ∧ (σ 387 2).toInt ≤ 0) → (∀ y : Int32, 0 ≤ y.toInt → y.toInt < (σ 387 3).toInt → y.toInt % 2 = 0 → OCt σ0 y ≤ 7) → (x4.toInt % 2 = 0) → lv_has ls 6 [(0, .ref (ad 387)), (1, .int x1), (2, .int x2), (3, .int x3), (4, .int x4)] → 25 * (41 - x4.toInt) + 1076 * (4 - x2.toInt) + 24 < (n : Int) → W p l e ({ frames := 3, cells := 0, slots := 0, locals := 69 } : Room) s m args below meth c H locs 0 0 (MQ below (va_Qi (fun (r : Int32) (u : SS) => P_X12_whence σ0 τ0 r u.1 u.2) (WB D cA ad) (AA ad)) args s 0 0 (AA ad)) (F0 m 90 ls [])
def J_X12_whence_108 (p : Program) (l : Launch) (e : Env) (s : State) (m : MethodId) (args : Array Value) (below : List Frame) (meth : Method) (c : Code) (D : va_G) (cA : Nat → ClassId) (ad : Nat → Nat) (σ0 : Nat → Nat → Int32) (τ0 : Nat → Nat → Int64)  (n : Nat) : Prop := ∀ (σ : Nat → Nat → Int32) (τ : Nat → Nat → Int64) (H : Heap) (locs : List Loc) (x1 : Int32) (x2 : Int32) (x3 : Int32) (x4 : Int32) (x5 : Int32) (ls : Array Slot), Rg σ → Fr L_X12_whence σ0 σ → FrL LL_X12_whence τ0 τ → va_P D vwCl (gw cA ad σ τ) H → va_S (AA ad) s.heap H locs → (0 ≤ x2.toInt ∧ x2.toInt ≤ 3) → (0 ≤ x3.toInt ∧ x3.toInt ≤ 1) → (0 ≤ x4.toInt ∧ x4.toInt ≤ 39) → (0 ≤ x5.toInt ∧ x5.toInt ≤ 10) → (2 ≤ (σ 387 3).toInt ∧ (σ 387 3).toInt ≤ 40) → (0 ≤ (σ 387 2).toInt ∧ (σ 387 2).toInt ≤ 0) → (∀ y : Int32, 0 ≤ y.toInt → y.toInt < (σ 387 3).toInt → y.toInt % 2 = 0 → OCt σ0 y ≤ 7) → (x4.toInt % 2 = 0) → (x4.toInt < (σ 387 3).toInt) → lv_has ls 6 [(0, .ref (ad 387)), (1, .int x1), (2, .int x2), (3, .int x3), (4, .int x4), (5, .int x5)] → 25 * (41 - x4.toInt) + 1076 * (4 - x2.toInt) + 2 * (10 - x5.toInt) + 1 < (n : Int) → W p l e ({ frames := 3, cells := 0, slots := 0, locals := 69 } : Room) s m args below meth c H locs 0 0 (MQ below (va_Qi (fun (r : Int32) (u : SS) => P_X12_whence σ0 τ0 r u.1 u.2) (WB D cA ad) (AA ad)) args s 0 0 (AA ad)) (F0 m 108 ls [])
set_option maxHeartbeats 4000000 in
theorem B_X12_whence_39 (p : Program) (l : Launch) (e : Env) (s : State) (m : MethodId) (args : Array Value) (below : List Frame) (meth : Method) (c : Code) (D : va_G) (cA : Nat → ClassId) (ad : Nat → Nat) (σ0 : Nat → Nat → Int32) (τ0 : Nat → Nat → Int64)  (n : Nat) (C : Cy p s m args meth c cX12_whence 6 wsX12_whence RX12 D cA ad (some .int))  (K39 : J_X12_whence_39 p l e s m args below meth c D cA ad σ0 τ0 n) (K75 : J_X12_whence_75 p l e s m args below meth c D cA ad σ0 τ0 n) (K90 : J_X12_whence_90 p l e s m args below meth c D cA ad σ0 τ0 n) (K108 : J_X12_whence_108 p l e s m args below meth c D cA ad σ0 τ0 n) : J_X12_whence_39 p l e s m args below meth c D cA ad σ0 τ0 (n + 1) := by
  obtain ⟨hx, hb, hml, hown, hts, hK, hk, hr, hI, hN⟩ := C
  intro σ τ H locs x1 ls hR hF hFL hP hS hc0 hc1 hc2 hi0 hi1 hl hm
  obtain rfl := FrL.nil hFL
  refine lv_iload_n hx hb dX12_whence_39 rfl (lv_at hl 1 rfl) ?_
  refine lv_aload_n hx hb dX12_whence_40 rfl (lv_at hl 0 rfl) ?_
  refine fg_12_3 (k := 387) hx hb hts in_X12_whence_12 hown hK hP (by decide) (by decide) (hts _ lk_X12_whence_18) dX12_whence_41 ?_
  refine r_icmp_ge (tgt := 67) hx hb dX12_whence_44 (by decide) (fun c1 => ?_) (fun c1 => ?_)
  · refine lv_aload_n hx hb dX12_whence_67 rfl (lv_at hl 0 rfl) ?_
    refine r_cVv (k := 387) (As := []) (rest := []) ⟨hx, hb, hml, hown, hts⟩ hK hP hN hS (c_X12_asNow l D cA ad hI σ τ0 hR) (cwV 0 hts gX12_whence_X12_asNow rfl rfl rfl (by decide +kernel) ⟨by decide, by decide⟩) (rv_M hK hP (by decide) (by decide)) rfl hl.1 rfl (Nat.le_of_ble_eq_true rfl) dX12_whence_68 (Nat.zero_le _) (Nat.zero_le _) (fun u2 H2 locs2 hp2 hP hS => ?_)
    obtain ⟨σ2, τ2⟩ := u2
    obtain ⟨hR, f2, fL2⟩ : P_X12_asNow σ τ0 σ2 τ2 := hp2
    have hP : va_P D vwCl (gw cA ad σ2 τ2) H2 := hP
    obtain rfl := FrL.nil fL2
    have hF := hF.step f2 (by decide)
    have t3 : (σ2 387 3).toInt = (σ 387 3).toInt := congrArg Int32.toInt (f2.at 387 3 (by decide))
    have t4 : (σ2 387 2).toInt = (σ 387 2).toInt := congrArg Int32.toInt (f2.at 387 2 (by decide))
    refine r_iconst hx hb dX12_whence_71 (by decide) (fun z5 ez5 => ?_)
    refine lv_istore_n (lv' := [(1, .int z5), (0, .ref (ad 387))]) hx hb dX12_whence_72 rfl hl (by decide) rfl (fun ls hl => ?_)
    refine r_iconst hx hb dX12_whence_73 (by decide) (fun z6 ez6 => ?_)
    refine lv_istore_n (lv' := [(2, .int z6), (1, .int z5), (0, .ref (ad 387))]) hx hb dX12_whence_74 rfl hl (by decide) rfl (fun ls hl => ?_)
    exact K75 σ2 τ0 H2 locs2 z5 z6 ls hR hF hFL hP hS (by omega) (by omega) (by omega) (by intro y h1 h2 h3; exact hi0 y h1 (by omega) h3) (lv_sub hl [2, 1, 0] rfl) (by omega)
  · refine lv_aload_n hx hb dX12_whence_47 rfl (lv_at hl 0 rfl) ?_
    refine lv_aload_n hx hb dX12_whence_48 rfl (lv_at hl 0 rfl) ?_
    refine lv_iload_n hx hb dX12_whence_49 rfl (lv_at hl 1 rfl) ?_
    refine r_cVi (k := 387) (As := [.int x1]) (rest := [.ref (ad 387)]) ⟨hx, hb, hml, hown, hts⟩ hK hP hN hS (c_X12_octet l D cA ad hI σ τ0 hR x1 (by omega)) (cwV 1 hts gX12_whence_X12_octet rfl rfl rfl (by decide +kernel) ⟨by decide, by decide⟩) (rv_M hK hP (by decide) (by decide)) rfl hl.1 rfl (Nat.le_of_ble_eq_true rfl) dX12_whence_50 (Nat.zero_le _) (Nat.zero_le _) (fun r7 u7 H7 locs7 hp7 hP hS => ?_)
    obtain ⟨σ7, τ7⟩ := u7
    obtain ⟨hR, f7, fL7, hq7, hp7_0, hp7_1⟩ : P_X12_octet σ τ0 x1 r7 σ7 τ7 := hp7
    have hP : va_P D vwCl (gw cA ad σ7 τ7) H7 := hP
    obtain rfl := FrL.nil fL7
    obtain rfl := Fr.nil f7
    have ho := OC_eq hF (by decide) x1 (by omega)
    refine r_cVi (k := 387) (As := [.int r7]) (rest := []) ⟨hx, hb, hml, hown, hts⟩ hK hP hN hS (c_X12_isMan l D cA ad hI σ τ0 hR r7) (cwV 1 hts gX12_whence_X12_isMan rfl rfl rfl (by decide +kernel) ⟨by decide, by decide⟩) (rv_M hK hP (by decide) (by decide)) rfl hl.1 rfl (Nat.le_of_ble_eq_true rfl) dX12_whence_53 (Nat.zero_le _) (Nat.zero_le _) (fun r8 u8 H8 locs8 hp8 hP hS => ?_)
    obtain ⟨σ8, τ8⟩ := u8
    obtain ⟨hR, f8, fL8, hq8, hp8_0⟩ : P_X12_isMan σ τ0 r7 r8 σ8 τ8 := hp8
    have hP : va_P D vwCl (gw cA ad σ8 τ8) H8 := hP
    obtain rfl := FrL.nil fL8
    obtain rfl := Fr.nil f8
    refine r_if_ne (tgt := 61) hx hb dX12_whence_56 (by decide) (fun c9 => ?_) (fun c9 => ?_)
    · replace hp8_0 := hp8_0.resolve_left (by omega)
      refine r_iinc (k := 1) (lv1 := fun z10 => [(1, .int z10), (0, .ref (ad 387))]) hx hb dX12_whence_61 hl rfl (by decide) (fun _ => rfl) (by decide) (by omega) (fun z10 ls ez10 hl => ?_)
      refine lv_goto (tgt := 39) hx hb dX12_whence_64 (by decide) ?_
      exact K39 σ τ0 H8 locs8 z10 ls hR hF hFL hP hS (by omega) (by omega) (by omega) (by intro y h1 h2 h3; first | (exfalso; omega) | (by_cases e : y.toInt = x1.toInt <;> first | (have e2 : y = x1 := Int32.toInt_inj.mp e; subst e2; omega) | exact hi0 y h1 (by omega) h3)) (by omega) (lv_sub hl [1, 0] rfl) (by omega)
    · clear hp8_0
      refine r_iconst hx hb dX12_whence_59 (by decide) (fun z11 ez11 => ?_)
      exact r_iret hx hb hr hK hP hS hk dX12_whence_60 (show P_X12_whence σ0 τ0 z11 σ τ0 from ⟨hR, hF, hFL, by omega⟩)
set_option maxHeartbeats 4000000 in
theorem B_X12_whence_75 (p : Program) (l : Launch) (e : Env) (s : State) (m : MethodId) (args : Array Value) (below : List Frame) (meth : Method) (c : Code) (D : va_G) (cA : Nat → ClassId) (ad : Nat → Nat) (σ0 : Nat → Nat → Int32) (τ0 : Nat → Nat → Int64)  (n : Nat) (C : Cy p s m args meth c cX12_whence 6 wsX12_whence RX12 D cA ad (some .int))  (K39 : J_X12_whence_39 p l e s m args below meth c D cA ad σ0 τ0 n) (K75 : J_X12_whence_75 p l e s m args below meth c D cA ad σ0 τ0 n) (K90 : J_X12_whence_90 p l e s m args below meth c D cA ad σ0 τ0 n) (K108 : J_X12_whence_108 p l e s m args below meth c D cA ad σ0 τ0 n) : J_X12_whence_75 p l e s m args below meth c D cA ad σ0 τ0 (n + 1) := by
  obtain ⟨hx, hb, hml, hown, hts, hK, hk, hr, hI, hN⟩ := C
  intro σ τ H locs x1 x2 ls hR hF hFL hP hS hc0 hc1 hc2 hi0 hl hm
  obtain rfl := FrL.nil hFL
  refine lv_iload_n hx hb dX12_whence_75 rfl (lv_at hl 2 rfl) ?_
  refine lv_aload_n hx hb dX12_whence_76 rfl (lv_at hl 0 rfl) ?_
  refine fg_12_6 (k := 387) hx hb hts in_X12_whence_12 hown hK hP (by decide) (by decide) (hts _ lk_X12_whence_33) dX12_whence_77 ?_
  refine r_iconst hx hb dX12_whence_80 (by decide) (fun z1 ez1 => ?_)
  refine ad_ms (k := 389) (j := 2) hx hb hK hP (by decide) (by decide) (by omega) (by omega) dX12_whence_81 ?_
  have hr2 := ra_ms_1 hR (k := 389) (j := 2) (by decide) (by decide) (by decide) (by decide)
  refine r_icmp_ge (tgt := 206) hx hb dX12_whence_82 (by decide) (fun c3 => ?_) (fun c3 => ?_)
  · refine lv_iload_n hx hb dX12_whence_206 rfl (lv_at hl 1 rfl) ?_
    exact r_iret hx hb hr hK hP hS hk dX12_whence_207 (show P_X12_whence σ0 τ0 x1 σ τ0 from ⟨hR, hF, hFL, by omega⟩)
  · refine r_iconst hx hb dX12_whence_85 (by decide) (fun z4 ez4 => ?_)
    refine lv_istore_n (lv' := [(3, .int z4), (0, .ref (ad 387)), (1, .int x1), (2, .int x2)]) hx hb dX12_whence_86 rfl hl (by decide) rfl (fun ls hl => ?_)
    refine r_iconst hx hb dX12_whence_87 (by decide) (fun z5 ez5 => ?_)
    refine lv_istore (lv' := [(4, .int z5), (3, .int z4), (0, .ref (ad 387)), (1, .int x1), (2, .int x2)]) hx hb dX12_whence_88 hl (by decide) rfl (fun ls hl => ?_)
    exact K90 σ τ0 H locs x1 x2 z4 z5 ls hR hF hFL hP hS (by omega) (by omega) (by omega) (by omega) (by omega) (by intro y h1 h2 h3; exact hi0 y h1 (by omega) h3) (by omega) (lv_sub hl [2, 3, 4, 1, 0] rfl) (by omega)
set_option maxHeartbeats 4000000 in
theorem B_X12_whence_90 (p : Program) (l : Launch) (e : Env) (s : State) (m : MethodId) (args : Array Value) (below : List Frame) (meth : Method) (c : Code) (D : va_G) (cA : Nat → ClassId) (ad : Nat → Nat) (σ0 : Nat → Nat → Int32) (τ0 : Nat → Nat → Int64)  (n : Nat) (C : Cy p s m args meth c cX12_whence 6 wsX12_whence RX12 D cA ad (some .int))  (K39 : J_X12_whence_39 p l e s m args below meth c D cA ad σ0 τ0 n) (K75 : J_X12_whence_75 p l e s m args below meth c D cA ad σ0 τ0 n) (K90 : J_X12_whence_90 p l e s m args below meth c D cA ad σ0 τ0 n) (K108 : J_X12_whence_108 p l e s m args below meth c D cA ad σ0 τ0 n) : J_X12_whence_90 p l e s m args below meth c D cA ad σ0 τ0 (n + 1) := by
  obtain ⟨hx, hb, hml, hown, hts, hK, hk, hr, hI, hN⟩ := C
  intro σ τ H locs x1 x2 x3 x4 ls hR hF hFL hP hS hc0 hc1 hc2 hc3 hc4 hi0 hi1 hl hm
  obtain rfl := FrL.nil hFL
  refine lv_iload hx hb dX12_whence_90 (lv_at hl 4 rfl) ?_
  refine lv_aload_n hx hb dX12_whence_92 rfl (lv_at hl 0 rfl) ?_
  refine fg_12_3 (k := 387) hx hb hts in_X12_whence_12 hown hK hP (by decide) (by decide) (hts _ lk_X12_whence_18) dX12_whence_93 ?_
  refine r_icmp_ge (tgt := 186) hx hb dX12_whence_96 (by decide) (fun c1 => ?_) (fun c1 => ?_)
  · refine lv_iload_n hx hb dX12_whence_186 rfl (lv_at hl 1 rfl) ?_
    refine lv_iload_n hx hb dX12_whence_187 rfl (lv_at hl 3 rfl) ?_
    refine r_if_eq (tgt := 197) hx hb dX12_whence_188 (by decide) (fun c2 => ?_) (fun c2 => ?_)
    · refine r_iconst hx hb dX12_whence_197 (by decide) (fun z3 ez3 => ?_)
      refine r_iorU hx hb dX12_whence_198 (fun z4 => ?_)
      refine lv_istore_n (lv' := [(1, .int z4), (0, .ref (ad 387)), (2, .int x2), (3, .int x3), (4, .int x4)]) hx hb dX12_whence_199 rfl hl (by decide) rfl (fun ls hl => ?_)
      refine r_iinc (k := 2) (lv1 := fun z5 => [(2, .int z5), (1, .int z4), (0, .ref (ad 387)), (3, .int x3), (4, .int x4)]) hx hb dX12_whence_200 hl rfl (by decide) (fun _ => rfl) (by decide) (by omega) (fun z5 ls ez5 hl => ?_)
      refine lv_goto (tgt := 75) hx hb dX12_whence_203 (by decide) ?_
      exact K75 σ τ0 H locs z4 z5 ls hR hF hFL hP hS (by omega) (by omega) (by omega) (by intro y h1 h2 h3; exact hi0 y h1 (by omega) h3) (lv_sub hl [2, 1, 0] rfl) (by omega)
    · refine r_iconst hx hb dX12_whence_191 (by decide) (fun z6 ez6 => ?_)
      refine lv_iload_n hx hb dX12_whence_192 rfl (lv_at hl 2 rfl) ?_
      refine r_ishlU hx hb dX12_whence_193 (fun z7 => ?_)
      refine lv_goto (tgt := 198) hx hb dX12_whence_194 (by decide) ?_
      refine r_iorU hx hb dX12_whence_198 (fun z8 => ?_)
      refine lv_istore_n (lv' := [(1, .int z8), (0, .ref (ad 387)), (2, .int x2), (3, .int x3), (4, .int x4)]) hx hb dX12_whence_199 rfl hl (by decide) rfl (fun ls hl => ?_)
      refine r_iinc (k := 2) (lv1 := fun z9 => [(2, .int z9), (1, .int z8), (0, .ref (ad 387)), (3, .int x3), (4, .int x4)]) hx hb dX12_whence_200 hl rfl (by decide) (fun _ => rfl) (by decide) (by omega) (fun z9 ls ez9 hl => ?_)
      refine lv_goto (tgt := 75) hx hb dX12_whence_203 (by decide) ?_
      exact K75 σ τ0 H locs z8 z9 ls hR hF hFL hP hS (by omega) (by omega) (by omega) (by intro y h1 h2 h3; exact hi0 y h1 (by omega) h3) (lv_sub hl [2, 1, 0] rfl) (by omega)
  · refine lv_iload_n hx hb dX12_whence_99 rfl (lv_at hl 3 rfl) ?_
    refine r_if_eq (tgt := 186) hx hb dX12_whence_100 (by decide) (fun c10 => ?_) (fun c10 => ?_)
    · refine lv_iload_n hx hb dX12_whence_186 rfl (lv_at hl 1 rfl) ?_
      refine lv_iload_n hx hb dX12_whence_187 rfl (lv_at hl 3 rfl) ?_
      refine r_if_eq (tgt := 197) hx hb dX12_whence_188 (by decide) (fun c11 => ?_) (fun c11 => ?_)
      · refine r_iconst hx hb dX12_whence_197 (by decide) (fun z12 ez12 => ?_)
        refine r_iorU hx hb dX12_whence_198 (fun z13 => ?_)
        refine lv_istore_n (lv' := [(1, .int z13), (0, .ref (ad 387)), (2, .int x2), (3, .int x3), (4, .int x4)]) hx hb dX12_whence_199 rfl hl (by decide) rfl (fun ls hl => ?_)
        refine r_iinc (k := 2) (lv1 := fun z14 => [(2, .int z14), (1, .int z13), (0, .ref (ad 387)), (3, .int x3), (4, .int x4)]) hx hb dX12_whence_200 hl rfl (by decide) (fun _ => rfl) (by decide) (by omega) (fun z14 ls ez14 hl => ?_)
        refine lv_goto (tgt := 75) hx hb dX12_whence_203 (by decide) ?_
        exact K75 σ τ0 H locs z13 z14 ls hR hF hFL hP hS (by omega) (by omega) (by omega) (by intro y h1 h2 h3; exact hi0 y h1 (by omega) h3) (lv_sub hl [2, 1, 0] rfl) (by omega)
      · exfalso; omega
    · refine r_iconst hx hb dX12_whence_103 (by decide) (fun z15 ez15 => ?_)
      refine lv_istore_n (lv' := [(3, .int z15), (0, .ref (ad 387)), (1, .int x1), (2, .int x2), (4, .int x4)]) hx hb dX12_whence_104 rfl hl (by decide) rfl (fun ls hl => ?_)
      refine r_iconst hx hb dX12_whence_105 (by decide) (fun z16 ez16 => ?_)
      refine lv_istore (lv' := [(5, .int z16), (3, .int z15), (0, .ref (ad 387)), (1, .int x1), (2, .int x2), (4, .int x4)]) hx hb dX12_whence_106 hl (by decide) rfl (fun ls hl => ?_)
      exact K108 σ τ0 H locs x1 x2 z15 x4 z16 ls hR hF hFL hP hS (by omega) (by omega) (by omega) (by omega) (by omega) (by omega) (by intro y h1 h2 h3; exact hi0 y h1 (by omega) h3) (by omega) (by omega) (lv_sub hl [2, 3, 4, 1, 5, 0] rfl) (by omega)
set_option maxHeartbeats 4000000 in
theorem B_X12_whence_108 (p : Program) (l : Launch) (e : Env) (s : State) (m : MethodId) (args : Array Value) (below : List Frame) (meth : Method) (c : Code) (D : va_G) (cA : Nat → ClassId) (ad : Nat → Nat) (σ0 : Nat → Nat → Int32) (τ0 : Nat → Nat → Int64)  (n : Nat) (C : Cy p s m args meth c cX12_whence 6 wsX12_whence RX12 D cA ad (some .int))  (K39 : J_X12_whence_39 p l e s m args below meth c D cA ad σ0 τ0 n) (K75 : J_X12_whence_75 p l e s m args below meth c D cA ad σ0 τ0 n) (K90 : J_X12_whence_90 p l e s m args below meth c D cA ad σ0 τ0 n) (K108 : J_X12_whence_108 p l e s m args below meth c D cA ad σ0 τ0 n) : J_X12_whence_108 p l e s m args below meth c D cA ad σ0 τ0 (n + 1) := by
  obtain ⟨hx, hb, hml, hown, hts, hK, hk, hr, hI, hN⟩ := C
  intro σ τ H locs x1 x2 x3 x4 x5 ls hR hF hFL hP hS hc0 hc1 hc2 hc3 hc4 hc5 hi0 hi1 hi2 hl hm
  obtain rfl := FrL.nil hFL
  refine lv_iload hx hb dX12_whence_108 (lv_at hl 5 rfl) ?_
  refine lv_aload_n hx hb dX12_whence_110 rfl (lv_at hl 0 rfl) ?_
  refine fg_12_6 (k := 387) hx hb hts in_X12_whence_12 hown hK hP (by decide) (by decide) (hts _ lk_X12_whence_33) dX12_whence_111 ?_
  refine r_bipush hx hb dX12_whence_114 (by decide) (fun z1 ez1 => ?_)
  refine lv_iload_n hx hb dX12_whence_116 rfl (lv_at hl 2 rfl) ?_
  refine r_iadd hx hb dX12_whence_117 (by omega) (fun z2 ez2 => ?_)
  obtain ⟨j3, ej3⟩ : ∃ j : Nat, z2.toInt = (j : Int) := ⟨_, ti_nat (by omega)⟩
  refine ad_ms (k := 389) (j := j3) hx hb hK hP (by decide) (by decide) ej3 (by omega) dX12_whence_118 ?_
  have hr4 := ra_ms_4 hR (k := 389) (j := j3) (by decide) (by decide) (by omega) (by omega)
  refine r_icmp_ge (tgt := 180) hx hb dX12_whence_119 (by decide) (fun c5 => ?_) (fun c5 => ?_)
  · refine r_iinc (k := 4) (lv1 := fun z6 => [(4, .int z6), (0, .ref (ad 387)), (1, .int x1), (2, .int x2), (3, .int x3), (5, .int x5)]) hx hb dX12_whence_180 hl rfl (by decide) (fun _ => rfl) (by decide) (by omega) (fun z6 ls ez6 hl => ?_)
    refine lv_goto (tgt := 90) hx hb dX12_whence_183 (by decide) ?_
    exact K90 σ τ0 H locs x1 x2 x3 z6 ls hR hF hFL hP hS (by omega) (by omega) (by omega) (by omega) (by omega) (by intro y h1 h2 h3; exact hi0 y h1 (by omega) h3) (by omega) (lv_sub hl [1, 2, 3, 4, 0] rfl) (by omega)
  · refine lv_iload_n hx hb dX12_whence_122 rfl (lv_at hl 3 rfl) ?_
    refine r_if_ne (tgt := 168) hx hb dX12_whence_123 (by decide) (fun c7 => ?_) (fun c7 => ?_)
    · refine r_iconst hx hb dX12_whence_168 (by decide) (fun z8 ez8 => ?_)
      refine lv_goto (tgt := 173) hx hb dX12_whence_169 (by decide) ?_
      refine lv_istore_n (lv' := [(3, .int z8), (0, .ref (ad 387)), (1, .int x1), (2, .int x2), (4, .int x4), (5, .int x5)]) hx hb dX12_whence_173 rfl hl (by decide) rfl (fun ls hl => ?_)
      refine r_iinc (k := 5) (lv1 := fun z9 => [(5, .int z9), (3, .int z8), (0, .ref (ad 387)), (1, .int x1), (2, .int x2), (4, .int x4)]) hx hb dX12_whence_174 hl rfl (by decide) (fun _ => rfl) (by decide) (by omega) (fun z9 ls ez9 hl => ?_)
      refine lv_goto (tgt := 108) hx hb dX12_whence_177 (by decide) ?_
      exact K108 σ τ0 H locs x1 x2 z8 x4 z9 ls hR hF hFL hP hS (by omega) (by omega) (by omega) (by omega) (by omega) (by omega) (by intro y h1 h2 h3; exact hi0 y h1 (by omega) h3) (by omega) (by omega) (lv_sub hl [2, 3, 4, 1, 5, 0] rfl) (by omega)
    · refine lv_aload_n hx hb dX12_whence_126 rfl (lv_at hl 0 rfl) ?_
      refine fg_12_6 (k := 387) hx hb hts in_X12_whence_12 hown hK hP (by decide) (by decide) (hts _ lk_X12_whence_33) dX12_whence_127 ?_
      refine r_bipush hx hb dX12_whence_130 (by decide) (fun z10 ez10 => ?_)
      refine r_bipush hx hb dX12_whence_132 (by decide) (fun z11 ez11 => ?_)
      refine lv_iload_n hx hb dX12_whence_134 rfl (lv_at hl 2 rfl) ?_
      refine r_imulL (n := 10) hx hb dX12_whence_135 (by omega) (by omega) (fun z12 ez12 => ?_)
      refine r_iadd hx hb dX12_whence_136 (by omega) (fun z13 ez13 => ?_)
      refine lv_iload hx hb dX12_whence_137 (lv_at hl 5 rfl) ?_
      refine r_iadd hx hb dX12_whence_139 (by omega) (fun z14 ez14 => ?_)
      obtain ⟨j15, ej15⟩ : ∃ j : Nat, z14.toInt = (j : Int) := ⟨_, ti_nat (by omega)⟩
      refine ad_ms (k := 389) (j := j15) hx hb hK hP (by decide) (by decide) ej15 (by omega) dX12_whence_140 ?_
      refine lv_aload_n hx hb dX12_whence_141 rfl (lv_at hl 0 rfl) ?_
      refine lv_iload hx hb dX12_whence_142 (lv_at hl 4 rfl) ?_
      refine r_iconst hx hb dX12_whence_144 (by decide) (fun z16 ez16 => ?_)
      refine r_iadd hx hb dX12_whence_145 (by omega) (fun z17 ez17 => ?_)
      refine r_cVi (k := 387) (As := [.int z17]) (rest := [.int (σ 389 j15)]) ⟨hx, hb, hml, hown, hts⟩ hK hP hN hS (c_X12_octet l D cA ad hI σ τ0 hR z17 (by omega)) (cwV 1 hts gX12_whence_X12_octet rfl rfl rfl (by decide +kernel) ⟨by decide, by decide⟩) (rv_M hK hP (by decide) (by decide)) rfl hl.1 rfl (Nat.le_of_ble_eq_true rfl) dX12_whence_146 (Nat.zero_le _) (Nat.zero_le _) (fun r18 u18 H18 locs18 hp18 hP hS => ?_)
      obtain ⟨σ18, τ18⟩ := u18
      obtain ⟨hR, f18, fL18, hq18, hp18_0, hp18_1⟩ : P_X12_octet σ τ0 z17 r18 σ18 τ18 := hp18
      have hP : va_P D vwCl (gw cA ad σ18 τ18) H18 := hP
      obtain rfl := FrL.nil fL18
      obtain rfl := Fr.nil f18
      refine r_icmp_ne (tgt := 172) hx hb dX12_whence_149 (by decide) (fun c19 => ?_) (fun c19 => ?_)
      · refine r_iconst hx hb dX12_whence_172 (by decide) (fun z20 ez20 => ?_)
        refine lv_istore_n (lv' := [(3, .int z20), (0, .ref (ad 387)), (1, .int x1), (2, .int x2), (4, .int x4), (5, .int x5)]) hx hb dX12_whence_173 rfl hl (by decide) rfl (fun ls hl => ?_)
        refine r_iinc (k := 5) (lv1 := fun z21 => [(5, .int z21), (3, .int z20), (0, .ref (ad 387)), (1, .int x1), (2, .int x2), (4, .int x4)]) hx hb dX12_whence_174 hl rfl (by decide) (fun _ => rfl) (by decide) (by omega) (fun z21 ls ez21 hl => ?_)
        refine lv_goto (tgt := 108) hx hb dX12_whence_177 (by decide) ?_
        exact K108 σ τ0 H18 locs18 x1 x2 z20 x4 z21 ls hR hF hFL hP hS (by omega) (by omega) (by omega) (by omega) (by omega) (by omega) (by intro y h1 h2 h3; exact hi0 y h1 (by omega) h3) (by omega) (by omega) (lv_sub hl [2, 3, 4, 1, 5, 0] rfl) (by omega)
      · refine lv_aload_n hx hb dX12_whence_152 rfl (lv_at hl 0 rfl) ?_
        refine lv_aload_n hx hb dX12_whence_153 rfl (lv_at hl 0 rfl) ?_
        refine lv_iload hx hb dX12_whence_154 (lv_at hl 4 rfl) ?_
        refine r_cVi (k := 387) (As := [.int x4]) (rest := [.ref (ad 387)]) ⟨hx, hb, hml, hown, hts⟩ hK hP hN hS (c_X12_octet l D cA ad hI σ τ0 hR x4 (by omega)) (cwV 1 hts gX12_whence_X12_octet rfl rfl rfl (by decide +kernel) ⟨by decide, by decide⟩) (rv_M hK hP (by decide) (by decide)) rfl hl.1 rfl (Nat.le_of_ble_eq_true rfl) dX12_whence_156 (Nat.zero_le _) (Nat.zero_le _) (fun r22 u22 H22 locs22 hp22 hP hS => ?_)
        obtain ⟨σ22, τ22⟩ := u22
        obtain ⟨hR, f22, fL22, hq22, hp22_0, hp22_1⟩ : P_X12_octet σ τ0 x4 r22 σ22 τ22 := hp22
        have hP : va_P D vwCl (gw cA ad σ22 τ22) H22 := hP
        obtain rfl := FrL.nil fL22
        obtain rfl := Fr.nil f22
        have ho := OC_eq hF (by decide) x4 (by omega)
        have hw := hi0 x4 (by omega) (by omega) (by omega)
        refine lv_iload_n hx hb dX12_whence_159 rfl (lv_at hl 2 rfl) ?_
        refine lv_iload hx hb dX12_whence_160 (lv_at hl 5 rfl) ?_
        refine r_cVi (k := 387) (As := [.int r22, .int x2, .int x5]) (rest := []) ⟨hx, hb, hml, hown, hts⟩ hK hP hN hS (c_X12_canHear l D cA ad hI σ τ0 hR r22 x2 x5 (by omega) (by omega) (by omega)) (cwV 3 hts gX12_whence_X12_canHear rfl rfl rfl (by decide +kernel) ⟨by decide, by decide⟩) (rv_M hK hP (by decide) (by decide)) rfl hl.1 rfl (Nat.le_of_ble_eq_true rfl) dX12_whence_162 (Nat.zero_le _) (Nat.zero_le _) (fun r23 u23 H23 locs23 hp23 hP hS => ?_)
        obtain ⟨σ23, τ23⟩ := u23
        obtain ⟨hR, f23, fL23, hq23⟩ : P_X12_canHear σ τ0 r22 x2 x5 r23 σ23 τ23 := hp23
        have hP : va_P D vwCl (gw cA ad σ23 τ23) H23 := hP
        obtain rfl := FrL.nil fL23
        obtain rfl := Fr.nil f23
        refine r_if_eq (tgt := 172) hx hb dX12_whence_165 (by decide) (fun c24 => ?_) (fun c24 => ?_)
        · refine r_iconst hx hb dX12_whence_172 (by decide) (fun z25 ez25 => ?_)
          refine lv_istore_n (lv' := [(3, .int z25), (0, .ref (ad 387)), (1, .int x1), (2, .int x2), (4, .int x4), (5, .int x5)]) hx hb dX12_whence_173 rfl hl (by decide) rfl (fun ls hl => ?_)
          refine r_iinc (k := 5) (lv1 := fun z26 => [(5, .int z26), (3, .int z25), (0, .ref (ad 387)), (1, .int x1), (2, .int x2), (4, .int x4)]) hx hb dX12_whence_174 hl rfl (by decide) (fun _ => rfl) (by decide) (by omega) (fun z26 ls ez26 hl => ?_)
          refine lv_goto (tgt := 108) hx hb dX12_whence_177 (by decide) ?_
          exact K108 σ τ0 H23 locs23 x1 x2 z25 x4 z26 ls hR hF hFL hP hS (by omega) (by omega) (by omega) (by omega) (by omega) (by omega) (by intro y h1 h2 h3; exact hi0 y h1 (by omega) h3) (by omega) (by omega) (lv_sub hl [2, 3, 4, 1, 5, 0] rfl) (by omega)
        · refine r_iconst hx hb dX12_whence_168 (by decide) (fun z27 ez27 => ?_)
          refine lv_goto (tgt := 173) hx hb dX12_whence_169 (by decide) ?_
          refine lv_istore_n (lv' := [(3, .int z27), (0, .ref (ad 387)), (1, .int x1), (2, .int x2), (4, .int x4), (5, .int x5)]) hx hb dX12_whence_173 rfl hl (by decide) rfl (fun ls hl => ?_)
          refine r_iinc (k := 5) (lv1 := fun z28 => [(5, .int z28), (3, .int z27), (0, .ref (ad 387)), (1, .int x1), (2, .int x2), (4, .int x4)]) hx hb dX12_whence_174 hl rfl (by decide) (fun _ => rfl) (by decide) (by omega) (fun z28 ls ez28 hl => ?_)
          refine lv_goto (tgt := 108) hx hb dX12_whence_177 (by decide) ?_
          exact K108 σ τ0 H23 locs23 x1 x2 z27 x4 z28 ls hR hF hFL hP hS (by omega) (by omega) (by omega) (by omega) (by omega) (by omega) (by intro y h1 h2 h3; exact hi0 y h1 (by omega) h3) (by omega) (by omega) (lv_sub hl [2, 3, 4, 1, 5, 0] rfl) (by omega)
theorem A_X12_whence (p : Program) (l : Launch) (e : Env) (s : State) (m : MethodId) (args : Array Value) (below : List Frame) (meth : Method) (c : Code) (D : va_G) (cA : Nat → ClassId) (ad : Nat → Nat) (σ0 : Nat → Nat → Int32) (τ0 : Nat → Nat → Int64)  (C : Cy p s m args meth c cX12_whence 6 wsX12_whence RX12 D cA ad (some .int))  : ∀ n : Nat, J_X12_whence_39 p l e s m args below meth c D cA ad σ0 τ0 n ∧ J_X12_whence_75 p l e s m args below meth c D cA ad σ0 τ0 n ∧ J_X12_whence_90 p l e s m args below meth c D cA ad σ0 τ0 n ∧ J_X12_whence_108 p l e s m args below meth c D cA ad σ0 τ0 n := by
  intro n
  induction n with
  | zero =>
    exact ⟨(by intro σ τ H locs x1 ls hR hF hFL hP hS hc0 hc1 hc2 hi0 hi1 hl hm; exfalso; omega), (by intro σ τ H locs x1 x2 ls hR hF hFL hP hS hc0 hc1 hc2 hi0 hl hm; exfalso; omega), (by intro σ τ H locs x1 x2 x3 x4 ls hR hF hFL hP hS hc0 hc1 hc2 hc3 hc4 hi0 hi1 hl hm; exfalso; omega), (by intro σ τ H locs x1 x2 x3 x4 x5 ls hR hF hFL hP hS hc0 hc1 hc2 hc3 hc4 hc5 hi0 hi1 hi2 hl hm; exfalso; omega)⟩
  | succ n ih =>
    exact ⟨B_X12_whence_39 p l e s m args below meth c D cA ad σ0 τ0 n C  ih.1 ih.2.1 ih.2.2.1 ih.2.2.2, B_X12_whence_75 p l e s m args below meth c D cA ad σ0 τ0 n C  ih.1 ih.2.1 ih.2.2.1 ih.2.2.2, B_X12_whence_90 p l e s m args below meth c D cA ad σ0 τ0 n C  ih.1 ih.2.1 ih.2.2.1 ih.2.2.2, B_X12_whence_108 p l e s m args below meth c D cA ad σ0 τ0 n C  ih.1 ih.2.1 ih.2.2.1 ih.2.2.2⟩
set_option maxHeartbeats 4000000 in
theorem c_X12_whence (l : Launch) (D : va_G) (cA : Nat → ClassId) (ad : Nat → Nat) (hI : Inj ad) (σ0 : Nat → Nat → Int32) (τ0 : Nat → Nat → Int64) (hR : Rg σ0)   : Met l yX12_whence wsX12_whence ({ frames := 3, cells := 0, slots := 0, locals := 69 } : Room) (WQc D cA ad [.ref (ad 387)] σ0 τ0) (va_Qi (fun (r : Int32) (u : SS) => P_X12_whence σ0 τ0 r u.1 u.2) (WB D cA ad) (AA ad)) 0 0 (AA ad) := by
  refine Met.ofW (cc := cX12_whence) (maxL := 6) (ret := (some .int)) (by decide) rfl ?_
  intro p e s m args below meth c s₁ B hml hv
  obtain ⟨rfl, hP, hK, hN⟩ := hv
  have C : Cy p s m _ meth c cX12_whence 6 wsX12_whence RX12 D cA ad (some .int) := ⟨B.exec, B.bytes, hml, findClass_of_methodNamed B.named, atoms_spec (ws := wsX12_whence) B.pre, hK, B.notSynchronized, B.returns, hI, hN⟩
  have hl := lv_entry ([.ref (ad 387)]) (n := 6) (Nat.le_of_ble_eq_true rfl)
  rw [lg_entry_eq]
  generalize (lg_sl ([.ref (ad 387)]) ++ List.replicate (6 - (lg_sl ([.ref (ad 387)])).length) Slot.unset).toArray = ls at hl ⊢
  have hl : lv_has ls 6 [(0, .ref (ad 387))] := hl
  have hS : va_S (AA ad) s.heap s.heap [] := va_S.rf
  have hF : Fr L_X12_whence σ0 σ0 := Fr.rf
  have hFL : FrL LL_X12_whence τ0 τ0 := FrL.rf
  have hA := A_X12_whence p l e s m _ below meth c D cA ad σ0 τ0 C  555301
  have K39 := hA.1
  have K75 := hA.2.1
  have K90 := hA.2.2.1
  have K108 := hA.2.2.2
  clear hA
  obtain ⟨hx, hb, _, hown, hts, _, hk, hr, _, _⟩ := C
  have hrt3 := rg_12_3 hR (k := 387) (by decide) (by decide)
  have hrt2 := rg_12_2 hR (k := 387) (by decide) (by decide)
  refine lv_aload_n hx hb dX12_whence_0 rfl (lv_at hl 0 rfl) ?_
  refine r_iconst hx hb dX12_whence_1 (by decide) (fun z1 ez1 => ?_)
  refine fp_12_0 (k := 387) hx hb hts in_X12_whence_12 hown hK hP (by decide) (by decide) (hts _ lk_X12_whence_1) hI hR hS (by omega) dX12_whence_2 (fun σ2 H2 locs2 u2 v2 hR hP hS => ?_)
  have hF := hF.puts u2 0 rfl (by decide) (by decide) (by decide) (by decide)
  have t3 : (σ2 387 3).toInt = (σ0 387 3).toInt := congrArg Int32.toInt (u2 387 3 (by omega))
  have t4 : (σ2 387 2).toInt = (σ0 387 2).toInt := congrArg Int32.toInt (u2 387 2 (by omega))
  refine lv_aload_n hx hb dX12_whence_5 rfl (lv_at hl 0 rfl) ?_
  refine r_sipush hx hb dX12_whence_6 (by decide) (fun z5 ez5 => ?_)
  refine r_cVv (k := 387) (As := [.int z5]) (rest := []) ⟨hx, hb, hml, hown, hts⟩ hK hP hN hS (c_X12_taken l D cA ad hI σ2 τ0 hR z5 (by omega)) (cwV 1 hts gX12_whence_X12_taken rfl rfl rfl (by decide +kernel) ⟨by decide, by decide⟩) (rv_M hK hP (by decide) (by decide)) rfl hl.1 rfl (Nat.le_of_ble_eq_true rfl) dX12_whence_9 (Nat.zero_le _) (Nat.zero_le _) (fun u6 H6 locs6 hp6 hP hS => ?_)
  obtain ⟨σ6, τ6⟩ := u6
  obtain ⟨hR, f6, fL6, hp6_0, hp6_1, hp6_2, hp6_3⟩ : P_X12_taken σ2 τ0 z5 σ6 τ6 := hp6
  have hP : va_P D vwCl (gw cA ad σ6 τ6) H6 := hP
  obtain rfl := FrL.nil fL6
  have hF := hF.step f6 (by decide)
  have hr7 := rg_12_3 hR (k := 387) (by decide) (by decide)
  have hr8 := rg_12_2 hR (k := 387) (by decide) (by decide)
  refine lv_aload_n hx hb dX12_whence_12 rfl (lv_at hl 0 rfl) ?_
  refine fg_12_3 (k := 387) hx hb hts in_X12_whence_12 hown hK hP (by decide) (by decide) (hts _ lk_X12_whence_18) dX12_whence_13 ?_
  refine r_iconst hx hb dX12_whence_16 (by decide) (fun z9 ez9 => ?_)
  refine r_bipush hx hb dX12_whence_17 (by decide) (fun z10 ez10 => ?_)
  refine r_cSi (As := [.int (σ6 387 3), .int z9, .int z10]) (rest := []) ⟨hx, hb, hml, hown, hts⟩ hK hP hN hS (c_X12_isIn l D cA ad hI σ6 τ0 hR (σ6 387 3) z9 z10) (va_cwS 3 hts gX12_whence_X12_isIn rfl rfl rfl (by decide +kernel) ⟨by decide, by decide⟩) rfl hl.1 rfl (Nat.le_of_ble_eq_true rfl) dX12_whence_19 (Nat.zero_le _) (Nat.zero_le _) (fun r11 u11 H11 locs11 hp11 hP hS => ?_)
  obtain ⟨σ11, τ11⟩ := u11
  obtain ⟨hR, f11, fL11, hq11, hp11_0, hp11_1⟩ : P_X12_isIn σ6 τ0 (σ6 387 3) z9 z10 r11 σ11 τ11 := hp11
  have hP : va_P D vwCl (gw cA ad σ11 τ11) H11 := hP
  obtain rfl := FrL.nil fL11
  obtain rfl := Fr.nil f11
  refine r_if_eq (tgt := 35) hx hb dX12_whence_22 (by decide) (fun c12 => ?_) (fun c12 => ?_)
  · clear hp11_0
    refine r_iconst hx hb dX12_whence_35 (by decide) (fun z13 ez13 => ?_)
    exact r_iret hx hb hr hK hP hS hk dX12_whence_36 (show P_X12_whence σ0 τ0 z13 σ6 τ0 from ⟨hR, hF, hFL, by omega⟩)
  · replace hp11_0 := hp11_0.resolve_left (by omega)
    refine lv_aload_n hx hb dX12_whence_25 rfl (lv_at hl 0 rfl) ?_
    refine fg_12_3 (k := 387) hx hb hts in_X12_whence_12 hown hK hP (by decide) (by decide) (hts _ lk_X12_whence_18) dX12_whence_26 ?_
    refine r_iconst hx hb dX12_whence_29 (by decide) (fun z14 ez14 => ?_)
    refine r_irem hx hb dX12_whence_30 (by omega) (fun z15 ez15 => ?_)
    have fz15 := ti_tm (a := (σ6 387 3).toInt) (b := z14.toInt) (by omega)
    refine r_iconst hx hb dX12_whence_31 (by decide) (fun z16 ez16 => ?_)
    refine r_icmp_ne (tgt := 37) hx hb dX12_whence_32 (by decide) (fun c17 => ?_) (fun c17 => ?_)
    · refine r_iconst hx hb dX12_whence_37 (by decide) (fun z18 ez18 => ?_)
      refine lv_istore_n (lv' := [(1, .int z18), (0, .ref (ad 387))]) hx hb dX12_whence_38 rfl hl (by decide) rfl (fun ls hl => ?_)
      exact K39 σ6 τ0 H11 locs11 z18 ls hR hF hFL hP hS (by omega) (by omega) (by omega) (by intro y h1 h2 h3; first | (exfalso; omega) | (by_cases e : y.toInt = x1.toInt <;> first | (have e2 : y = x1 := Int32.toInt_inj.mp e; subst e2; omega) | exact hi0 y h1 (by omega) h3)) (by omega) (lv_sub hl [1, 0] rfl) (by omega)
    · refine r_iconst hx hb dX12_whence_35 (by decide) (fun z19 ez19 => ?_)
      exact r_iret hx hb hr hK hP hS hk dX12_whence_36 (show P_X12_whence σ0 τ0 z19 σ6 τ0 from ⟨hR, hF, hFL, by omega⟩)
