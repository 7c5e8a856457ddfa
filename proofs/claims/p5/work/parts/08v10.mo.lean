theorem in_X12_hears_12 : ∀ w ∈ u_ws RX12 TX12 47, w ∈ wsX12_hears := by decide +kernel
theorem lk_X12_hears_1 : Cond.fieldLink RX12 1 "CuckooSharesModel" "thrown" "I" ∈ wsX12_hears := by decide +kernel
abbrev L_X12_hears : List Rc := [(387, 387, 0, 0), (394, 394, 0, 7), (395, 395, 0, 7), (396, 396, 0, 7)]
abbrev LL_X12_hears : List Rc := []
def P_X12_hears (σ0 : Nat → Nat → Int32) (τ0 : Nat → Nat → Int64) (a1 : Int32) (a2 : Int32) (a3 : Int32) (r : Int32) (σ : Nat → Nat → Int32) (τ : Nat → Nat → Int64) : Prop := Rg σ ∧ Fr L_X12_hears σ0 σ ∧ FrL LL_X12_hears τ0 τ ∧ (-1 ≤ r.toInt ∧ r.toInt ≤ 1)
set_option maxHeartbeats 4000000 in
theorem c_X12_hears (l : Launch) (D : va_G) (cA : Nat → ClassId) (ad : Nat → Nat) (hI : Inj ad) (σ0 : Nat → Nat → Int32) (τ0 : Nat → Nat → Int64) (hR : Rg σ0) (a1 : Int32) (a2 : Int32) (a3 : Int32)  : Met l yX12_hears wsX12_hears ({ frames := 3, cells := 0, slots := 0, locals := 69 } : Room) (WQc D cA ad [.ref (ad 387), .int a1, .int a2, .int a3] σ0 τ0) (va_Qi (fun (r : Int32) (u : SS) => P_X12_hears σ0 τ0 a1 a2 a3 r u.1 u.2) (WB D cA ad) (AA ad)) 0 0 (AA ad) := by
  refine Met.ofW (cc := cX12_hears) (maxL := 4) (ret := (some .int)) (by decide) rfl ?_
  intro p e s m args below meth c s₁ B hml hv
  obtain ⟨rfl, hP, hK, hN⟩ := hv
  have C : Cy p s m _ meth c cX12_hears 4 wsX12_hears RX12 D cA ad (some .int) := ⟨B.exec, B.bytes, hml, findClass_of_methodNamed B.named, atoms_spec (ws := wsX12_hears) B.pre, hK, B.notSynchronized, B.returns, hI, hN⟩
  have hl := lv_entry ([.ref (ad 387), .int a1, .int a2, .int a3]) (n := 4) (Nat.le_of_ble_eq_true rfl)
  rw [lg_entry_eq]
  generalize (lg_sl ([.ref (ad 387), .int a1, .int a2, .int a3]) ++ List.replicate (4 - (lg_sl ([.ref (ad 387), .int a1, .int a2, .int a3])).length) Slot.unset).toArray = ls at hl ⊢
  have hl : lv_has ls 4 [(0, .ref (ad 387)), (1, .int a1), (2, .int a2), (3, .int a3)] := hl
  have hS : va_S (AA ad) s.heap s.heap [] := va_S.rf
  have hF : Fr L_X12_hears σ0 σ0 := Fr.rf
  have hFL : FrL LL_X12_hears τ0 τ0 := FrL.rf
  obtain ⟨hx, hb, _, hown, hts, _, hk, hr, _, _⟩ := C
  refine lv_aload_n hx hb dX12_hears_0 rfl (lv_at hl 0 rfl) ?_
  refine r_iconst hx hb dX12_hears_1 (by decide) (fun z1 ez1 => ?_)
  refine fp_12_0 (k := 387) hx hb hts in_X12_hears_12 hown hK hP (by decide) (by decide) (hts _ lk_X12_hears_1) hI hR hS (by omega) dX12_hears_2 (fun σ2 H2 locs2 u2 v2 hR hP hS => ?_)
  have hF := hF.puts u2 0 rfl (by decide) (by decide) (by decide) (by decide)
  refine lv_aload_n hx hb dX12_hears_5 rfl (lv_at hl 0 rfl) ?_
  refine lv_iload_n hx hb dX12_hears_6 rfl (lv_at hl 1 rfl) ?_
  refine r_cVi (k := 387) (As := [.int a1]) (rest := []) ⟨hx, hb, hml, hown, hts⟩ hK hP hN hS (c_X12_isMan l D cA ad hI σ2 τ0 hR a1) (cwV 1 hts gX12_hears_X12_isMan rfl rfl rfl (by decide +kernel) ⟨by decide, by decide⟩) (rv_M hK hP (by decide) (by decide)) rfl hl.1 rfl (Nat.le_of_ble_eq_true rfl) dX12_hears_7 (Nat.zero_le _) (Nat.zero_le _) (fun r3 u3 H3 locs3 hp3 hP hS => ?_)
  obtain ⟨σ3, τ3⟩ := u3
  obtain ⟨hR, f3, fL3, hq3, hp3_0⟩ : P_X12_isMan σ2 τ0 a1 r3 σ3 τ3 := hp3
  have hP : va_P D vwCl (gw cA ad σ3 τ3) H3 := hP
  obtain rfl := FrL.nil fL3
  obtain rfl := Fr.nil f3
  refine r_if_eq (tgt := 22) hx hb dX12_hears_10 (by decide) (fun c4 => ?_) (fun c4 => ?_)
  · clear hp3_0
    refine r_iconst hx hb dX12_hears_22 (by decide) (fun z5 ez5 => ?_)
    exact r_iret hx hb hr hK hP hS hk dX12_hears_23 (show P_X12_hears σ0 τ0 a1 a2 a3 z5 σ2 τ0 from ⟨hR, hF, hFL, by omega⟩)
  · replace hp3_0 := hp3_0.resolve_left (by omega)
    refine lv_aload_n hx hb dX12_hears_13 rfl (lv_at hl 0 rfl) ?_
    refine lv_iload_n hx hb dX12_hears_14 rfl (lv_at hl 2 rfl) ?_
    refine lv_iload_n hx hb dX12_hears_15 rfl (lv_at hl 3 rfl) ?_
    refine r_cVi (k := 387) (As := [.int a2, .int a3]) (rest := []) ⟨hx, hb, hml, hown, hts⟩ hK hP hN hS (c_X12_isCall l D cA ad hI σ2 τ0 hR a2 a3) (cwV 2 hts gX12_hears_X12_isCall rfl rfl rfl (by decide +kernel) ⟨by decide, by decide⟩) (rv_M hK hP (by decide) (by decide)) rfl hl.1 rfl (Nat.le_of_ble_eq_true rfl) dX12_hears_16 (Nat.zero_le _) (Nat.zero_le _) (fun r6 u6 H6 locs6 hp6 hP hS => ?_)
    obtain ⟨σ6, τ6⟩ := u6
    obtain ⟨hR, f6, fL6, hq6, hp6_0, hp6_1⟩ : P_X12_isCall σ2 τ0 a2 a3 r6 σ6 τ6 := hp6
    have hP : va_P D vwCl (gw cA ad σ6 τ6) H6 := hP
    obtain rfl := FrL.nil fL6
    obtain rfl := Fr.nil f6
    refine r_if_ne (tgt := 24) hx hb dX12_hears_19 (by decide) (fun c7 => ?_) (fun c7 => ?_)
    · replace hp6_0 := hp6_0.resolve_left (by omega)
      refine lv_aload_n hx hb dX12_hears_24 rfl (lv_at hl 0 rfl) ?_
      refine r_cVv (k := 387) (As := []) (rest := []) ⟨hx, hb, hml, hown, hts⟩ hK hP hN hS (c_X12_asNow l D cA ad hI σ2 τ0 hR) (cwV 0 hts gX12_hears_X12_asNow rfl rfl rfl (by decide +kernel) ⟨by decide, by decide⟩) (rv_M hK hP (by decide) (by decide)) rfl hl.1 rfl (Nat.le_of_ble_eq_true rfl) dX12_hears_25 (Nat.zero_le _) (Nat.zero_le _) (fun u8 H8 locs8 hp8 hP hS => ?_)
      obtain ⟨σ8, τ8⟩ := u8
      obtain ⟨hR, f8, fL8⟩ : P_X12_asNow σ2 τ0 σ8 τ8 := hp8
      have hP : va_P D vwCl (gw cA ad σ8 τ8) H8 := hP
      obtain rfl := FrL.nil fL8
      have hF := hF.step f8 (by decide)
      refine lv_aload_n hx hb dX12_hears_28 rfl (lv_at hl 0 rfl) ?_
      refine lv_iload_n hx hb dX12_hears_29 rfl (lv_at hl 1 rfl) ?_
      refine lv_iload_n hx hb dX12_hears_30 rfl (lv_at hl 2 rfl) ?_
      refine lv_iload_n hx hb dX12_hears_31 rfl (lv_at hl 3 rfl) ?_
      refine r_cVi (k := 387) (As := [.int a1, .int a2, .int a3]) (rest := []) ⟨hx, hb, hml, hown, hts⟩ hK hP hN hS (c_X12_canHear l D cA ad hI σ8 τ0 hR a1 a2 a3 (by omega) (by omega) (by omega)) (cwV 3 hts gX12_hears_X12_canHear rfl rfl rfl (by decide +kernel) ⟨by decide, by decide⟩) (rv_M hK hP (by decide) (by decide)) rfl hl.1 rfl (Nat.le_of_ble_eq_true rfl) dX12_hears_32 (Nat.zero_le _) (Nat.zero_le _) (fun r9 u9 H9 locs9 hp9 hP hS => ?_)
      obtain ⟨σ9, τ9⟩ := u9
      obtain ⟨hR, f9, fL9, hq9⟩ : P_X12_canHear σ8 τ0 a1 a2 a3 r9 σ9 τ9 := hp9
      have hP : va_P D vwCl (gw cA ad σ9 τ9) H9 := hP
      obtain rfl := FrL.nil fL9
      obtain rfl := Fr.nil f9
      refine r_if_eq (tgt := 42) hx hb dX12_hears_35 (by decide) (fun c10 => ?_) (fun c10 => ?_)
      · refine r_iconst hx hb dX12_hears_42 (by decide) (fun z11 ez11 => ?_)
        exact r_iret hx hb hr hK hP hS hk dX12_hears_43 (show P_X12_hears σ0 τ0 a1 a2 a3 z11 σ8 τ0 from ⟨hR, hF, hFL, by omega⟩)
      · refine r_iconst hx hb dX12_hears_38 (by decide) (fun z12 ez12 => ?_)
        refine lv_goto (tgt := 43) hx hb dX12_hears_39 (by decide) ?_
        exact r_iret hx hb hr hK hP hS hk dX12_hears_43 (show P_X12_hears σ0 τ0 a1 a2 a3 z12 σ8 τ0 from ⟨hR, hF, hFL, by omega⟩)
    · clear hp6_0
      refine r_iconst hx hb dX12_hears_22 (by decide) (fun z13 ez13 => ?_)
      exact r_iret hx hb hr hK hP hS hk dX12_hears_23 (show P_X12_hears σ0 τ0 a1 a2 a3 z13 σ2 τ0 from ⟨hR, hF, hFL, by omega⟩)
theorem in_X12_whoHears_12 : ∀ w ∈ u_ws RX12 TX12 47, w ∈ wsX12_whoHears := by decide +kernel
theorem lk_X12_whoHears_33 : Cond.fieldLink RX12 33 "CuckooSharesModel" "s" "[I" ∈ wsX12_whoHears := by decide +kernel
abbrev L_X12_whoHears : List Rc := []
abbrev LL_X12_whoHears : List Rc := []
def P_X12_whoHears (σ0 : Nat → Nat → Int32) (τ0 : Nat → Nat → Int64) (a1 : Int32) (a2 : Int32) (r : Int32) (σ : Nat → Nat → Int32) (τ : Nat → Nat → Int64) : Prop := Rg σ ∧ Fr L_X12_whoHears σ0 σ ∧ FrL LL_X12_whoHears τ0 τ
def J_X12_whoHears_5 (p : Program) (l : Launch) (e : Env) (s : State) (m : MethodId) (args : Array Value) (below : List Frame) (meth : Method) (c : Code) (D : va_G) (cA : Nat → ClassId) (ad : Nat → Nat) (σ0 : Nat → Nat → Int32) (τ0 : Nat → Nat → Int64) (a1 : Int32) (a2 : Int32) (n : Nat) : Prop := ∀ (σ : Nat → Nat → Int32) (τ : Nat → Nat → Int64) (H : Heap) (locs : List Loc) (x3 : Int32) (x4 : Int32) (ls : Array Slot), Rg σ → Fr L_X12_whoHears σ0 σ → FrL LL_X12_whoHears τ0 τ → va_P D vwCl (gw cA ad σ τ) H → va_S (AA ad) s.heap H locs → (0 ≤ x4.toInt ∧ x4.toInt ≤ 8) → lv_has ls 5 [(0, .ref (ad 387)), (1, .int a1), (2, .int a2), (3, .int x3), (4, .int x4)] → 2 * (8 - x4.toInt) + 1 < (n : Int) → W p l e ({ frames := 3, cells := 0, slots := 0, locals := 69 } : Room) s m args below meth c H locs 0 0 (MQ below (va_Qi (fun (r : Int32) (u : SS) => P_X12_whoHears σ0 τ0 a1 a2 r u.1 u.2) (WB D cA ad) (AA ad)) args s 0 0 (AA ad)) (F0 m 5 ls [])
set_option maxHeartbeats 4000000 in
theorem B_X12_whoHears_5 (p : Program) (l : Launch) (e : Env) (s : State) (m : MethodId) (args : Array Value) (below : List Frame) (meth : Method) (c : Code) (D : va_G) (cA : Nat → ClassId) (ad : Nat → Nat) (σ0 : Nat → Nat → Int32) (τ0 : Nat → Nat → Int64) (a1 : Int32) (a2 : Int32) (n : Nat) (C : Cy p s m args meth c cX12_whoHears 5 wsX12_whoHears RX12 D cA ad (some .int)) (ha1 : 0 ≤ a1.toInt ∧ a1.toInt ≤ 3) (ha2 : 0 ≤ a2.toInt ∧ a2.toInt ≤ 9) (K5 : J_X12_whoHears_5 p l e s m args below meth c D cA ad σ0 τ0 a1 a2 n) : J_X12_whoHears_5 p l e s m args below meth c D cA ad σ0 τ0 a1 a2 (n + 1) := by
  obtain ⟨hx, hb, hml, hown, hts, hK, hk, hr, hI, hN⟩ := C
  intro σ τ H locs x3 x4 ls hR hF hFL hP hS hc0 hl hm
  obtain rfl := Fr.nil hF
  obtain rfl := FrL.nil hFL
  refine lv_iload hx hb dX12_whoHears_5 (lv_at hl 4 rfl) ?_
  refine lv_aload_n hx hb dX12_whoHears_7 rfl (lv_at hl 0 rfl) ?_
  refine fg_12_6 (k := 387) hx hb hts in_X12_whoHears_12 hown hK hP (by decide) (by decide) (hts _ lk_X12_whoHears_33) dX12_whoHears_8 ?_
  refine r_iconst hx hb dX12_whoHears_11 (by decide) (fun z1 ez1 => ?_)
  refine ad_ms (k := 389) (j := 1) hx hb hK hP (by decide) (by decide) (by omega) (by omega) dX12_whoHears_12 ?_
  have hr2 := ra_ms_0 hR (k := 389) (j := 1) (by decide) (by decide) (by decide) (by decide)
  refine r_icmp_ge (tgt := 44) hx hb dX12_whoHears_13 (by decide) (fun c3 => ?_) (fun c3 => ?_)
  · refine lv_iload_n hx hb dX12_whoHears_44 rfl (lv_at hl 3 rfl) ?_
    exact r_iret hx hb hr hK hP hS hk dX12_whoHears_45 (show P_X12_whoHears σ0 τ0 a1 a2 x3 σ0 τ0 from ⟨hR, hF, hFL⟩)
  · refine lv_iload_n hx hb dX12_whoHears_16 rfl (lv_at hl 3 rfl) ?_
    refine lv_aload_n hx hb dX12_whoHears_17 rfl (lv_at hl 0 rfl) ?_
    refine lv_iload hx hb dX12_whoHears_18 (lv_at hl 4 rfl) ?_
    refine lv_iload_n hx hb dX12_whoHears_20 rfl (lv_at hl 1 rfl) ?_
    refine lv_iload_n hx hb dX12_whoHears_21 rfl (lv_at hl 2 rfl) ?_
    refine r_cVi (k := 387) (As := [.int x4, .int a1, .int a2]) (rest := [.int x3]) ⟨hx, hb, hml, hown, hts⟩ hK hP hN hS (c_X12_canHear l D cA ad hI σ0 τ0 hR x4 a1 a2 (by omega) (by omega) (by omega)) (cwV 3 hts gX12_whoHears_X12_canHear rfl rfl rfl (by decide +kernel) ⟨by decide, by decide⟩) (rv_M hK hP (by decide) (by decide)) rfl hl.1 rfl (Nat.le_of_ble_eq_true rfl) dX12_whoHears_22 (Nat.zero_le _) (Nat.zero_le _) (fun r4 u4 H4 locs4 hp4 hP hS => ?_)
    obtain ⟨σ4, τ4⟩ := u4
    obtain ⟨hR, f4, fL4, hq4⟩ : P_X12_canHear σ0 τ0 x4 a1 a2 r4 σ4 τ4 := hp4
    have hP : va_P D vwCl (gw cA ad σ4 τ4) H4 := hP
    obtain rfl := FrL.nil fL4
    obtain rfl := Fr.nil f4
    refine r_if_eq (tgt := 35) hx hb dX12_whoHears_25 (by decide) (fun c5 => ?_) (fun c5 => ?_)
    · refine r_iconst hx hb dX12_whoHears_35 (by decide) (fun z6 ez6 => ?_)
      refine r_iorU hx hb dX12_whoHears_36 (fun z7 => ?_)
      refine lv_istore_n (lv' := [(3, .int z7), (0, .ref (ad 387)), (1, .int a1), (2, .int a2), (4, .int x4)]) hx hb dX12_whoHears_37 rfl hl (by decide) rfl (fun ls hl => ?_)
      refine r_iinc (k := 4) (lv1 := fun z8 => [(4, .int z8), (3, .int z7), (0, .ref (ad 387)), (1, .int a1), (2, .int a2)]) hx hb dX12_whoHears_38 hl rfl (by decide) (fun _ => rfl) (by decide) (by omega) (fun z8 ls ez8 hl => ?_)
      refine lv_goto (tgt := 5) hx hb dX12_whoHears_41 (by decide) ?_
      exact K5 σ0 τ0 H4 locs4 z7 z8 ls hR hF hFL hP hS (by omega) (lv_sub hl [2, 3, 4, 1, 0] rfl) (by omega)
    · refine r_iconst hx hb dX12_whoHears_28 (by decide) (fun z9 ez9 => ?_)
      refine lv_iload hx hb dX12_whoHears_29 (lv_at hl 4 rfl) ?_
      refine r_ishlU hx hb dX12_whoHears_31 (fun z10 => ?_)
      refine lv_goto (tgt := 36) hx hb dX12_whoHears_32 (by decide) ?_
      refine r_iorU hx hb dX12_whoHears_36 (fun z11 => ?_)
      refine lv_istore_n (lv' := [(3, .int z11), (0, .ref (ad 387)), (1, .int a1), (2, .int a2), (4, .int x4)]) hx hb dX12_whoHears_37 rfl hl (by decide) rfl (fun ls hl => ?_)
      refine r_iinc (k := 4) (lv1 := fun z12 => [(4, .int z12), (3, .int z11), (0, .ref (ad 387)), (1, .int a1), (2, .int a2)]) hx hb dX12_whoHears_38 hl rfl (by decide) (fun _ => rfl) (by decide) (by omega) (fun z12 ls ez12 hl => ?_)
      refine lv_goto (tgt := 5) hx hb dX12_whoHears_41 (by decide) ?_
      exact K5 σ0 τ0 H4 locs4 z11 z12 ls hR hF hFL hP hS (by omega) (lv_sub hl [2, 3, 4, 1, 0] rfl) (by omega)
theorem A_X12_whoHears (p : Program) (l : Launch) (e : Env) (s : State) (m : MethodId) (args : Array Value) (below : List Frame) (meth : Method) (c : Code) (D : va_G) (cA : Nat → ClassId) (ad : Nat → Nat) (σ0 : Nat → Nat → Int32) (τ0 : Nat → Nat → Int64) (a1 : Int32) (a2 : Int32) (C : Cy p s m args meth c cX12_whoHears 5 wsX12_whoHears RX12 D cA ad (some .int)) (ha1 : 0 ≤ a1.toInt ∧ a1.toInt ≤ 3) (ha2 : 0 ≤ a2.toInt ∧ a2.toInt ≤ 9) : ∀ n : Nat, J_X12_whoHears_5 p l e s m args below meth c D cA ad σ0 τ0 a1 a2 n := by
  intro n
  induction n with
  | zero =>
    exact (by intro σ τ H locs x3 x4 ls hR hF hFL hP hS hc0 hl hm; exfalso; omega)
  | succ n ih =>
    exact B_X12_whoHears_5 p l e s m args below meth c D cA ad σ0 τ0 a1 a2 n C ha1 ha2 ih
set_option maxHeartbeats 4000000 in
theorem c_X12_whoHears (l : Launch) (D : va_G) (cA : Nat → ClassId) (ad : Nat → Nat) (hI : Inj ad) (σ0 : Nat → Nat → Int32) (τ0 : Nat → Nat → Int64) (hR : Rg σ0) (a1 : Int32) (a2 : Int32) (ha1 : 0 ≤ a1.toInt ∧ a1.toInt ≤ 3) (ha2 : 0 ≤ a2.toInt ∧ a2.toInt ≤ 9) : Met l yX12_whoHears wsX12_whoHears ({ frames := 3, cells := 0, slots := 0, locals := 69 } : Room) (WQc D cA ad [.ref (ad 387), .int a1, .int a2] σ0 τ0) (va_Qi (fun (r : Int32) (u : SS) => P_X12_whoHears σ0 τ0 a1 a2 r u.1 u.2) (WB D cA ad) (AA ad)) 0 0 (AA ad) := by
  refine Met.ofW (cc := cX12_whoHears) (maxL := 5) (ret := (some .int)) (by decide) rfl ?_
  intro p e s m args below meth c s₁ B hml hv
  obtain ⟨rfl, hP, hK, hN⟩ := hv
  have C : Cy p s m _ meth c cX12_whoHears 5 wsX12_whoHears RX12 D cA ad (some .int) := ⟨B.exec, B.bytes, hml, findClass_of_methodNamed B.named, atoms_spec (ws := wsX12_whoHears) B.pre, hK, B.notSynchronized, B.returns, hI, hN⟩
  have hl := lv_entry ([.ref (ad 387), .int a1, .int a2]) (n := 5) (Nat.le_of_ble_eq_true rfl)
  rw [lg_entry_eq]
  generalize (lg_sl ([.ref (ad 387), .int a1, .int a2]) ++ List.replicate (5 - (lg_sl ([.ref (ad 387), .int a1, .int a2])).length) Slot.unset).toArray = ls at hl ⊢
  have hl : lv_has ls 5 [(0, .ref (ad 387)), (1, .int a1), (2, .int a2)] := hl
  have hS : va_S (AA ad) s.heap s.heap [] := va_S.rf
  have hF : Fr L_X12_whoHears σ0 σ0 := Fr.rf
  have hFL : FrL LL_X12_whoHears τ0 τ0 := FrL.rf
  have hA := A_X12_whoHears p l e s m _ below meth c D cA ad σ0 τ0 a1 a2 C ha1 ha2 42
  have K5 := hA
  clear hA
  obtain ⟨hx, hb, _, hown, hts, _, hk, hr, _, _⟩ := C
  refine r_iconst hx hb dX12_whoHears_0 (by decide) (fun z1 ez1 => ?_)
  refine lv_istore_n (lv' := [(3, .int z1), (0, .ref (ad 387)), (1, .int a1), (2, .int a2)]) hx hb dX12_whoHears_1 rfl hl (by decide) rfl (fun ls hl => ?_)
  refine r_iconst hx hb dX12_whoHears_2 (by decide) (fun z2 ez2 => ?_)
  refine lv_istore (lv' := [(4, .int z2), (3, .int z1), (0, .ref (ad 387)), (1, .int a1), (2, .int a2)]) hx hb dX12_whoHears_3 hl (by decide) rfl (fun ls hl => ?_)
  exact K5 σ0 τ0 s.heap [] z1 z2 ls hR hF hFL hP hS (by omega) (lv_sub hl [2, 3, 4, 1, 0] rfl) (by omega)
theorem in_X12_who_12 : ∀ w ∈ u_ws RX12 TX12 47, w ∈ wsX12_who := by decide +kernel
theorem lk_X12_who_1 : Cond.fieldLink RX12 1 "CuckooSharesModel" "thrown" "I" ∈ wsX12_who := by decide +kernel
abbrev L_X12_who : List Rc := [(387, 387, 0, 0), (394, 394, 0, 7), (395, 395, 0, 7), (396, 396, 0, 7)]
abbrev LL_X12_who : List Rc := []
def P_X12_who (σ0 : Nat → Nat → Int32) (τ0 : Nat → Nat → Int64) (a1 : Int32) (a2 : Int32) (r : Int32) (σ : Nat → Nat → Int32) (τ : Nat → Nat → Int64) : Prop := Rg σ ∧ Fr L_X12_who σ0 σ ∧ FrL LL_X12_who τ0 τ
set_option maxHeartbeats 4000000 in
theorem c_X12_who (l : Launch) (D : va_G) (cA : Nat → ClassId) (ad : Nat → Nat) (hI : Inj ad) (σ0 : Nat → Nat → Int32) (τ0 : Nat → Nat → Int64) (hR : Rg σ0) (a1 : Int32) (a2 : Int32)  : Met l yX12_who wsX12_who ({ frames := 4, cells := 0, slots := 0, locals := 93 } : Room) (WQc D cA ad [.ref (ad 387), .int a1, .int a2] σ0 τ0) (va_Qi (fun (r : Int32) (u : SS) => P_X12_who σ0 τ0 a1 a2 r u.1 u.2) (WB D cA ad) (AA ad)) 0 0 (AA ad) := by
  refine Met.ofW (cc := cX12_who) (maxL := 3) (ret := (some .int)) (by decide) rfl ?_
  intro p e s m args below meth c s₁ B hml hv
  obtain ⟨rfl, hP, hK, hN⟩ := hv
  have C : Cy p s m _ meth c cX12_who 3 wsX12_who RX12 D cA ad (some .int) := ⟨B.exec, B.bytes, hml, findClass_of_methodNamed B.named, atoms_spec (ws := wsX12_who) B.pre, hK, B.notSynchronized, B.returns, hI, hN⟩
  have hl := lv_entry ([.ref (ad 387), .int a1, .int a2]) (n := 3) (Nat.le_of_ble_eq_true rfl)
  rw [lg_entry_eq]
  generalize (lg_sl ([.ref (ad 387), .int a1, .int a2]) ++ List.replicate (3 - (lg_sl ([.ref (ad 387), .int a1, .int a2])).length) Slot.unset).toArray = ls at hl ⊢
  have hl : lv_has ls 3 [(0, .ref (ad 387)), (1, .int a1), (2, .int a2)] := hl
  have hS : va_S (AA ad) s.heap s.heap [] := va_S.rf
  have hF : Fr L_X12_who σ0 σ0 := Fr.rf
  have hFL : FrL LL_X12_who τ0 τ0 := FrL.rf
  obtain ⟨hx, hb, _, hown, hts, _, hk, hr, _, _⟩ := C
  refine lv_aload_n hx hb dX12_who_0 rfl (lv_at hl 0 rfl) ?_
  refine r_iconst hx hb dX12_who_1 (by decide) (fun z1 ez1 => ?_)
  refine fp_12_0 (k := 387) hx hb hts in_X12_who_12 hown hK hP (by decide) (by decide) (hts _ lk_X12_who_1) hI hR hS (by omega) dX12_who_2 (fun σ2 H2 locs2 u2 v2 hR hP hS => ?_)
  have hF := hF.puts u2 0 rfl (by decide) (by decide) (by decide) (by decide)
  refine lv_aload_n hx hb dX12_who_5 rfl (lv_at hl 0 rfl) ?_
  refine lv_iload_n hx hb dX12_who_6 rfl (lv_at hl 1 rfl) ?_
  refine lv_iload_n hx hb dX12_who_7 rfl (lv_at hl 2 rfl) ?_
  refine r_cVi (k := 387) (As := [.int a1, .int a2]) (rest := []) ⟨hx, hb, hml, hown, hts⟩ hK hP hN hS (c_X12_isCall l D cA ad hI σ2 τ0 hR a1 a2) (cwV 2 hts gX12_who_X12_isCall rfl rfl rfl (by decide +kernel) ⟨by decide, by decide⟩) (rv_M hK hP (by decide) (by decide)) rfl hl.1 rfl (Nat.le_of_ble_eq_true rfl) dX12_who_8 (Nat.zero_le _) (Nat.zero_le _) (fun r3 u3 H3 locs3 hp3 hP hS => ?_)
  obtain ⟨σ3, τ3⟩ := u3
  obtain ⟨hR, f3, fL3, hq3, hp3_0, hp3_1⟩ : P_X12_isCall σ2 τ0 a1 a2 r3 σ3 τ3 := hp3
  have hP : va_P D vwCl (gw cA ad σ3 τ3) H3 := hP
  obtain rfl := FrL.nil fL3
  obtain rfl := Fr.nil f3
  refine r_if_ne (tgt := 16) hx hb dX12_who_11 (by decide) (fun c4 => ?_) (fun c4 => ?_)
  · replace hp3_0 := hp3_0.resolve_left (by omega)
    refine lv_aload_n hx hb dX12_who_16 rfl (lv_at hl 0 rfl) ?_
    refine r_cVv (k := 387) (As := []) (rest := []) ⟨hx, hb, hml, hown, hts⟩ hK hP hN hS (c_X12_asNow l D cA ad hI σ2 τ0 hR) (cwV 0 hts gX12_who_X12_asNow rfl rfl rfl (by decide +kernel) ⟨by decide, by decide⟩) (rv_M hK hP (by decide) (by decide)) rfl hl.1 rfl (Nat.le_of_ble_eq_true rfl) dX12_who_17 (Nat.zero_le _) (Nat.zero_le _) (fun u5 H5 locs5 hp5 hP hS => ?_)
    obtain ⟨σ5, τ5⟩ := u5
    obtain ⟨hR, f5, fL5⟩ : P_X12_asNow σ2 τ0 σ5 τ5 := hp5
    have hP : va_P D vwCl (gw cA ad σ5 τ5) H5 := hP
    obtain rfl := FrL.nil fL5
    have hF := hF.step f5 (by decide)
    refine lv_aload_n hx hb dX12_who_20 rfl (lv_at hl 0 rfl) ?_
    refine lv_iload_n hx hb dX12_who_21 rfl (lv_at hl 1 rfl) ?_
    refine lv_iload_n hx hb dX12_who_22 rfl (lv_at hl 2 rfl) ?_
    refine r_cVi (k := 387) (As := [.int a1, .int a2]) (rest := []) ⟨hx, hb, hml, hown, hts⟩ hK hP hN hS (c_X12_whoHears l D cA ad hI σ5 τ0 hR a1 a2 (by omega) (by omega)) (cwV 2 hts gX12_who_X12_whoHears rfl rfl rfl (by decide +kernel) ⟨by decide, by decide⟩) (rv_M hK hP (by decide) (by decide)) rfl hl.1 rfl (Nat.le_of_ble_eq_true rfl) dX12_who_23 (Nat.zero_le _) (Nat.zero_le _) (fun r6 u6 H6 locs6 hp6 hP hS => ?_)
    obtain ⟨σ6, τ6⟩ := u6
    obtain ⟨hR, f6, fL6⟩ : P_X12_whoHears σ5 τ0 a1 a2 r6 σ6 τ6 := hp6
    have hP : va_P D vwCl (gw cA ad σ6 τ6) H6 := hP
    obtain rfl := FrL.nil fL6
    obtain rfl := Fr.nil f6
    exact r_iret hx hb hr hK hP hS hk dX12_who_26 (show P_X12_who σ0 τ0 a1 a2 r6 σ5 τ0 from ⟨hR, hF, hFL⟩)
  · clear hp3_0
    refine r_iconst hx hb dX12_who_14 (by decide) (fun z7 ez7 => ?_)
    exact r_iret hx hb hr hK hP hS hk dX12_who_15 (show P_X12_who σ0 τ0 a1 a2 z7 σ2 τ0 from ⟨hR, hF, hFL⟩)
theorem in_X12_menIn_12 : ∀ w ∈ u_ws RX12 TX12 47, w ∈ wsX12_menIn := by decide +kernel
theorem lk_X12_menIn_33 : Cond.fieldLink RX12 33 "CuckooSharesModel" "s" "[I" ∈ wsX12_menIn := by decide +kernel
theorem lk_X12_menIn_50 : Cond.fieldLink RX12 50 "CuckooSharesModel" "px" "[I" ∈ wsX12_menIn := by decide +kernel
abbrev L_X12_menIn : List Rc := []
abbrev LL_X12_menIn : List Rc := []
def P_X12_menIn (σ0 : Nat → Nat → Int32) (τ0 : Nat → Nat → Int64) (a1 : Int32) (r : Int32) (σ : Nat → Nat → Int32) (τ : Nat → Nat → Int64) : Prop := Rg σ ∧ Fr L_X12_menIn σ0 σ ∧ FrL LL_X12_menIn τ0 τ
def J_X12_menIn_4 (p : Program) (l : Launch) (e : Env) (s : State) (m : MethodId) (args : Array Value) (below : List Frame) (meth : Method) (c : Code) (D : va_G) (cA : Nat → ClassId) (ad : Nat → Nat) (σ0 : Nat → Nat → Int32) (τ0 : Nat → Nat → Int64) (a1 : Int32) (n : Nat) : Prop := ∀ (σ : Nat → Nat → Int32) (τ : Nat → Nat → Int64) (H : Heap) (locs : List Loc) (x2 : Int32) (x3 : Int32) (ls : Array Slot), Rg σ → Fr L_X12_menIn σ0 σ → FrL LL_X12_menIn τ0 τ → va_P D vwCl (gw cA ad σ τ) H → va_S (AA ad) s.heap H locs → (0 ≤ x3.toInt ∧ x3.toInt ≤ 8) → lv_has ls 4 [(0, .ref (ad 387)), (1, .int a1), (2, .int x2), (3, .int x3)] → 2 * (8 - x3.toInt) + 1 < (n : Int) → W p l e ({ frames := 1, cells := 0, slots := 0, locals := 21 } : Room) s m args below meth c H locs 0 0 (MQ below (va_Qi (fun (r : Int32) (u : SS) => P_X12_menIn σ0 τ0 a1 r u.1 u.2) (WB D cA ad) (AA ad)) args s 0 0 (AA ad)) (F0 m 4 ls [])
set_option maxHeartbeats 4000000 in
theorem B_X12_menIn_4 (p : Program) (l : Launch) (e : Env) (s : State) (m : MethodId) (args : Array Value) (below : List Frame) (meth : Method) (c : Code) (D : va_G) (cA : Nat → ClassId) (ad : Nat → Nat) (σ0 : Nat → Nat → Int32) (τ0 : Nat → Nat → Int64) (a1 : Int32) (n : Nat) (C : Cy p s m args meth c cX12_menIn 4 wsX12_menIn RX12 D cA ad (some .int)) (ha1 : 0 ≤ a1.toInt ∧ a1.toInt ≤ 1) (K4 : J_X12_menIn_4 p l e s m args below meth c D cA ad σ0 τ0 a1 n) : J_X12_menIn_4 p l e s m args below meth c D cA ad σ0 τ0 a1 (n + 1) := by
  obtain ⟨hx, hb, hml, hown, hts, hK, hk, hr, hI, hN⟩ := C
  intro σ τ H locs x2 x3 ls hR hF hFL hP hS hc0 hl hm
  obtain rfl := Fr.nil hF
  obtain rfl := FrL.nil hFL
  refine lv_iload_n hx hb dX12_menIn_4 rfl (lv_at hl 3 rfl) ?_
  refine lv_aload_n hx hb dX12_menIn_5 rfl (lv_at hl 0 rfl) ?_
  refine fg_12_6 (k := 387) hx hb hts in_X12_menIn_12 hown hK hP (by decide) (by decide) (hts _ lk_X12_menIn_33) dX12_menIn_6 ?_
  refine r_iconst hx hb dX12_menIn_9 (by decide) (fun z1 ez1 => ?_)
  refine ad_ms (k := 389) (j := 1) hx hb hK hP (by decide) (by decide) (by omega) (by omega) dX12_menIn_10 ?_
  have hr2 := ra_ms_0 hR (k := 389) (j := 1) (by decide) (by decide) (by decide) (by decide)
  refine r_icmp_ge (tgt := 44) hx hb dX12_menIn_11 (by decide) (fun c3 => ?_) (fun c3 => ?_)
  · refine lv_iload_n hx hb dX12_menIn_44 rfl (lv_at hl 2 rfl) ?_
    exact r_iret hx hb hr hK hP hS hk dX12_menIn_45 (show P_X12_menIn σ0 τ0 a1 x2 σ0 τ0 from ⟨hR, hF, hFL⟩)
  · refine lv_iload_n hx hb dX12_menIn_14 rfl (lv_at hl 2 rfl) ?_
    refine lv_aload_n hx hb dX12_menIn_15 rfl (lv_at hl 0 rfl) ?_
    refine lv_aload_n hx hb dX12_menIn_16 rfl (lv_at hl 0 rfl) ?_
    refine fg_12_22 (k := 387) hx hb hts in_X12_menIn_12 hown hK hP (by decide) (by decide) (hts _ lk_X12_menIn_50) dX12_menIn_17 ?_
    refine lv_iload_n hx hb dX12_menIn_20 rfl (lv_at hl 3 rfl) ?_
    obtain ⟨j4, ej4⟩ : ∃ j : Nat, x3.toInt = (j : Int) := ⟨_, ti_nat (by omega)⟩
    refine ad_mp8 (k := 394) (j := j4) hx hb hK hP (by decide) (by decide) ej4 (by omega) dX12_menIn_21 ?_
    refine r_cVi (k := 387) (As := [.int (σ0 394 j4)]) (rest := [.int x2]) ⟨hx, hb, hml, hown, hts⟩ hK hP hN hS (c_X12_valleyOf l D cA ad hI σ0 τ0 hR (σ0 394 j4)) (cwV 1 hts gX12_menIn_X12_valleyOf rfl rfl rfl (by decide +kernel) ⟨by decide, by decide⟩) (rv_M hK hP (by decide) (by decide)) rfl hl.1 rfl (Nat.le_of_ble_eq_true rfl) dX12_menIn_22 (Nat.zero_le _) (Nat.zero_le _) (fun r5 u5 H5 locs5 hp5 hP hS => ?_)
    obtain ⟨σ5, τ5⟩ := u5
    obtain ⟨hR, f5, fL5, hq5, hp5_0⟩ : P_X12_valleyOf σ0 τ0 (σ0 394 j4) r5 σ5 τ5 := hp5
    have hP : va_P D vwCl (gw cA ad σ5 τ5) H5 := hP
    obtain rfl := FrL.nil fL5
    obtain rfl := Fr.nil f5
    refine lv_iload_n hx hb dX12_menIn_25 rfl (lv_at hl 1 rfl) ?_
    refine r_icmp_ne (tgt := 35) hx hb dX12_menIn_26 (by decide) (fun c6 => ?_) (fun c6 => ?_)
    · refine r_iconst hx hb dX12_menIn_35 (by decide) (fun z7 ez7 => ?_)
      refine r_iorU hx hb dX12_menIn_36 (fun z8 => ?_)
      refine lv_istore_n (lv' := [(2, .int z8), (0, .ref (ad 387)), (1, .int a1), (3, .int x3)]) hx hb dX12_menIn_37 rfl hl (by decide) rfl (fun ls hl => ?_)
      refine r_iinc (k := 3) (lv1 := fun z9 => [(3, .int z9), (2, .int z8), (0, .ref (ad 387)), (1, .int a1)]) hx hb dX12_menIn_38 hl rfl (by decide) (fun _ => rfl) (by decide) (by omega) (fun z9 ls ez9 hl => ?_)
      refine lv_goto (tgt := 4) hx hb dX12_menIn_41 (by decide) ?_
      exact K4 σ0 τ0 H5 locs5 z8 z9 ls hR hF hFL hP hS (by omega) (lv_sub hl [2, 3, 1, 0] rfl) (by omega)
    · refine r_iconst hx hb dX12_menIn_29 (by decide) (fun z10 ez10 => ?_)
      refine lv_iload_n hx hb dX12_menIn_30 rfl (lv_at hl 3 rfl) ?_
      refine r_ishlU hx hb dX12_menIn_31 (fun z11 => ?_)
      refine lv_goto (tgt := 36) hx hb dX12_menIn_32 (by decide) ?_
      refine r_iorU hx hb dX12_menIn_36 (fun z12 => ?_)
      refine lv_istore_n (lv' := [(2, .int z12), (0, .ref (ad 387)), (1, .int a1), (3, .int x3)]) hx hb dX12_menIn_37 rfl hl (by decide) rfl (fun ls hl => ?_)
      refine r_iinc (k := 3) (lv1 := fun z13 => [(3, .int z13), (2, .int z12), (0, .ref (ad 387)), (1, .int a1)]) hx hb dX12_menIn_38 hl rfl (by decide) (fun _ => rfl) (by decide) (by omega) (fun z13 ls ez13 hl => ?_)
      refine lv_goto (tgt := 4) hx hb dX12_menIn_41 (by decide) ?_
      exact K4 σ0 τ0 H5 locs5 z12 z13 ls hR hF hFL hP hS (by omega) (lv_sub hl [2, 3, 1, 0] rfl) (by omega)
theorem A_X12_menIn (p : Program) (l : Launch) (e : Env) (s : State) (m : MethodId) (args : Array Value) (below : List Frame) (meth : Method) (c : Code) (D : va_G) (cA : Nat → ClassId) (ad : Nat → Nat) (σ0 : Nat → Nat → Int32) (τ0 : Nat → Nat → Int64) (a1 : Int32) (C : Cy p s m args meth c cX12_menIn 4 wsX12_menIn RX12 D cA ad (some .int)) (ha1 : 0 ≤ a1.toInt ∧ a1.toInt ≤ 1) : ∀ n : Nat, J_X12_menIn_4 p l e s m args below meth c D cA ad σ0 τ0 a1 n := by
  intro n
  induction n with
  | zero =>
    exact (by intro σ τ H locs x2 x3 ls hR hF hFL hP hS hc0 hl hm; exfalso; omega)
  | succ n ih =>
    exact B_X12_menIn_4 p l e s m args below meth c D cA ad σ0 τ0 a1 n C ha1 ih
set_option maxHeartbeats 4000000 in
theorem c_X12_menIn (l : Launch) (D : va_G) (cA : Nat → ClassId) (ad : Nat → Nat) (hI : Inj ad) (σ0 : Nat → Nat → Int32) (τ0 : Nat → Nat → Int64) (hR : Rg σ0) (a1 : Int32) (ha1 : 0 ≤ a1.toInt ∧ a1.toInt ≤ 1) : Met l yX12_menIn wsX12_menIn ({ frames := 1, cells := 0, slots := 0, locals := 21 } : Room) (WQc D cA ad [.ref (ad 387), .int a1] σ0 τ0) (va_Qi (fun (r : Int32) (u : SS) => P_X12_menIn σ0 τ0 a1 r u.1 u.2) (WB D cA ad) (AA ad)) 0 0 (AA ad) := by
  refine Met.ofW (cc := cX12_menIn) (maxL := 4) (ret := (some .int)) (by decide) rfl ?_
  intro p e s m args below meth c s₁ B hml hv
  obtain ⟨rfl, hP, hK, hN⟩ := hv
  have C : Cy p s m _ meth c cX12_menIn 4 wsX12_menIn RX12 D cA ad (some .int) := ⟨B.exec, B.bytes, hml, findClass_of_methodNamed B.named, atoms_spec (ws := wsX12_menIn) B.pre, hK, B.notSynchronized, B.returns, hI, hN⟩
  have hl := lv_entry ([.ref (ad 387), .int a1]) (n := 4) (Nat.le_of_ble_eq_true rfl)
  rw [lg_entry_eq]
  generalize (lg_sl ([.ref (ad 387), .int a1]) ++ List.replicate (4 - (lg_sl ([.ref (ad 387), .int a1])).length) Slot.unset).toArray = ls at hl ⊢
  have hl : lv_has ls 4 [(0, .ref (ad 387)), (1, .int a1)] := hl
  have hS : va_S (AA ad) s.heap s.heap [] := va_S.rf
  have hF : Fr L_X12_menIn σ0 σ0 := Fr.rf
  have hFL : FrL LL_X12_menIn τ0 τ0 := FrL.rf
  have hA := A_X12_menIn p l e s m _ below meth c D cA ad σ0 τ0 a1 C ha1 42
  have K4 := hA
  clear hA
  obtain ⟨hx, hb, _, hown, hts, _, hk, hr, _, _⟩ := C
  refine r_iconst hx hb dX12_menIn_0 (by decide) (fun z1 ez1 => ?_)
  refine lv_istore_n (lv' := [(2, .int z1), (0, .ref (ad 387)), (1, .int a1)]) hx hb dX12_menIn_1 rfl hl (by decide) rfl (fun ls hl => ?_)
  refine r_iconst hx hb dX12_menIn_2 (by decide) (fun z2 ez2 => ?_)
  refine lv_istore_n (lv' := [(3, .int z2), (2, .int z1), (0, .ref (ad 387)), (1, .int a1)]) hx hb dX12_menIn_3 rfl hl (by decide) rfl (fun ls hl => ?_)
  exact K4 σ0 τ0 s.heap [] z1 z2 ls hR hF hFL hP hS (by omega) (lv_sub hl [2, 3, 1, 0] rfl) (by omega)
theorem in_X12_firstIn_12 : ∀ w ∈ u_ws RX12 TX12 47, w ∈ wsX12_firstIn := by decide +kernel
theorem lk_X12_firstIn_33 : Cond.fieldLink RX12 33 "CuckooSharesModel" "s" "[I" ∈ wsX12_firstIn := by decide +kernel
abbrev L_X12_firstIn : List Rc := []
abbrev LL_X12_firstIn : List Rc := []
def P_X12_firstIn (σ0 : Nat → Nat → Int32) (τ0 : Nat → Nat → Int64) (a1 : Int32) (a2 : Int32) (r : Int32) (σ : Nat → Nat → Int32) (τ : Nat → Nat → Int64) : Prop := Rg σ ∧ Fr L_X12_firstIn σ0 σ ∧ FrL LL_X12_firstIn τ0 τ ∧ (-1 ≤ r.toInt ∧ r.toInt ≤ 9)
def J_X12_firstIn_2 (p : Program) (l : Launch) (e : Env) (s : State) (m : MethodId) (args : Array Value) (below : List Frame) (meth : Method) (c : Code) (D : va_G) (cA : Nat → ClassId) (ad : Nat → Nat) (σ0 : Nat → Nat → Int32) (τ0 : Nat → Nat → Int64) (a1 : Int32) (a2 : Int32) (n : Nat) : Prop := ∀ (σ : Nat → Nat → Int32) (τ : Nat → Nat → Int64) (H : Heap) (locs : List Loc) (x3 : Int32) (ls : Array Slot), Rg σ → Fr L_X12_firstIn σ0 σ → FrL LL_X12_firstIn τ0 τ → va_P D vwCl (gw cA ad σ τ) H → va_S (AA ad) s.heap H locs → (0 ≤ x3.toInt ∧ x3.toInt ≤ 10) → lv_has ls 4 [(0, .ref (ad 387)), (1, .int a1), (2, .int a2), (3, .int x3)] → 2 * (10 - x3.toInt) + 1 < (n : Int) → W p l e ({ frames := 4, cells := 0, slots := 0, locals := 93 } : Room) s m args below meth c H locs 0 0 (MQ below (va_Qi (fun (r : Int32) (u : SS) => P_X12_firstIn σ0 τ0 a1 a2 r u.1 u.2) (WB D cA ad) (AA ad)) args s 0 0 (AA ad)) (F0 m 2 ls [])
set_option maxHeartbeats 4000000 in
theorem B_X12_firstIn_2 (p : Program) (l : Launch) (e : Env) (s : State) (m : MethodId) (args : Array Value) (below : List Frame) (meth : Method) (c : Code) (D : va_G) (cA : Nat → ClassId) (ad : Nat → Nat) (σ0 : Nat → Nat → Int32) (τ0 : Nat → Nat → Int64) (a1 : Int32) (a2 : Int32) (n : Nat) (C : Cy p s m args meth c cX12_firstIn 4 wsX12_firstIn RX12 D cA ad (some .int)) (ha1 : 0 ≤ a1.toInt ∧ a1.toInt ≤ 3) (ha2 : 0 ≤ a2.toInt ∧ a2.toInt ≤ 1) (K2 : J_X12_firstIn_2 p l e s m args below meth c D cA ad σ0 τ0 a1 a2 n) : J_X12_firstIn_2 p l e s m args below meth c D cA ad σ0 τ0 a1 a2 (n + 1) := by
  obtain ⟨hx, hb, hml, hown, hts, hK, hk, hr, hI, hN⟩ := C
  intro σ τ H locs x3 ls hR hF hFL hP hS hc0 hl hm
  obtain rfl := Fr.nil hF
  obtain rfl := FrL.nil hFL
  refine lv_iload_n hx hb dX12_firstIn_2 rfl (lv_at hl 3 rfl) ?_
  refine lv_aload_n hx hb dX12_firstIn_3 rfl (lv_at hl 0 rfl) ?_
  refine fg_12_6 (k := 387) hx hb hts in_X12_firstIn_12 hown hK hP (by decide) (by decide) (hts _ lk_X12_firstIn_33) dX12_firstIn_4 ?_
  refine r_bipush hx hb dX12_firstIn_7 (by decide) (fun z1 ez1 => ?_)
  refine lv_iload_n hx hb dX12_firstIn_9 rfl (lv_at hl 1 rfl) ?_
  refine r_iadd hx hb dX12_firstIn_10 (by omega) (fun z2 ez2 => ?_)
  obtain ⟨j3, ej3⟩ : ∃ j : Nat, z2.toInt = (j : Int) := ⟨_, ti_nat (by omega)⟩
  refine ad_ms (k := 389) (j := j3) hx hb hK hP (by decide) (by decide) ej3 (by omega) dX12_firstIn_11 ?_
  have hr4 := ra_ms_4 hR (k := 389) (j := j3) (by decide) (by decide) (by omega) (by omega)
  refine r_icmp_ge (tgt := 38) hx hb dX12_firstIn_12 (by decide) (fun c5 => ?_) (fun c5 => ?_)
  · refine r_iconst hx hb dX12_firstIn_38 (by decide) (fun z6 ez6 => ?_)
    exact r_iret hx hb hr hK hP hS hk dX12_firstIn_39 (show P_X12_firstIn σ0 τ0 a1 a2 z6 σ0 τ0 from ⟨hR, hF, hFL, by omega⟩)
  · refine lv_aload_n hx hb dX12_firstIn_15 rfl (lv_at hl 0 rfl) ?_
    refine lv_iload_n hx hb dX12_firstIn_16 rfl (lv_at hl 1 rfl) ?_
    refine lv_iload_n hx hb dX12_firstIn_17 rfl (lv_at hl 3 rfl) ?_
    refine r_cVi (k := 387) (As := [.int a1, .int x3]) (rest := []) ⟨hx, hb, hml, hown, hts⟩ hK hP hN hS (c_X12_whoHears l D cA ad hI σ0 τ0 hR a1 x3 (by omega) (by omega)) (cwV 2 hts gX12_firstIn_X12_whoHears rfl rfl rfl (by decide +kernel) ⟨by decide, by decide⟩) (rv_M hK hP (by decide) (by decide)) rfl hl.1 rfl (Nat.le_of_ble_eq_true rfl) dX12_firstIn_18 (Nat.zero_le _) (Nat.zero_le _) (fun r7 u7 H7 locs7 hp7 hP hS => ?_)
    obtain ⟨σ7, τ7⟩ := u7
    obtain ⟨hR, f7, fL7⟩ : P_X12_whoHears σ0 τ0 a1 x3 r7 σ7 τ7 := hp7
    have hP : va_P D vwCl (gw cA ad σ7 τ7) H7 := hP
    obtain rfl := FrL.nil fL7
    obtain rfl := Fr.nil f7
    refine lv_aload_n hx hb dX12_firstIn_21 rfl (lv_at hl 0 rfl) ?_
    refine lv_iload_n hx hb dX12_firstIn_22 rfl (lv_at hl 2 rfl) ?_
    refine r_cVi (k := 387) (As := [.int a2]) (rest := [.int r7]) ⟨hx, hb, hml, hown, hts⟩ hK hP hN hS (c_X12_menIn l D cA ad hI σ0 τ0 hR a2 (by omega)) (cwV 1 hts gX12_firstIn_X12_menIn rfl rfl rfl (by decide +kernel) ⟨by decide, by decide⟩) (rv_M hK hP (by decide) (by decide)) rfl hl.1 rfl (Nat.le_of_ble_eq_true rfl) dX12_firstIn_23 (Nat.zero_le _) (Nat.zero_le _) (fun r8 u8 H8 locs8 hp8 hP hS => ?_)
    obtain ⟨σ8, τ8⟩ := u8
    obtain ⟨hR, f8, fL8⟩ : P_X12_menIn σ0 τ0 a2 r8 σ8 τ8 := hp8
    have hP : va_P D vwCl (gw cA ad σ8 τ8) H8 := hP
    obtain rfl := FrL.nil fL8
    obtain rfl := Fr.nil f8
    refine r_iandU hx hb dX12_firstIn_26 (fun z9 => ?_)
    refine r_if_eq (tgt := 32) hx hb dX12_firstIn_27 (by decide) (fun c10 => ?_) (fun c10 => ?_)
    · refine r_iinc (k := 3) (lv1 := fun z11 => [(3, .int z11), (0, .ref (ad 387)), (1, .int a1), (2, .int a2)]) hx hb dX12_firstIn_32 hl rfl (by decide) (fun _ => rfl) (by decide) (by omega) (fun z11 ls ez11 hl => ?_)
      refine lv_goto (tgt := 2) hx hb dX12_firstIn_35 (by decide) ?_
      exact K2 σ0 τ0 H8 locs8 z11 ls hR hF hFL hP hS (by omega) (lv_sub hl [1, 2, 3, 0] rfl) (by omega)
    · refine lv_iload_n hx hb dX12_firstIn_30 rfl (lv_at hl 3 rfl) ?_
      exact r_iret hx hb hr hK hP hS hk dX12_firstIn_31 (show P_X12_firstIn σ0 τ0 a1 a2 x3 σ0 τ0 from ⟨hR, hF, hFL, by omega⟩)
theorem A_X12_firstIn (p : Program) (l : Launch) (e : Env) (s : State) (m : MethodId) (args : Array Value) (below : List Frame) (meth : Method) (c : Code) (D : va_G) (cA : Nat → ClassId) (ad : Nat → Nat) (σ0 : Nat → Nat → Int32) (τ0 : Nat → Nat → Int64) (a1 : Int32) (a2 : Int32) (C : Cy p s m args meth c cX12_firstIn 4 wsX12_firstIn RX12 D cA ad (some .int)) (ha1 : 0 ≤ a1.toInt ∧ a1.toInt ≤ 3) (ha2 : 0 ≤ a2.toInt ∧ a2.toInt ≤ 1) : ∀ n : Nat, J_X12_firstIn_2 p l e s m args below meth c D cA ad σ0 τ0 a1 a2 n := by
  intro n
  induction n with
  | zero =>
    exact (by intro σ τ H locs x3 ls hR hF hFL hP hS hc0 hl hm; exfalso; omega)
  | succ n ih =>
    exact B_X12_firstIn_2 p l e s m args below meth c D cA ad σ0 τ0 a1 a2 n C ha1 ha2 ih
set_option maxHeartbeats 4000000 in
theorem c_X12_firstIn (l : Launch) (D : va_G) (cA : Nat → ClassId) (ad : Nat → Nat) (hI : Inj ad) (σ0 : Nat → Nat → Int32) (τ0 : Nat → Nat → Int64) (hR : Rg σ0) (a1 : Int32) (a2 : Int32) (ha1 : 0 ≤ a1.toInt ∧ a1.toInt ≤ 3) (ha2 : 0 ≤ a2.toInt ∧ a2.toInt ≤ 1) : Met l yX12_firstIn wsX12_firstIn ({ frames := 4, cells := 0, slots := 0, locals := 93 } : Room) (WQc D cA ad [.ref (ad 387), .int a1, .int a2] σ0 τ0) (va_Qi (fun (r : Int32) (u : SS) => P_X12_firstIn σ0 τ0 a1 a2 r u.1 u.2) (WB D cA ad) (AA ad)) 0 0 (AA ad) := by
  refine Met.ofW (cc := cX12_firstIn) (maxL := 4) (ret := (some .int)) (by decide) rfl ?_
  intro p e s m args below meth c s₁ B hml hv
  obtain ⟨rfl, hP, hK, hN⟩ := hv
  have C : Cy p s m _ meth c cX12_firstIn 4 wsX12_firstIn RX12 D cA ad (some .int) := ⟨B.exec, B.bytes, hml, findClass_of_methodNamed B.named, atoms_spec (ws := wsX12_firstIn) B.pre, hK, B.notSynchronized, B.returns, hI, hN⟩
  have hl := lv_entry ([.ref (ad 387), .int a1, .int a2]) (n := 4) (Nat.le_of_ble_eq_true rfl)
  rw [lg_entry_eq]
  generalize (lg_sl ([.ref (ad 387), .int a1, .int a2]) ++ List.replicate (4 - (lg_sl ([.ref (ad 387), .int a1, .int a2])).length) Slot.unset).toArray = ls at hl ⊢
  have hl : lv_has ls 4 [(0, .ref (ad 387)), (1, .int a1), (2, .int a2)] := hl
  have hS : va_S (AA ad) s.heap s.heap [] := va_S.rf
  have hF : Fr L_X12_firstIn σ0 σ0 := Fr.rf
  have hFL : FrL LL_X12_firstIn τ0 τ0 := FrL.rf
  have hA := A_X12_firstIn p l e s m _ below meth c D cA ad σ0 τ0 a1 a2 C ha1 ha2 50
  have K2 := hA
  clear hA
  obtain ⟨hx, hb, _, hown, hts, _, hk, hr, _, _⟩ := C
  refine r_iconst hx hb dX12_firstIn_0 (by decide) (fun z1 ez1 => ?_)
  refine lv_istore_n (lv' := [(3, .int z1), (0, .ref (ad 387)), (1, .int a1), (2, .int a2)]) hx hb dX12_firstIn_1 rfl hl (by decide) rfl (fun ls hl => ?_)
  exact K2 σ0 τ0 s.heap [] z1 ls hR hF hFL hP hS (by omega) (lv_sub hl [1, 2, 3, 0] rfl) (by omega)
theorem in_X12_first_12 : ∀ w ∈ u_ws RX12 TX12 47, w ∈ wsX12_first := by decide +kernel
theorem lk_X12_first_1 : Cond.fieldLink RX12 1 "CuckooSharesModel" "thrown" "I" ∈ wsX12_first := by decide +kernel
abbrev L_X12_first : List Rc := [(387, 387, 0, 0), (394, 394, 0, 7), (395, 395, 0, 7), (396, 396, 0, 7)]
abbrev LL_X12_first : List Rc := []
def P_X12_first (σ0 : Nat → Nat → Int32) (τ0 : Nat → Nat → Int64) (a1 : Int32) (a2 : Int32) (r : Int32) (σ : Nat → Nat → Int32) (τ : Nat → Nat → Int64) : Prop := Rg σ ∧ Fr L_X12_first σ0 σ ∧ FrL LL_X12_first τ0 τ ∧ (-1 ≤ r.toInt ∧ r.toInt ≤ 9)
set_option maxHeartbeats 4000000 in
theorem c_X12_first (l : Launch) (D : va_G) (cA : Nat → ClassId) (ad : Nat → Nat) (hI : Inj ad) (σ0 : Nat → Nat → Int32) (τ0 : Nat → Nat → Int64) (hR : Rg σ0) (a1 : Int32) (a2 : Int32)  : Met l yX12_first wsX12_first ({ frames := 5, cells := 0, slots := 0, locals := 116 } : Room) (WQc D cA ad [.ref (ad 387), .int a1, .int a2] σ0 τ0) (va_Qi (fun (r : Int32) (u : SS) => P_X12_first σ0 τ0 a1 a2 r u.1 u.2) (WB D cA ad) (AA ad)) 0 0 (AA ad) := by
  refine Met.ofW (cc := cX12_first) (maxL := 3) (ret := (some .int)) (by decide) rfl ?_
  intro p e s m args below meth c s₁ B hml hv
  obtain ⟨rfl, hP, hK, hN⟩ := hv
  have C : Cy p s m _ meth c cX12_first 3 wsX12_first RX12 D cA ad (some .int) := ⟨B.exec, B.bytes, hml, findClass_of_methodNamed B.named, atoms_spec (ws := wsX12_first) B.pre, hK, B.notSynchronized, B.returns, hI, hN⟩
  have hl := lv_entry ([.ref (ad 387), .int a1, .int a2]) (n := 3) (Nat.le_of_ble_eq_true rfl)
  rw [lg_entry_eq]
  generalize (lg_sl ([.ref (ad 387), .int a1, .int a2]) ++ List.replicate (3 - (lg_sl ([.ref (ad 387), .int a1, .int a2])).length) Slot.unset).toArray = ls at hl ⊢
  have hl : lv_has ls 3 [(0, .ref (ad 387)), (1, .int a1), (2, .int a2)] := hl
  have hS : va_S (AA ad) s.heap s.heap [] := va_S.rf
  have hF : Fr L_X12_first σ0 σ0 := Fr.rf
  have hFL : FrL LL_X12_first τ0 τ0 := FrL.rf
  obtain ⟨hx, hb, _, hown, hts, _, hk, hr, _, _⟩ := C
  refine lv_aload_n hx hb dX12_first_0 rfl (lv_at hl 0 rfl) ?_
  refine r_iconst hx hb dX12_first_1 (by decide) (fun z1 ez1 => ?_)
  refine fp_12_0 (k := 387) hx hb hts in_X12_first_12 hown hK hP (by decide) (by decide) (hts _ lk_X12_first_1) hI hR hS (by omega) dX12_first_2 (fun σ2 H2 locs2 u2 v2 hR hP hS => ?_)
  have hF := hF.puts u2 0 rfl (by decide) (by decide) (by decide) (by decide)
  refine lv_aload_n hx hb dX12_first_5 rfl (lv_at hl 0 rfl) ?_
  refine lv_iload_n hx hb dX12_first_6 rfl (lv_at hl 1 rfl) ?_
  refine r_cVi (k := 387) (As := [.int a1]) (rest := []) ⟨hx, hb, hml, hown, hts⟩ hK hP hN hS (c_X12_isFlight l D cA ad hI σ2 τ0 hR a1) (cwV 1 hts gX12_first_X12_isFlight rfl rfl rfl (by decide +kernel) ⟨by decide, by decide⟩) (rv_M hK hP (by decide) (by decide)) rfl hl.1 rfl (Nat.le_of_ble_eq_true rfl) dX12_first_7 (Nat.zero_le _) (Nat.zero_le _) (fun r3 u3 H3 locs3 hp3 hP hS => ?_)
  obtain ⟨σ3, τ3⟩ := u3
  obtain ⟨hR, f3, fL3, hq3, hp3_0, hp3_1⟩ : P_X12_isFlight σ2 τ0 a1 r3 σ3 τ3 := hp3
  have hP : va_P D vwCl (gw cA ad σ3 τ3) H3 := hP
  obtain rfl := FrL.nil fL3
  obtain rfl := Fr.nil f3
  refine r_if_eq (tgt := 22) hx hb dX12_first_10 (by decide) (fun c4 => ?_) (fun c4 => ?_)
  · clear hp3_0
    refine r_iconst hx hb dX12_first_22 (by decide) (fun z5 ez5 => ?_)
    exact r_iret hx hb hr hK hP hS hk dX12_first_23 (show P_X12_first σ0 τ0 a1 a2 z5 σ2 τ0 from ⟨hR, hF, hFL, by omega⟩)
  · replace hp3_0 := hp3_0.resolve_left (by omega)
    refine lv_iload_n hx hb dX12_first_13 rfl (lv_at hl 2 rfl) ?_
    refine r_iconst hx hb dX12_first_14 (by decide) (fun z6 ez6 => ?_)
    refine r_iconst hx hb dX12_first_15 (by decide) (fun z7 ez7 => ?_)
    refine r_cSi (As := [.int a2, .int z6, .int z7]) (rest := []) ⟨hx, hb, hml, hown, hts⟩ hK hP hN hS (c_X12_isIn l D cA ad hI σ2 τ0 hR a2 z6 z7) (va_cwS 3 hts gX12_first_X12_isIn rfl rfl rfl (by decide +kernel) ⟨by decide, by decide⟩) rfl hl.1 rfl (Nat.le_of_ble_eq_true rfl) dX12_first_16 (Nat.zero_le _) (Nat.zero_le _) (fun r8 u8 H8 locs8 hp8 hP hS => ?_)
    obtain ⟨σ8, τ8⟩ := u8
    obtain ⟨hR, f8, fL8, hq8, hp8_0, hp8_1⟩ : P_X12_isIn σ2 τ0 a2 z6 z7 r8 σ8 τ8 := hp8
    have hP : va_P D vwCl (gw cA ad σ8 τ8) H8 := hP
    obtain rfl := FrL.nil fL8
    obtain rfl := Fr.nil f8
    refine r_if_ne (tgt := 24) hx hb dX12_first_19 (by decide) (fun c9 => ?_) (fun c9 => ?_)
    · replace hp8_0 := hp8_0.resolve_left (by omega)
      refine lv_aload_n hx hb dX12_first_24 rfl (lv_at hl 0 rfl) ?_
      refine r_cVv (k := 387) (As := []) (rest := []) ⟨hx, hb, hml, hown, hts⟩ hK hP hN hS (c_X12_asNow l D cA ad hI σ2 τ0 hR) (cwV 0 hts gX12_first_X12_asNow rfl rfl rfl (by decide +kernel) ⟨by decide, by decide⟩) (rv_M hK hP (by decide) (by decide)) rfl hl.1 rfl (Nat.le_of_ble_eq_true rfl) dX12_first_25 (Nat.zero_le _) (Nat.zero_le _) (fun u10 H10 locs10 hp10 hP hS => ?_)
      obtain ⟨σ10, τ10⟩ := u10
      obtain ⟨hR, f10, fL10⟩ : P_X12_asNow σ2 τ0 σ10 τ10 := hp10
      have hP : va_P D vwCl (gw cA ad σ10 τ10) H10 := hP
      obtain rfl := FrL.nil fL10
      have hF := hF.step f10 (by decide)
      refine lv_aload_n hx hb dX12_first_28 rfl (lv_at hl 0 rfl) ?_
      refine lv_iload_n hx hb dX12_first_29 rfl (lv_at hl 1 rfl) ?_
      refine lv_iload_n hx hb dX12_first_30 rfl (lv_at hl 2 rfl) ?_
      refine r_cVi (k := 387) (As := [.int a1, .int a2]) (rest := []) ⟨hx, hb, hml, hown, hts⟩ hK hP hN hS (c_X12_firstIn l D cA ad hI σ10 τ0 hR a1 a2 (by omega) (by omega)) (cwV 2 hts gX12_first_X12_firstIn rfl rfl rfl (by decide +kernel) ⟨by decide, by decide⟩) (rv_M hK hP (by decide) (by decide)) rfl hl.1 rfl (Nat.le_of_ble_eq_true rfl) dX12_first_31 (Nat.zero_le _) (Nat.zero_le _) (fun r11 u11 H11 locs11 hp11 hP hS => ?_)
      obtain ⟨σ11, τ11⟩ := u11
      obtain ⟨hR, f11, fL11, hq11⟩ : P_X12_firstIn σ10 τ0 a1 a2 r11 σ11 τ11 := hp11
      have hP : va_P D vwCl (gw cA ad σ11 τ11) H11 := hP
      obtain rfl := FrL.nil fL11
      obtain rfl := Fr.nil f11
      exact r_iret hx hb hr hK hP hS hk dX12_first_34 (show P_X12_first σ0 τ0 a1 a2 r11 σ10 τ0 from ⟨hR, hF, hFL, by omega⟩)
    · clear hp8_0
      refine r_iconst hx hb dX12_first_22 (by decide) (fun z12 ez12 => ?_)
      exact r_iret hx hb hr hK hP hS hk dX12_first_23 (show P_X12_first σ0 τ0 a1 a2 z12 σ2 τ0 from ⟨hR, hF, hFL, by omega⟩)
theorem in_X12_lied_12 : ∀ w ∈ u_ws RX12 TX12 47, w ∈ wsX12_lied := by decide +kernel
theorem lk_X12_lied_1 : Cond.fieldLink RX12 1 "CuckooSharesModel" "thrown" "I" ∈ wsX12_lied := by decide +kernel
theorem lk_X12_lied_33 : Cond.fieldLink RX12 33 "CuckooSharesModel" "s" "[I" ∈ wsX12_lied := by decide +kernel
abbrev L_X12_lied : List Rc := [(387, 387, 0, 0), (394, 394, 0, 7), (395, 395, 0, 7), (396, 396, 0, 7)]
abbrev LL_X12_lied : List Rc := []
def P_X12_lied (σ0 : Nat → Nat → Int32) (τ0 : Nat → Nat → Int64)  (r : Int32) (σ : Nat → Nat → Int32) (τ : Nat → Nat → Int64) : Prop := Rg σ ∧ Fr L_X12_lied σ0 σ ∧ FrL LL_X12_lied τ0 τ
def J_X12_lied_9 (p : Program) (l : Launch) (e : Env) (s : State) (m : MethodId) (args : Array Value) (below : List Frame) (meth : Method) (c : Code) (D : va_G) (cA : Nat → ClassId) (ad : Nat → Nat) (σ0 : Nat → Nat → Int32) (τ0 : Nat → Nat → Int64)  (n : Nat) : Prop := ∀ (σ : Nat → Nat → Int32) (τ : Nat → Nat → Int64) (H : Heap) (locs : List Loc) (x1 : Int32) (x2 : Int32) (ls : Array Slot), Rg σ → Fr L_X12_lied σ0 σ → FrL LL_X12_lied τ0 τ → va_P D vwCl (gw cA ad σ τ) H → va_S (AA ad) s.heap H locs → (0 ≤ x2.toInt ∧ x2.toInt ≤ 8) → lv_has ls 3 [(0, .ref (ad 387)), (1, .int x1), (2, .int x2)] → 2 * (8 - x2.toInt) + 1 < (n : Int) → W p l e ({ frames := 4, cells := 0, slots := 0, locals := 90 } : Room) s m args below meth c H locs 0 0 (MQ below (va_Qi (fun (r : Int32) (u : SS) => P_X12_lied σ0 τ0 r u.1 u.2) (WB D cA ad) (AA ad)) args s 0 0 (AA ad)) (F0 m 9 ls [])
set_option maxHeartbeats 4000000 in
theorem B_X12_lied_9 (p : Program) (l : Launch) (e : Env) (s : State) (m : MethodId) (args : Array Value) (below : List Frame) (meth : Method) (c : Code) (D : va_G) (cA : Nat → ClassId) (ad : Nat → Nat) (σ0 : Nat → Nat → Int32) (τ0 : Nat → Nat → Int64)  (n : Nat) (C : Cy p s m args meth c cX12_lied 3 wsX12_lied RX12 D cA ad (some .int))  (K9 : J_X12_lied_9 p l e s m args below meth c D cA ad σ0 τ0 n) : J_X12_lied_9 p l e s m args below meth c D cA ad σ0 τ0 (n + 1) := by
  obtain ⟨hx, hb, hml, hown, hts, hK, hk, hr, hI, hN⟩ := C
  intro σ τ H locs x1 x2 ls hR hF hFL hP hS hc0 hl hm
  obtain rfl := FrL.nil hFL
  refine lv_iload_n hx hb dX12_lied_9 rfl (lv_at hl 2 rfl) ?_
  refine lv_aload_n hx hb dX12_lied_10 rfl (lv_at hl 0 rfl) ?_
  refine fg_12_6 (k := 387) hx hb hts in_X12_lied_12 hown hK hP (by decide) (by decide) (hts _ lk_X12_lied_33) dX12_lied_11 ?_
  refine r_iconst hx hb dX12_lied_14 (by decide) (fun z1 ez1 => ?_)
  refine ad_ms (k := 389) (j := 1) hx hb hK hP (by decide) (by decide) (by omega) (by omega) dX12_lied_15 ?_
  have hr2 := ra_ms_0 hR (k := 389) (j := 1) (by decide) (by decide) (by decide) (by decide)
  refine r_icmp_ge (tgt := 56) hx hb dX12_lied_16 (by decide) (fun c3 => ?_) (fun c3 => ?_)
  · refine lv_iload_n hx hb dX12_lied_56 rfl (lv_at hl 1 rfl) ?_
    exact r_iret hx hb hr hK hP hS hk dX12_lied_57 (show P_X12_lied σ0 τ0 x1 σ τ0 from ⟨hR, hF, hFL⟩)
  · refine lv_iload_n hx hb dX12_lied_19 rfl (lv_at hl 1 rfl) ?_
    refine lv_aload_n hx hb dX12_lied_20 rfl (lv_at hl 0 rfl) ?_
    refine fg_12_6 (k := 387) hx hb hts in_X12_lied_12 hown hK hP (by decide) (by decide) (hts _ lk_X12_lied_33) dX12_lied_21 ?_
    refine r_sipush hx hb dX12_lied_24 (by decide) (fun z4 ez4 => ?_)
    refine lv_iload_n hx hb dX12_lied_27 rfl (lv_at hl 2 rfl) ?_
    refine r_iadd hx hb dX12_lied_28 (by omega) (fun z5 ez5 => ?_)
    obtain ⟨j6, ej6⟩ : ∃ j : Nat, z5.toInt = (j : Int) := ⟨_, ti_nat (by omega)⟩
    refine ad_ms (k := 389) (j := j6) hx hb hK hP (by decide) (by decide) ej6 (by omega) dX12_lied_29 ?_
    have hr7 := ra_ms_7 hR (k := 389) (j := j6) (by decide) (by decide) (by omega) (by omega)
    refine r_if_le (tgt := 47) hx hb dX12_lied_30 (by decide) (fun c8 => ?_) (fun c8 => ?_)
    · refine r_iconst hx hb dX12_lied_47 (by decide) (fun z9 ez9 => ?_)
      refine r_iorU hx hb dX12_lied_48 (fun z10 => ?_)
      refine lv_istore_n (lv' := [(1, .int z10), (0, .ref (ad 387)), (2, .int x2)]) hx hb dX12_lied_49 rfl hl (by decide) rfl (fun ls hl => ?_)
      refine r_iinc (k := 2) (lv1 := fun z11 => [(2, .int z11), (1, .int z10), (0, .ref (ad 387))]) hx hb dX12_lied_50 hl rfl (by decide) (fun _ => rfl) (by decide) (by omega) (fun z11 ls ez11 hl => ?_)
      refine lv_goto (tgt := 9) hx hb dX12_lied_53 (by decide) ?_
      exact K9 σ τ0 H locs z10 z11 ls hR hF hFL hP hS (by omega) (lv_sub hl [2, 1, 0] rfl) (by omega)
    · refine lv_aload_n hx hb dX12_lied_33 rfl (lv_at hl 0 rfl) ?_
      refine lv_iload_n hx hb dX12_lied_34 rfl (lv_at hl 2 rfl) ?_
      refine r_cVi (k := 387) (As := [.int x2]) (rest := [.int x1]) ⟨hx, hb, hml, hown, hts⟩ hK hP hN hS (c_X12_isTrue l D cA ad hI σ τ0 hR x2 (by omega)) (cwV 1 hts gX12_lied_X12_isTrue rfl rfl rfl (by decide +kernel) ⟨by decide, by decide⟩) (rv_M hK hP (by decide) (by decide)) rfl hl.1 rfl (Nat.le_of_ble_eq_true rfl) dX12_lied_35 (Nat.zero_le _) (Nat.zero_le _) (fun r12 u12 H12 locs12 hp12 hP hS => ?_)
      obtain ⟨σ12, τ12⟩ := u12
      obtain ⟨hR, f12, fL12, hq12⟩ : P_X12_isTrue σ τ0 x2 r12 σ12 τ12 := hp12
      have hP : va_P D vwCl (gw cA ad σ12 τ12) H12 := hP
      obtain rfl := FrL.nil fL12
      have hF := hF.step f12 (by decide)
      refine r_if_ne (tgt := 47) hx hb dX12_lied_38 (by decide) (fun c13 => ?_) (fun c13 => ?_)
      · refine r_iconst hx hb dX12_lied_47 (by decide) (fun z14 ez14 => ?_)
        refine r_iorU hx hb dX12_lied_48 (fun z15 => ?_)
        refine lv_istore_n (lv' := [(1, .int z15), (0, .ref (ad 387)), (2, .int x2)]) hx hb dX12_lied_49 rfl hl (by decide) rfl (fun ls hl => ?_)
        refine r_iinc (k := 2) (lv1 := fun z16 => [(2, .int z16), (1, .int z15), (0, .ref (ad 387))]) hx hb dX12_lied_50 hl rfl (by decide) (fun _ => rfl) (by decide) (by omega) (fun z16 ls ez16 hl => ?_)
        refine lv_goto (tgt := 9) hx hb dX12_lied_53 (by decide) ?_
        exact K9 σ12 τ0 H12 locs12 z15 z16 ls hR hF hFL hP hS (by omega) (lv_sub hl [2, 1, 0] rfl) (by omega)
      · refine r_iconst hx hb dX12_lied_41 (by decide) (fun z17 ez17 => ?_)
        refine lv_iload_n hx hb dX12_lied_42 rfl (lv_at hl 2 rfl) ?_
        refine r_ishlU hx hb dX12_lied_43 (fun z18 => ?_)
        refine lv_goto (tgt := 48) hx hb dX12_lied_44 (by decide) ?_
        refine r_iorU hx hb dX12_lied_48 (fun z19 => ?_)
        refine lv_istore_n (lv' := [(1, .int z19), (0, .ref (ad 387)), (2, .int x2)]) hx hb dX12_lied_49 rfl hl (by decide) rfl (fun ls hl => ?_)
        refine r_iinc (k := 2) (lv1 := fun z20 => [(2, .int z20), (1, .int z19), (0, .ref (ad 387))]) hx hb dX12_lied_50 hl rfl (by decide) (fun _ => rfl) (by decide) (by omega) (fun z20 ls ez20 hl => ?_)
        refine lv_goto (tgt := 9) hx hb dX12_lied_53 (by decide) ?_
        exact K9 σ12 τ0 H12 locs12 z19 z20 ls hR hF hFL hP hS (by omega) (lv_sub hl [2, 1, 0] rfl) (by omega)
theorem A_X12_lied (p : Program) (l : Launch) (e : Env) (s : State) (m : MethodId) (args : Array Value) (below : List Frame) (meth : Method) (c : Code) (D : va_G) (cA : Nat → ClassId) (ad : Nat → Nat) (σ0 : Nat → Nat → Int32) (τ0 : Nat → Nat → Int64)  (C : Cy p s m args meth c cX12_lied 3 wsX12_lied RX12 D cA ad (some .int))  : ∀ n : Nat, J_X12_lied_9 p l e s m args below meth c D cA ad σ0 τ0 n := by
  intro n
  induction n with
  | zero =>
    exact (by intro σ τ H locs x1 x2 ls hR hF hFL hP hS hc0 hl hm; exfalso; omega)
  | succ n ih =>
    exact B_X12_lied_9 p l e s m args below meth c D cA ad σ0 τ0 n C  ih
set_option maxHeartbeats 4000000 in
theorem c_X12_lied (l : Launch) (D : va_G) (cA : Nat → ClassId) (ad : Nat → Nat) (hI : Inj ad) (σ0 : Nat → Nat → Int32) (τ0 : Nat → Nat → Int64) (hR : Rg σ0)   : Met l yX12_lied wsX12_lied ({ frames := 4, cells := 0, slots := 0, locals := 90 } : Room) (WQc D cA ad [.ref (ad 387)] σ0 τ0) (va_Qi (fun (r : Int32) (u : SS) => P_X12_lied σ0 τ0 r u.1 u.2) (WB D cA ad) (AA ad)) 0 0 (AA ad) := by
  refine Met.ofW (cc := cX12_lied) (maxL := 3) (ret := (some .int)) (by decide) rfl ?_
  intro p e s m args below meth c s₁ B hml hv
  obtain ⟨rfl, hP, hK, hN⟩ := hv
  have C : Cy p s m _ meth c cX12_lied 3 wsX12_lied RX12 D cA ad (some .int) := ⟨B.exec, B.bytes, hml, findClass_of_methodNamed B.named, atoms_spec (ws := wsX12_lied) B.pre, hK, B.notSynchronized, B.returns, hI, hN⟩
  have hl := lv_entry ([.ref (ad 387)]) (n := 3) (Nat.le_of_ble_eq_true rfl)
  rw [lg_entry_eq]
  generalize (lg_sl ([.ref (ad 387)]) ++ List.replicate (3 - (lg_sl ([.ref (ad 387)])).length) Slot.unset).toArray = ls at hl ⊢
  have hl : lv_has ls 3 [(0, .ref (ad 387))] := hl
  have hS : va_S (AA ad) s.heap s.heap [] := va_S.rf
  have hF : Fr L_X12_lied σ0 σ0 := Fr.rf
  have hFL : FrL LL_X12_lied τ0 τ0 := FrL.rf
  have hA := A_X12_lied p l e s m _ below meth c D cA ad σ0 τ0 C  42
  have K9 := hA
  clear hA
  obtain ⟨hx, hb, _, hown, hts, _, hk, hr, _, _⟩ := C
  refine lv_aload_n hx hb dX12_lied_0 rfl (lv_at hl 0 rfl) ?_
  refine r_iconst hx hb dX12_lied_1 (by decide) (fun z1 ez1 => ?_)
  refine fp_12_0 (k := 387) hx hb hts in_X12_lied_12 hown hK hP (by decide) (by decide) (hts _ lk_X12_lied_1) hI hR hS (by omega) dX12_lied_2 (fun σ2 H2 locs2 u2 v2 hR hP hS => ?_)
  have hF := hF.puts u2 0 rfl (by decide) (by decide) (by decide) (by decide)
  refine r_iconst hx hb dX12_lied_5 (by decide) (fun z3 ez3 => ?_)
  refine lv_istore_n (lv' := [(1, .int z3), (0, .ref (ad 387))]) hx hb dX12_lied_6 rfl hl (by decide) rfl (fun ls hl => ?_)
  refine r_iconst hx hb dX12_lied_7 (by decide) (fun z4 ez4 => ?_)
  refine lv_istore_n (lv' := [(2, .int z4), (1, .int z3), (0, .ref (ad 387))]) hx hb dX12_lied_8 rfl hl (by decide) rfl (fun ls hl => ?_)
  exact K9 σ2 τ0 H2 locs2 z3 z4 ls hR hF hFL hP hS (by omega) (lv_sub hl [2, 1, 0] rfl) (by omega)
theorem in_X12_nearer_12 : ∀ w ∈ u_ws RX12 TX12 47, w ∈ wsX12_nearer := by decide +kernel
theorem lk_X12_nearer_1 : Cond.fieldLink RX12 1 "CuckooSharesModel" "thrown" "I" ∈ wsX12_nearer := by decide +kernel
theorem lk_X12_nearer_33 : Cond.fieldLink RX12 33 "CuckooSharesModel" "s" "[I" ∈ wsX12_nearer := by decide +kernel
abbrev L_X12_nearer : List Rc := [(387, 387, 0, 0), (394, 394, 0, 7), (395, 395, 0, 7), (396, 396, 0, 7)]
abbrev LL_X12_nearer : List Rc := []
def P_X12_nearer (σ0 : Nat → Nat → Int32) (τ0 : Nat → Nat → Int64) (a1 : Int32) (r : Int32) (σ : Nat → Nat → Int32) (τ : Nat → Nat → Int64) : Prop := Rg σ ∧ Fr L_X12_nearer σ0 σ ∧ FrL LL_X12_nearer τ0 τ
def J_X12_nearer_19 (p : Program) (l : Launch) (e : Env) (s : State) (m : MethodId) (args : Array Value) (below : List Frame) (meth : Method) (c : Code) (D : va_G) (cA : Nat → ClassId) (ad : Nat → Nat) (σ0 : Nat → Nat → Int32) (τ0 : Nat → Nat → Int64) (a1 : Int32) (n : Nat) : Prop := ∀ (σ : Nat → Nat → Int32) (τ : Nat → Nat → Int64) (H : Heap) (locs : List Loc) (x2 : Int32) (x3 : Int32) (ls : Array Slot), Rg σ → Fr L_X12_nearer σ0 σ → FrL LL_X12_nearer τ0 τ → va_P D vwCl (gw cA ad σ τ) H → va_S (AA ad) s.heap H locs → (0 ≤ a1.toInt ∧ a1.toInt ≤ 7) → (0 ≤ x3.toInt ∧ x3.toInt ≤ 8) → lv_has ls 4 [(0, .ref (ad 387)), (1, .int a1), (2, .int x2), (3, .int x3)] → 2 * (8 - x3.toInt) + 1 < (n : Int) → W p l e ({ frames := 4, cells := 0, slots := 0, locals := 90 } : Room) s m args below meth c H locs 0 0 (MQ below (va_Qi (fun (r : Int32) (u : SS) => P_X12_nearer σ0 τ0 a1 r u.1 u.2) (WB D cA ad) (AA ad)) args s 0 0 (AA ad)) (F0 m 19 ls [])
set_option maxHeartbeats 4000000 in
theorem B_X12_nearer_19 (p : Program) (l : Launch) (e : Env) (s : State) (m : MethodId) (args : Array Value) (below : List Frame) (meth : Method) (c : Code) (D : va_G) (cA : Nat → ClassId) (ad : Nat → Nat) (σ0 : Nat → Nat → Int32) (τ0 : Nat → Nat → Int64) (a1 : Int32) (n : Nat) (C : Cy p s m args meth c cX12_nearer 4 wsX12_nearer RX12 D cA ad (some .int))  (K19 : J_X12_nearer_19 p l e s m args below meth c D cA ad σ0 τ0 a1 n) : J_X12_nearer_19 p l e s m args below meth c D cA ad σ0 τ0 a1 (n + 1) := by
  obtain ⟨hx, hb, hml, hown, hts, hK, hk, hr, hI, hN⟩ := C
  intro σ τ H locs x2 x3 ls hR hF hFL hP hS hc0 hc1 hl hm
  obtain rfl := FrL.nil hFL
  refine lv_iload_n hx hb dX12_nearer_19 rfl (lv_at hl 3 rfl) ?_
  refine lv_aload_n hx hb dX12_nearer_20 rfl (lv_at hl 0 rfl) ?_
  refine fg_12_6 (k := 387) hx hb hts in_X12_nearer_12 hown hK hP (by decide) (by decide) (hts _ lk_X12_nearer_33) dX12_nearer_21 ?_
  refine r_iconst hx hb dX12_nearer_24 (by decide) (fun z1 ez1 => ?_)
  refine ad_ms (k := 389) (j := 1) hx hb hK hP (by decide) (by decide) (by omega) (by omega) dX12_nearer_25 ?_
  have hr2 := ra_ms_0 hR (k := 389) (j := 1) (by decide) (by decide) (by decide) (by decide)
  refine r_icmp_ge (tgt := 67) hx hb dX12_nearer_26 (by decide) (fun c3 => ?_) (fun c3 => ?_)
  · refine lv_iload_n hx hb dX12_nearer_67 rfl (lv_at hl 2 rfl) ?_
    exact r_iret hx hb hr hK hP hS hk dX12_nearer_68 (show P_X12_nearer σ0 τ0 a1 x2 σ τ0 from ⟨hR, hF, hFL⟩)
  · refine lv_iload_n hx hb dX12_nearer_29 rfl (lv_at hl 2 rfl) ?_
    refine lv_iload_n hx hb dX12_nearer_30 rfl (lv_at hl 3 rfl) ?_
    refine lv_iload_n hx hb dX12_nearer_31 rfl (lv_at hl 1 rfl) ?_
    refine r_icmp_eq (tgt := 58) hx hb dX12_nearer_32 (by decide) (fun c4 => ?_) (fun c4 => ?_)
    · refine r_iconst hx hb dX12_nearer_58 (by decide) (fun z5 ez5 => ?_)
      refine r_iorU hx hb dX12_nearer_59 (fun z6 => ?_)
      refine lv_istore_n (lv' := [(2, .int z6), (0, .ref (ad 387)), (1, .int a1), (3, .int x3)]) hx hb dX12_nearer_60 rfl hl (by decide) rfl (fun ls hl => ?_)
      refine r_iinc (k := 3) (lv1 := fun z7 => [(3, .int z7), (2, .int z6), (0, .ref (ad 387)), (1, .int a1)]) hx hb dX12_nearer_61 hl rfl (by decide) (fun _ => rfl) (by decide) (by omega) (fun z7 ls ez7 hl => ?_)
      refine lv_goto (tgt := 19) hx hb dX12_nearer_64 (by decide) ?_
      exact K19 σ τ0 H locs z6 z7 ls hR hF hFL hP hS (by omega) (by omega) (lv_sub hl [2, 3, 1, 0] rfl) (by omega)
    · refine lv_aload_n hx hb dX12_nearer_35 rfl (lv_at hl 0 rfl) ?_
      refine lv_iload_n hx hb dX12_nearer_36 rfl (lv_at hl 3 rfl) ?_
      refine lv_iload_n hx hb dX12_nearer_37 rfl (lv_at hl 1 rfl) ?_
      refine r_cVi (k := 387) (As := [.int x3, .int a1]) (rest := [.int x2]) ⟨hx, hb, hml, hown, hts⟩ hK hP hN hS (c_X12_whyAccuse l D cA ad hI σ τ0 hR x3 a1 (by omega) (by omega)) (cwV 2 hts gX12_nearer_X12_whyAccuse rfl rfl rfl (by decide +kernel) ⟨by decide, by decide⟩) (rv_M hK hP (by decide) (by decide)) rfl hl.1 rfl (Nat.le_of_ble_eq_true rfl) dX12_nearer_38 (Nat.zero_le _) (Nat.zero_le _) (fun r8 u8 H8 locs8 hp8 hP hS => ?_)
      obtain ⟨σ8, τ8⟩ := u8
      obtain ⟨hR, f8, fL8, hq8⟩ : P_X12_whyAccuse σ τ0 x3 a1 r8 σ8 τ8 := hp8
      have hP : va_P D vwCl (gw cA ad σ8 τ8) H8 := hP
      obtain rfl := FrL.nil fL8
      have hF := hF.step f8 (by decide)
      refine r_if_ne (tgt := 58) hx hb dX12_nearer_41 (by decide) (fun c9 => ?_) (fun c9 => ?_)
      · refine r_iconst hx hb dX12_nearer_58 (by decide) (fun z10 ez10 => ?_)
        refine r_iorU hx hb dX12_nearer_59 (fun z11 => ?_)
        refine lv_istore_n (lv' := [(2, .int z11), (0, .ref (ad 387)), (1, .int a1), (3, .int x3)]) hx hb dX12_nearer_60 rfl hl (by decide) rfl (fun ls hl => ?_)
        refine r_iinc (k := 3) (lv1 := fun z12 => [(3, .int z12), (2, .int z11), (0, .ref (ad 387)), (1, .int a1)]) hx hb dX12_nearer_61 hl rfl (by decide) (fun _ => rfl) (by decide) (by omega) (fun z12 ls ez12 hl => ?_)
        refine lv_goto (tgt := 19) hx hb dX12_nearer_64 (by decide) ?_
        exact K19 σ8 τ0 H8 locs8 z11 z12 ls hR hF hFL hP hS (by omega) (by omega) (lv_sub hl [2, 3, 1, 0] rfl) (by omega)
      · refine lv_aload_n hx hb dX12_nearer_44 rfl (lv_at hl 0 rfl) ?_
        refine lv_iload_n hx hb dX12_nearer_45 rfl (lv_at hl 1 rfl) ?_
        refine r_cVi (k := 387) (As := [.int a1]) (rest := [.int x2]) ⟨hx, hb, hml, hown, hts⟩ hK hP hN hS (c_X12_isTrue l D cA ad hI σ8 τ0 hR a1 (by omega)) (cwV 1 hts gX12_nearer_X12_isTrue rfl rfl rfl (by decide +kernel) ⟨by decide, by decide⟩) (rv_M hK hP (by decide) (by decide)) rfl hl.1 rfl (Nat.le_of_ble_eq_true rfl) dX12_nearer_46 (Nat.zero_le _) (Nat.zero_le _) (fun r13 u13 H13 locs13 hp13 hP hS => ?_)
        obtain ⟨σ13, τ13⟩ := u13
        obtain ⟨hR, f13, fL13, hq13⟩ : P_X12_isTrue σ8 τ0 a1 r13 σ13 τ13 := hp13
        have hP : va_P D vwCl (gw cA ad σ13 τ13) H13 := hP
        obtain rfl := FrL.nil fL13
        have hF := hF.step f13 (by decide)
        refine r_if_ne (tgt := 58) hx hb dX12_nearer_49 (by decide) (fun c14 => ?_) (fun c14 => ?_)
        · refine r_iconst hx hb dX12_nearer_58 (by decide) (fun z15 ez15 => ?_)
          refine r_iorU hx hb dX12_nearer_59 (fun z16 => ?_)
          refine lv_istore_n (lv' := [(2, .int z16), (0, .ref (ad 387)), (1, .int a1), (3, .int x3)]) hx hb dX12_nearer_60 rfl hl (by decide) rfl (fun ls hl => ?_)
          refine r_iinc (k := 3) (lv1 := fun z17 => [(3, .int z17), (2, .int z16), (0, .ref (ad 387)), (1, .int a1)]) hx hb dX12_nearer_61 hl rfl (by decide) (fun _ => rfl) (by decide) (by omega) (fun z17 ls ez17 hl => ?_)
          refine lv_goto (tgt := 19) hx hb dX12_nearer_64 (by decide) ?_
          exact K19 σ13 τ0 H13 locs13 z16 z17 ls hR hF hFL hP hS (by omega) (by omega) (lv_sub hl [2, 3, 1, 0] rfl) (by omega)
        · refine r_iconst hx hb dX12_nearer_52 (by decide) (fun z18 ez18 => ?_)
          refine lv_iload_n hx hb dX12_nearer_53 rfl (lv_at hl 3 rfl) ?_
          refine r_ishlU hx hb dX12_nearer_54 (fun z19 => ?_)
          refine lv_goto (tgt := 59) hx hb dX12_nearer_55 (by decide) ?_
          refine r_iorU hx hb dX12_nearer_59 (fun z20 => ?_)
          refine lv_istore_n (lv' := [(2, .int z20), (0, .ref (ad 387)), (1, .int a1), (3, .int x3)]) hx hb dX12_nearer_60 rfl hl (by decide) rfl (fun ls hl => ?_)
          refine r_iinc (k := 3) (lv1 := fun z21 => [(3, .int z21), (2, .int z20), (0, .ref (ad 387)), (1, .int a1)]) hx hb dX12_nearer_61 hl rfl (by decide) (fun _ => rfl) (by decide) (by omega) (fun z21 ls ez21 hl => ?_)
          refine lv_goto (tgt := 19) hx hb dX12_nearer_64 (by decide) ?_
          exact K19 σ13 τ0 H13 locs13 z20 z21 ls hR hF hFL hP hS (by omega) (by omega) (lv_sub hl [2, 3, 1, 0] rfl) (by omega)
theorem A_X12_nearer (p : Program) (l : Launch) (e : Env) (s : State) (m : MethodId) (args : Array Value) (below : List Frame) (meth : Method) (c : Code) (D : va_G) (cA : Nat → ClassId) (ad : Nat → Nat) (σ0 : Nat → Nat → Int32) (τ0 : Nat → Nat → Int64) (a1 : Int32) (C : Cy p s m args meth c cX12_nearer 4 wsX12_nearer RX12 D cA ad (some .int))  : ∀ n : Nat, J_X12_nearer_19 p l e s m args below meth c D cA ad σ0 τ0 a1 n := by
  intro n
  induction n with
  | zero =>
    exact (by intro σ τ H locs x2 x3 ls hR hF hFL hP hS hc0 hc1 hl hm; exfalso; omega)
  | succ n ih =>
    exact B_X12_nearer_19 p l e s m args below meth c D cA ad σ0 τ0 a1 n C  ih
set_option maxHeartbeats 4000000 in
theorem c_X12_nearer (l : Launch) (D : va_G) (cA : Nat → ClassId) (ad : Nat → Nat) (hI : Inj ad) (σ0 : Nat → Nat → Int32) (τ0 : Nat → Nat → Int64) (hR : Rg σ0) (a1 : Int32)  : Met l yX12_nearer wsX12_nearer ({ frames := 4, cells := 0, slots := 0, locals := 90 } : Room) (WQc D cA ad [.ref (ad 387), .int a1] σ0 τ0) (va_Qi (fun (r : Int32) (u : SS) => P_X12_nearer σ0 τ0 a1 r u.1 u.2) (WB D cA ad) (AA ad)) 0 0 (AA ad) := by
  refine Met.ofW (cc := cX12_nearer) (maxL := 4) (ret := (some .int)) (by decide) rfl ?_
  intro p e s m args below meth c s₁ B hml hv
  obtain ⟨rfl, hP, hK, hN⟩ := hv
  have C : Cy p s m _ meth c cX12_nearer 4 wsX12_nearer RX12 D cA ad (some .int) := ⟨B.exec, B.bytes, hml, findClass_of_methodNamed B.named, atoms_spec (ws := wsX12_nearer) B.pre, hK, B.notSynchronized, B.returns, hI, hN⟩
  have hl := lv_entry ([.ref (ad 387), .int a1]) (n := 4) (Nat.le_of_ble_eq_true rfl)
  rw [lg_entry_eq]
  generalize (lg_sl ([.ref (ad 387), .int a1]) ++ List.replicate (4 - (lg_sl ([.ref (ad 387), .int a1])).length) Slot.unset).toArray = ls at hl ⊢
  have hl : lv_has ls 4 [(0, .ref (ad 387)), (1, .int a1)] := hl
  have hS : va_S (AA ad) s.heap s.heap [] := va_S.rf
  have hF : Fr L_X12_nearer σ0 σ0 := Fr.rf
  have hFL : FrL LL_X12_nearer τ0 τ0 := FrL.rf
  have hA := A_X12_nearer p l e s m _ below meth c D cA ad σ0 τ0 a1 C  42
  have K19 := hA
  clear hA
  obtain ⟨hx, hb, _, hown, hts, _, hk, hr, _, _⟩ := C
  refine lv_aload_n hx hb dX12_nearer_0 rfl (lv_at hl 0 rfl) ?_
  refine r_iconst hx hb dX12_nearer_1 (by decide) (fun z1 ez1 => ?_)
  refine fp_12_0 (k := 387) hx hb hts in_X12_nearer_12 hown hK hP (by decide) (by decide) (hts _ lk_X12_nearer_1) hI hR hS (by omega) dX12_nearer_2 (fun σ2 H2 locs2 u2 v2 hR hP hS => ?_)
  have hF := hF.puts u2 0 rfl (by decide) (by decide) (by decide) (by decide)
  refine lv_aload_n hx hb dX12_nearer_5 rfl (lv_at hl 0 rfl) ?_
  refine lv_iload_n hx hb dX12_nearer_6 rfl (lv_at hl 1 rfl) ?_
  refine r_cVi (k := 387) (As := [.int a1]) (rest := []) ⟨hx, hb, hml, hown, hts⟩ hK hP hN hS (c_X12_isMan l D cA ad hI σ2 τ0 hR a1) (cwV 1 hts gX12_nearer_X12_isMan rfl rfl rfl (by decide +kernel) ⟨by decide, by decide⟩) (rv_M hK hP (by decide) (by decide)) rfl hl.1 rfl (Nat.le_of_ble_eq_true rfl) dX12_nearer_7 (Nat.zero_le _) (Nat.zero_le _) (fun r3 u3 H3 locs3 hp3 hP hS => ?_)
  obtain ⟨σ3, τ3⟩ := u3
  obtain ⟨hR, f3, fL3, hq3, hp3_0⟩ : P_X12_isMan σ2 τ0 a1 r3 σ3 τ3 := hp3
  have hP : va_P D vwCl (gw cA ad σ3 τ3) H3 := hP
  obtain rfl := FrL.nil fL3
  obtain rfl := Fr.nil f3
  refine r_if_ne (tgt := 15) hx hb dX12_nearer_10 (by decide) (fun c4 => ?_) (fun c4 => ?_)
  · replace hp3_0 := hp3_0.resolve_left (by omega)
    refine r_iconst hx hb dX12_nearer_15 (by decide) (fun z5 ez5 => ?_)
    refine lv_istore_n (lv' := [(2, .int z5), (0, .ref (ad 387)), (1, .int a1)]) hx hb dX12_nearer_16 rfl hl (by decide) rfl (fun ls hl => ?_)
    refine r_iconst hx hb dX12_nearer_17 (by decide) (fun z6 ez6 => ?_)
    refine lv_istore_n (lv' := [(3, .int z6), (2, .int z5), (0, .ref (ad 387)), (1, .int a1)]) hx hb dX12_nearer_18 rfl hl (by decide) rfl (fun ls hl => ?_)
    exact K19 σ2 τ0 H3 locs3 z5 z6 ls hR hF hFL hP hS (by omega) (by omega) (lv_sub hl [2, 3, 1, 0] rfl) (by omega)
  · clear hp3_0
    refine r_iconst hx hb dX12_nearer_13 (by decide) (fun z7 ez7 => ?_)
    exact r_iret hx hb hr hK hP hS hk dX12_nearer_14 (show P_X12_nearer σ0 τ0 a1 z7 σ2 τ0 from ⟨hR, hF, hFL⟩)
