theorem in_X12_poor_12 : ∀ w ∈ u_ws RX12 TX12 47, w ∈ wsX12_poor := by decide +kernel
theorem lk_X12_poor_1 : Cond.fieldLink RX12 1 "CuckooSharesModel" "thrown" "I" ∈ wsX12_poor := by decide +kernel
theorem lk_X12_poor_33 : Cond.fieldLink RX12 33 "CuckooSharesModel" "s" "[I" ∈ wsX12_poor := by decide +kernel
abbrev L_X12_poor : List Rc := [(387, 387, 0, 0), (394, 394, 0, 7), (395, 395, 0, 7), (396, 396, 0, 7)]
def P_X12_poor (σ0 : Nat → Nat → Int32)  (r : Int32) (σ : Nat → Nat → Int32) : Prop := Rg σ ∧ Fr L_X12_poor σ0 σ
def J_X12_poor_22 (p : Program) (l : Launch) (e : Env) (s : State) (m : MethodId) (args : Array Value) (below : List Frame) (meth : Method) (c : Code) (D : va_G) (cA : Nat → ClassId) (ad : Nat → Nat) (σ0 : Nat → Nat → Int32)  (n : Nat) : Prop := ∀ (σ : Nat → Nat → Int32) (τ : Nat → Nat → Int64) (H : Heap) (locs : List Loc) (x1 : Int32) (x2 : Int32) (ls : Array Slot), Rg σ → Fr L_X12_poor σ0 σ → va_P D vwCl (gw cA ad σ τ) H → va_S (AA ad) s.heap H locs → (0 ≤ x2.toInt ∧ x2.toInt ≤ 4) → lv_has ls 4 [(0, .ref (ad 387)), (1, .int x1), (2, .int x2)] → 25 * (4 - x2.toInt) + 24 < (n : Int) → W p l e ({ frames := 4, cells := 0, slots := 0, locals := 93 } : Room) s m args below meth c H locs 0 0 (MQ below (va_Qi (fun (r : Int32) (u : SS) => P_X12_poor σ0 r u.1) (WB D cA ad) (AA ad)) args s 0 0 (AA ad)) (F0 m 22 ls [])
def J_X12_poor_34 (p : Program) (l : Launch) (e : Env) (s : State) (m : MethodId) (args : Array Value) (below : List Frame) (meth : Method) (c : Code) (D : va_G) (cA : Nat → ClassId) (ad : Nat → Nat) (σ0 : Nat → Nat → Int32)  (n : Nat) : Prop := ∀ (σ : Nat → Nat → Int32) (τ : Nat → Nat → Int64) (H : Heap) (locs : List Loc) (x1 : Int32) (x2 : Int32) (x3 : Int32) (ls : Array Slot), Rg σ → Fr L_X12_poor σ0 σ → va_P D vwCl (gw cA ad σ τ) H → va_S (AA ad) s.heap H locs → (0 ≤ x2.toInt ∧ x2.toInt ≤ 3) → (0 ≤ x3.toInt ∧ x3.toInt ≤ 10) → lv_has ls 4 [(0, .ref (ad 387)), (1, .int x1), (2, .int x2), (3, .int x3)] → 2 * (10 - x3.toInt) + 25 * (4 - x2.toInt) + 1 < (n : Int) → W p l e ({ frames := 4, cells := 0, slots := 0, locals := 93 } : Room) s m args below meth c H locs 0 0 (MQ below (va_Qi (fun (r : Int32) (u : SS) => P_X12_poor σ0 r u.1) (WB D cA ad) (AA ad)) args s 0 0 (AA ad)) (F0 m 34 ls [])
set_option maxHeartbeats 4000000 in
theorem B_X12_poor_22 (p : Program) (l : Launch) (e : Env) (s : State) (m : MethodId) (args : Array Value) (below : List Frame) (meth : Method) (c : Code) (D : va_G) (cA : Nat → ClassId) (ad : Nat → Nat) (σ0 : Nat → Nat → Int32)  (n : Nat) (C : Cy p s m args meth c cX12_poor 4 wsX12_poor RX12 D cA ad (some .int))  (K22 : J_X12_poor_22 p l e s m args below meth c D cA ad σ0 n) (K34 : J_X12_poor_34 p l e s m args below meth c D cA ad σ0 n) : J_X12_poor_22 p l e s m args below meth c D cA ad σ0 (n + 1) := by
  obtain ⟨hx, hb, hml, hown, hts, hK, hk, hr, hI, hN⟩ := C
  intro σ τ H locs x1 x2 ls hR hF hP hS hc0 hl hm
  refine lv_iload_n hx hb dX12_poor_22 rfl (lv_at hl 2 rfl) ?_
  refine lv_aload_n hx hb dX12_poor_23 rfl (lv_at hl 0 rfl) ?_
  refine fg_12_6 (k := 387) hx hb hts in_X12_poor_12 hown hK hP (by decide) (by decide) (hts _ lk_X12_poor_33) dX12_poor_24 ?_
  refine r_iconst hx hb dX12_poor_27 (by decide) (fun z1 ez1 => ?_)
  refine ad_ms (k := 389) (j := 2) hx hb hK hP (by decide) (by decide) (by omega) (by omega) dX12_poor_28 ?_
  have hr2 := ra_ms_1 hR (k := 389) (j := 2) (by decide) (by decide) (by decide) (by decide)
  refine r_icmp_ge (tgt := 70) hx hb dX12_poor_29 (by decide) (fun c3 => ?_) (fun c3 => ?_)
  · refine lv_iload_n hx hb dX12_poor_70 rfl (lv_at hl 1 rfl) ?_
    exact r_iret hx hb hr hK hP hS hk dX12_poor_71 (show P_X12_poor σ0 x1 σ from ⟨hR, hF⟩)
  · refine r_iconst hx hb dX12_poor_32 (by decide) (fun z4 ez4 => ?_)
    refine lv_istore_n (lv' := [(3, .int z4), (0, .ref (ad 387)), (1, .int x1), (2, .int x2)]) hx hb dX12_poor_33 rfl hl (by decide) rfl (fun ls hl => ?_)
    exact K34 σ τ H locs x1 x2 z4 ls hR hF hP hS (by omega) (by omega) (lv_sub hl [1, 2, 3, 0] rfl) (by omega)
set_option maxHeartbeats 4000000 in
theorem B_X12_poor_34 (p : Program) (l : Launch) (e : Env) (s : State) (m : MethodId) (args : Array Value) (below : List Frame) (meth : Method) (c : Code) (D : va_G) (cA : Nat → ClassId) (ad : Nat → Nat) (σ0 : Nat → Nat → Int32)  (n : Nat) (C : Cy p s m args meth c cX12_poor 4 wsX12_poor RX12 D cA ad (some .int))  (K22 : J_X12_poor_22 p l e s m args below meth c D cA ad σ0 n) (K34 : J_X12_poor_34 p l e s m args below meth c D cA ad σ0 n) : J_X12_poor_34 p l e s m args below meth c D cA ad σ0 (n + 1) := by
  obtain ⟨hx, hb, hml, hown, hts, hK, hk, hr, hI, hN⟩ := C
  intro σ τ H locs x1 x2 x3 ls hR hF hP hS hc0 hc1 hl hm
  refine lv_iload_n hx hb dX12_poor_34 rfl (lv_at hl 3 rfl) ?_
  refine lv_aload_n hx hb dX12_poor_35 rfl (lv_at hl 0 rfl) ?_
  refine fg_12_6 (k := 387) hx hb hts in_X12_poor_12 hown hK hP (by decide) (by decide) (hts _ lk_X12_poor_33) dX12_poor_36 ?_
  refine r_bipush hx hb dX12_poor_39 (by decide) (fun z1 ez1 => ?_)
  refine lv_iload_n hx hb dX12_poor_41 rfl (lv_at hl 2 rfl) ?_
  refine r_iadd hx hb dX12_poor_42 (by omega) (fun z2 ez2 => ?_)
  obtain ⟨j3, ej3⟩ : ∃ j : Nat, z2.toInt = (j : Int) := ⟨_, ti_nat (by omega)⟩
  refine ad_ms (k := 389) (j := j3) hx hb hK hP (by decide) (by decide) ej3 (by omega) dX12_poor_43 ?_
  have hr4 := ra_ms_4 hR (k := 389) (j := j3) (by decide) (by decide) (by omega) (by omega)
  refine r_icmp_ge (tgt := 64) hx hb dX12_poor_44 (by decide) (fun c5 => ?_) (fun c5 => ?_)
  · refine r_iinc (k := 2) (lv1 := fun z6 => [(2, .int z6), (0, .ref (ad 387)), (1, .int x1), (3, .int x3)]) hx hb dX12_poor_64 hl rfl (by decide) (fun _ => rfl) (by decide) (by omega) (fun z6 ls ez6 hl => ?_)
    refine lv_goto (tgt := 22) hx hb dX12_poor_67 (by decide) ?_
    exact K22 σ τ H locs x1 z6 ls hR hF hP hS (by omega) (lv_sub hl [1, 2, 0] rfl) (by omega)
  · refine lv_iload_n hx hb dX12_poor_47 rfl (lv_at hl 1 rfl) ?_
    refine lv_aload_n hx hb dX12_poor_48 rfl (lv_at hl 0 rfl) ?_
    refine lv_iload_n hx hb dX12_poor_49 rfl (lv_at hl 2 rfl) ?_
    refine lv_iload_n hx hb dX12_poor_50 rfl (lv_at hl 3 rfl) ?_
    refine r_cVi (k := 387) (As := [.int x2, .int x3]) (rest := [.int x1]) ⟨hx, hb, hml, hown, hts⟩ hK hP hN hS (c_X12_whoHears l D cA ad hI σ τ hR x2 x3 (by omega) (by omega)) (cwV 2 hts gX12_poor_X12_whoHears rfl rfl rfl (by decide +kernel) ⟨by decide, by decide⟩) (rv_M hK hP (by decide) (by decide)) rfl hl.1 rfl (Nat.le_of_ble_eq_true rfl) dX12_poor_51 (Nat.zero_le _) (Nat.zero_le _) (fun r7 u7 H7 locs7 hp7 hP hS => ?_)
    obtain ⟨σ7, τ7⟩ := u7
    obtain ⟨hR, f7⟩ : P_X12_whoHears σ x2 x3 r7 σ7 := hp7
    have hP : va_P D vwCl (gw cA ad σ7 τ7) H7 := hP
    obtain rfl := Fr.nil f7
    refine r_iconst hx hb dX12_poor_54 (by decide) (fun z8 ez8 => ?_)
    refine r_ixorU hx hb dX12_poor_55 (fun z9 => ?_)
    refine r_iandU hx hb dX12_poor_56 (fun z10 => ?_)
    refine lv_istore_n (lv' := [(1, .int z10), (0, .ref (ad 387)), (2, .int x2), (3, .int x3)]) hx hb dX12_poor_57 rfl hl (by decide) rfl (fun ls hl => ?_)
    refine r_iinc (k := 3) (lv1 := fun z11 => [(3, .int z11), (1, .int z10), (0, .ref (ad 387)), (2, .int x2)]) hx hb dX12_poor_58 hl rfl (by decide) (fun _ => rfl) (by decide) (by omega) (fun z11 ls ez11 hl => ?_)
    refine lv_goto (tgt := 34) hx hb dX12_poor_61 (by decide) ?_
    exact K34 σ τ7 H7 locs7 z10 x2 z11 ls hR hF hP hS (by omega) (by omega) (lv_sub hl [2, 1, 3, 0] rfl) (by omega)
theorem A_X12_poor (p : Program) (l : Launch) (e : Env) (s : State) (m : MethodId) (args : Array Value) (below : List Frame) (meth : Method) (c : Code) (D : va_G) (cA : Nat → ClassId) (ad : Nat → Nat) (σ0 : Nat → Nat → Int32)  (C : Cy p s m args meth c cX12_poor 4 wsX12_poor RX12 D cA ad (some .int))  : ∀ n : Nat, J_X12_poor_22 p l e s m args below meth c D cA ad σ0 n ∧ J_X12_poor_34 p l e s m args below meth c D cA ad σ0 n := by
  intro n
  induction n with
  | zero =>
    exact ⟨(by intro σ τ H locs x1 x2 ls hR hF hP hS hc0 hl hm; exfalso; omega), (by intro σ τ H locs x1 x2 x3 ls hR hF hP hS hc0 hc1 hl hm; exfalso; omega)⟩
  | succ n ih =>
    exact ⟨B_X12_poor_22 p l e s m args below meth c D cA ad σ0 n C  ih.1 ih.2, B_X12_poor_34 p l e s m args below meth c D cA ad σ0 n C  ih.1 ih.2⟩
set_option maxHeartbeats 4000000 in
theorem c_X12_poor (l : Launch) (D : va_G) (cA : Nat → ClassId) (ad : Nat → Nat) (hI : Inj ad) (σ0 : Nat → Nat → Int32) (τ0 : Nat → Nat → Int64) (hR : Rg σ0)   : Met l yX12_poor wsX12_poor ({ frames := 4, cells := 0, slots := 0, locals := 93 } : Room) (WQc D cA ad [.ref (ad 387)] σ0 τ0) (va_Qi (fun (r : Int32) (u : SS) => P_X12_poor σ0 r u.1) (WB D cA ad) (AA ad)) 0 0 (AA ad) := by
  refine Met.ofW (cc := cX12_poor) (maxL := 4) (ret := (some .int)) (by decide) rfl ?_
  intro p e s m args below meth c s₁ B hml hv
  obtain ⟨rfl, hP, hK, hN⟩ := hv
  have C : Cy p s m _ meth c cX12_poor 4 wsX12_poor RX12 D cA ad (some .int) := ⟨B.exec, B.bytes, hml, findClass_of_methodNamed B.named, atoms_spec (ws := wsX12_poor) B.pre, hK, B.notSynchronized, B.returns, hI, hN⟩
  have hl := lv_entry ([.ref (ad 387)]) (n := 4) (Nat.le_of_ble_eq_true rfl)
  rw [lg_entry_eq]
  generalize (lg_sl ([.ref (ad 387)]) ++ List.replicate (4 - (lg_sl ([.ref (ad 387)])).length) Slot.unset).toArray = ls at hl ⊢
  have hl : lv_has ls 4 [(0, .ref (ad 387))] := hl
  have hS : va_S (AA ad) s.heap s.heap [] := va_S.rf
  have hF : Fr L_X12_poor σ0 σ0 := Fr.rf
  have hA := A_X12_poor p l e s m _ below meth c D cA ad σ0 C  301
  have K22 := hA.1
  have K34 := hA.2
  clear hA
  obtain ⟨hx, hb, _, hown, hts, _, hk, hr, _, _⟩ := C
  refine lv_aload_n hx hb dX12_poor_0 rfl (lv_at hl 0 rfl) ?_
  refine r_iconst hx hb dX12_poor_1 (by decide) (fun z1 ez1 => ?_)
  refine fp_12_0 (k := 387) hx hb hts in_X12_poor_12 hown hK hP (by decide) (by decide) (hts _ lk_X12_poor_1) hI hR hS (by omega) dX12_poor_2 (fun σ2 H2 locs2 u2 v2 hR hP hS => ?_)
  have hF := hF.puts u2 0 rfl (by decide) (by decide) (by decide) (by decide)
  refine lv_aload_n hx hb dX12_poor_5 rfl (lv_at hl 0 rfl) ?_
  refine r_cVv (k := 387) (As := []) (rest := []) ⟨hx, hb, hml, hown, hts⟩ hK hP hN hS (c_X12_asNow l D cA ad hI σ2 τ0 hR) (cwV 0 hts gX12_poor_X12_asNow rfl rfl rfl (by decide +kernel) ⟨by decide, by decide⟩) (rv_M hK hP (by decide) (by decide)) rfl hl.1 rfl (Nat.le_of_ble_eq_true rfl) dX12_poor_6 (Nat.zero_le _) (Nat.zero_le _) (fun u3 H3 locs3 hp3 hP hS => ?_)
  obtain ⟨σ3, τ3⟩ := u3
  obtain ⟨hR, f3⟩ : P_X12_asNow σ2 σ3 := hp3
  have hP : va_P D vwCl (gw cA ad σ3 τ3) H3 := hP
  have hF := hF.step f3 (by decide)
  refine r_iconst hx hb dX12_poor_9 (by decide) (fun z4 ez4 => ?_)
  refine lv_aload_n hx hb dX12_poor_10 rfl (lv_at hl 0 rfl) ?_
  refine fg_12_6 (k := 387) hx hb hts in_X12_poor_12 hown hK hP (by decide) (by decide) (hts _ lk_X12_poor_33) dX12_poor_11 ?_
  refine r_iconst hx hb dX12_poor_14 (by decide) (fun z5 ez5 => ?_)
  refine ad_ms (k := 389) (j := 1) hx hb hK hP (by decide) (by decide) (by omega) (by omega) dX12_poor_15 ?_
  have hr6 := ra_ms_0 hR (k := 389) (j := 1) (by decide) (by decide) (by decide) (by decide)
  refine r_ishlU hx hb dX12_poor_16 (fun z7 => ?_)
  refine r_iconst hx hb dX12_poor_17 (by decide) (fun z8 ez8 => ?_)
  refine r_isubU hx hb dX12_poor_18 (fun z9 => ?_)
  refine lv_istore_n (lv' := [(1, .int z9), (0, .ref (ad 387))]) hx hb dX12_poor_19 rfl hl (by decide) rfl (fun ls hl => ?_)
  refine r_iconst hx hb dX12_poor_20 (by decide) (fun z10 ez10 => ?_)
  refine lv_istore_n (lv' := [(2, .int z10), (1, .int z9), (0, .ref (ad 387))]) hx hb dX12_poor_21 rfl hl (by decide) rfl (fun ls hl => ?_)
  exact K22 σ3 τ3 H3 locs3 z9 z10 ls hR hF hP hS (by omega) (lv_sub hl [2, 1, 0] rfl) (by omega)
abbrev L_X12_bits : List Rc := []
def P_X12_bits (σ0 : Nat → Nat → Int32) (a0 : Int32) (r : Int32) (σ : Nat → Nat → Int32) : Prop := Rg σ ∧ Fr L_X12_bits σ0 σ
def J_X12_bits_4 (p : Program) (l : Launch) (e : Env) (s : State) (m : MethodId) (args : Array Value) (below : List Frame) (meth : Method) (c : Code) (D : va_G) (cA : Nat → ClassId) (ad : Nat → Nat) (σ0 : Nat → Nat → Int32) (a0 : Int32) (n : Nat) : Prop := ∀ (σ : Nat → Nat → Int32) (τ : Nat → Nat → Int64) (H : Heap) (locs : List Loc) (x1 : Int32) (x2 : Int32) (ls : Array Slot), Rg σ → Fr L_X12_bits σ0 σ → va_P D vwCl (gw cA ad σ τ) H → va_S (AA ad) s.heap H locs → lv_has ls 3 [(0, .int a0), (1, .int x1), (2, .int x2)] → 2 * BN x2 + 1 < (n : Int) → W p l e ({ frames := 0, cells := 0, slots := 0, locals := 0 } : Room) s m args below meth c H locs 0 0 (MQ below (va_Qi (fun (r : Int32) (u : SS) => P_X12_bits σ0 a0 r u.1) (WB D cA ad) (AA ad)) args s 0 0 (AA ad)) (F0 m 4 ls [])
set_option maxHeartbeats 4000000 in
theorem B_X12_bits_4 (p : Program) (l : Launch) (e : Env) (s : State) (m : MethodId) (args : Array Value) (below : List Frame) (meth : Method) (c : Code) (D : va_G) (cA : Nat → ClassId) (ad : Nat → Nat) (σ0 : Nat → Nat → Int32) (a0 : Int32) (n : Nat) (C : Cy p s m args meth c cX12_bits 3 wsX12_bits RX12 D cA ad (some .int))  (K4 : J_X12_bits_4 p l e s m args below meth c D cA ad σ0 a0 n) : J_X12_bits_4 p l e s m args below meth c D cA ad σ0 a0 (n + 1) := by
  obtain ⟨hx, hb, hml, hown, hts, hK, hk, hr, hI, hN⟩ := C
  intro σ τ H locs x1 x2 ls hR hF hP hS hl hm
  obtain rfl := Fr.nil hF
  have hb0 := BN_nn x2
  refine lv_iload_n hx hb dX12_bits_4 rfl (lv_at hl 2 rfl) ?_
  refine r_if_eq (tgt := 20) hx hb dX12_bits_5 (by decide) (fun c1 => ?_) (fun c1 => ?_)
  · refine lv_iload_n hx hb dX12_bits_20 rfl (lv_at hl 1 rfl) ?_
    exact r_iret hx hb hr hK hP hS hk dX12_bits_21 (show P_X12_bits σ0 a0 x1 σ0 from ⟨hR, hF⟩)
  · refine r_iincU (k := 1) (lv1 := fun z2 => [(1, .int z2), (0, .int a0), (2, .int x2)]) hx hb dX12_bits_8 hl rfl (by decide) (fun _ => rfl) (fun z2 ls hl => ?_)
    refine lv_iload_n hx hb dX12_bits_11 rfl (lv_at hl 2 rfl) ?_
    refine lv_iload_n hx hb dX12_bits_12 rfl (lv_at hl 2 rfl) ?_
    refine lv_iconst (v := 1) hx hb dX12_bits_13 (by decide) ?_
    have kcz3 : (1 : Int32).toInt = 1 := rfl
    refine lv_isub hx hb dX12_bits_14 ?_
    refine lv_iand hx hb dX12_bits_15 ?_
    have hbn := BN_lt (x := x2) (z := 1) (by omega) rfl
    refine lv_istore_n (lv' := [(2, .int (x2 &&& (x2 - 1))), (1, .int z2), (0, .int a0)]) hx hb dX12_bits_16 rfl hl (by decide) rfl (fun ls hl => ?_)
    refine lv_goto (tgt := 4) hx hb dX12_bits_17 (by decide) ?_
    exact K4 σ0 τ H locs z2 (x2 &&& (x2 - 1)) ls hR hF hP hS  (lv_sub hl [2, 1, 0] rfl) (by omega)
theorem A_X12_bits (p : Program) (l : Launch) (e : Env) (s : State) (m : MethodId) (args : Array Value) (below : List Frame) (meth : Method) (c : Code) (D : va_G) (cA : Nat → ClassId) (ad : Nat → Nat) (σ0 : Nat → Nat → Int32) (a0 : Int32) (C : Cy p s m args meth c cX12_bits 3 wsX12_bits RX12 D cA ad (some .int))  : ∀ n : Nat, J_X12_bits_4 p l e s m args below meth c D cA ad σ0 a0 n := by
  intro n
  induction n with
  | zero =>
    exact (by intro σ τ H locs x1 x2 ls hR hF hP hS hl hm; have hb0 := BN_nn x2; exfalso; omega)
  | succ n ih =>
    exact B_X12_bits_4 p l e s m args below meth c D cA ad σ0 a0 n C  ih
set_option maxHeartbeats 4000000 in
theorem c_X12_bits (l : Launch) (D : va_G) (cA : Nat → ClassId) (ad : Nat → Nat) (hI : Inj ad) (σ0 : Nat → Nat → Int32) (τ0 : Nat → Nat → Int64) (hR : Rg σ0) (a0 : Int32)  : Met l yX12_bits wsX12_bits ({ frames := 0, cells := 0, slots := 0, locals := 0 } : Room) (WQc D cA ad [.int a0] σ0 τ0) (va_Qi (fun (r : Int32) (u : SS) => P_X12_bits σ0 a0 r u.1) (WB D cA ad) (AA ad)) 0 0 (AA ad) := by
  refine Met.ofW (cc := cX12_bits) (maxL := 3) (ret := (some .int)) (by decide) rfl ?_
  intro p e s m args below meth c s₁ B hml hv
  obtain ⟨rfl, hP, hK, hN⟩ := hv
  have C : Cy p s m _ meth c cX12_bits 3 wsX12_bits RX12 D cA ad (some .int) := ⟨B.exec, B.bytes, hml, findClass_of_methodNamed B.named, atoms_spec (ws := wsX12_bits) B.pre, hK, B.notSynchronized, B.returns, hI, hN⟩
  have hl := lv_entry ([.int a0]) (n := 3) (Nat.le_of_ble_eq_true rfl)
  rw [lg_entry_eq]
  generalize (lg_sl ([.int a0]) ++ List.replicate (3 - (lg_sl ([.int a0])).length) Slot.unset).toArray = ls at hl ⊢
  have hl : lv_has ls 3 [(0, .int a0)] := hl
  have hS : va_S (AA ad) s.heap s.heap [] := va_S.rf
  have hF : Fr L_X12_bits σ0 σ0 := Fr.rf
  have hA := A_X12_bits p l e s m _ below meth c D cA ad σ0 a0 C  17179869190
  have K4 := hA
  clear hA
  obtain ⟨hx, hb, _, hown, hts, _, hk, hr, _, _⟩ := C
  have hb00 := BN_nn a0
  refine r_iconst hx hb dX12_bits_0 (by decide) (fun z1 ez1 => ?_)
  refine lv_istore_n (lv' := [(1, .int z1), (0, .int a0)]) hx hb dX12_bits_1 rfl hl (by decide) rfl (fun ls hl => ?_)
  refine lv_iload_n hx hb dX12_bits_2 rfl (lv_at hl 1 rfl) ?_
  refine lv_istore_n (lv' := [(2, .int a0), (1, .int z1), (0, .int a0)]) hx hb dX12_bits_3 rfl hl (by decide) rfl (fun ls hl => ?_)
  exact K4 σ0 τ0 s.heap [] z1 a0 ls hR hF hP hS  (lv_sub hl [2, 1, 0] rfl) (by omega)
theorem in_X12_crowded_12 : ∀ w ∈ u_ws RX12 TX12 47, w ∈ wsX12_crowded := by decide +kernel
theorem lk_X12_crowded_1 : Cond.fieldLink RX12 1 "CuckooSharesModel" "thrown" "I" ∈ wsX12_crowded := by decide +kernel
theorem lk_X12_crowded_305 : Cond.fieldLink RX12 305 "CuckooSharesModel" "sharers" "I" ∈ wsX12_crowded := by decide +kernel
theorem lk_X12_crowded_33 : Cond.fieldLink RX12 33 "CuckooSharesModel" "s" "[I" ∈ wsX12_crowded := by decide +kernel
abbrev L_X12_crowded : List Rc := [(387, 387, 0, 0), (394, 394, 0, 7), (395, 395, 0, 7), (396, 396, 0, 7), (387, 387, 26, 26), (397, 397, 0, 7)]
def P_X12_crowded (σ0 : Nat → Nat → Int32)  (r : Int32) (σ : Nat → Nat → Int32) : Prop := Rg σ ∧ Fr L_X12_crowded σ0 σ ∧ (-1 ≤ r.toInt ∧ r.toInt ≤ 3)
def J_X12_crowded_15 (p : Program) (l : Launch) (e : Env) (s : State) (m : MethodId) (args : Array Value) (below : List Frame) (meth : Method) (c : Code) (D : va_G) (cA : Nat → ClassId) (ad : Nat → Nat) (σ0 : Nat → Nat → Int32)  (n : Nat) : Prop := ∀ (σ : Nat → Nat → Int32) (τ : Nat → Nat → Int64) (H : Heap) (locs : List Loc) (x1 : Int32) (x2 : Int32) (x3 : Int32) (ls : Array Slot), Rg σ → Fr L_X12_crowded σ0 σ → va_P D vwCl (gw cA ad σ τ) H → va_S (AA ad) s.heap H locs → (-1 ≤ x1.toInt ∧ x1.toInt ≤ 3) → (0 ≤ x3.toInt ∧ x3.toInt ≤ 4) → lv_has ls 4 [(0, .ref (ad 387)), (1, .int x1), (2, .int x2), (3, .int x3)] → 2 * (4 - x3.toInt) + 1 < (n : Int) → W p l e ({ frames := 6, cells := 0, slots := 0, locals := 140 } : Room) s m args below meth c H locs 0 0 (MQ below (va_Qi (fun (r : Int32) (u : SS) => P_X12_crowded σ0 r u.1) (WB D cA ad) (AA ad)) args s 0 0 (AA ad)) (F0 m 15 ls [])
set_option maxHeartbeats 4000000 in
theorem B_X12_crowded_15 (p : Program) (l : Launch) (e : Env) (s : State) (m : MethodId) (args : Array Value) (below : List Frame) (meth : Method) (c : Code) (D : va_G) (cA : Nat → ClassId) (ad : Nat → Nat) (σ0 : Nat → Nat → Int32)  (n : Nat) (C : Cy p s m args meth c cX12_crowded 4 wsX12_crowded RX12 D cA ad (some .int))  (K15 : J_X12_crowded_15 p l e s m args below meth c D cA ad σ0 n) : J_X12_crowded_15 p l e s m args below meth c D cA ad σ0 (n + 1) := by
  obtain ⟨hx, hb, hml, hown, hts, hK, hk, hr, hI, hN⟩ := C
  intro σ τ H locs x1 x2 x3 ls hR hF hP hS hc0 hc1 hl hm
  refine lv_iload_n hx hb dX12_crowded_15 rfl (lv_at hl 3 rfl) ?_
  refine lv_aload_n hx hb dX12_crowded_16 rfl (lv_at hl 0 rfl) ?_
  refine fg_12_6 (k := 387) hx hb hts in_X12_crowded_12 hown hK hP (by decide) (by decide) (hts _ lk_X12_crowded_33) dX12_crowded_17 ?_
  refine r_iconst hx hb dX12_crowded_20 (by decide) (fun z1 ez1 => ?_)
  refine ad_ms (k := 389) (j := 2) hx hb hK hP (by decide) (by decide) (by omega) (by omega) dX12_crowded_21 ?_
  have hr2 := ra_ms_1 hR (k := 389) (j := 2) (by decide) (by decide) (by decide) (by decide)
  refine r_icmp_ge (tgt := 70) hx hb dX12_crowded_22 (by decide) (fun c3 => ?_) (fun c3 => ?_)
  · refine lv_iload_n hx hb dX12_crowded_70 rfl (lv_at hl 1 rfl) ?_
    exact r_iret hx hb hr hK hP hS hk dX12_crowded_71 (show P_X12_crowded σ0 x1 σ from ⟨hR, hF, by omega⟩)
  · refine lv_aload_n hx hb dX12_crowded_25 rfl (lv_at hl 0 rfl) ?_
    refine lv_iload_n hx hb dX12_crowded_26 rfl (lv_at hl 3 rfl) ?_
    refine lv_aload_n hx hb dX12_crowded_27 rfl (lv_at hl 0 rfl) ?_
    refine fg_12_6 (k := 387) hx hb hts in_X12_crowded_12 hown hK hP (by decide) (by decide) (hts _ lk_X12_crowded_33) dX12_crowded_28 ?_
    refine r_iconst hx hb dX12_crowded_31 (by decide) (fun z4 ez4 => ?_)
    refine ad_ms (k := 389) (j := 4) hx hb hK hP (by decide) (by decide) (by omega) (by omega) dX12_crowded_32 ?_
    refine r_cVv (k := 387) (As := [.int x3, .int (σ 389 4)]) (rest := []) ⟨hx, hb, hml, hown, hts⟩ hK hP hN hS (c_X12_sharesBy l D cA ad hI σ τ hR x3 (σ 389 4) (by omega)) (cwV 2 hts gX12_crowded_X12_sharesBy rfl rfl rfl (by decide +kernel) ⟨by decide, by decide⟩) (rv_M hK hP (by decide) (by decide)) rfl hl.1 rfl (Nat.le_of_ble_eq_true rfl) dX12_crowded_33 (Nat.zero_le _) (Nat.zero_le _) (fun u5 H5 locs5 hp5 hP hS => ?_)
    obtain ⟨σ5, τ5⟩ := u5
    obtain ⟨hR, f5⟩ : P_X12_sharesBy σ x3 (σ 389 4) σ5 := hp5
    have hP : va_P D vwCl (gw cA ad σ5 τ5) H5 := hP
    have hF := hF.step f5 (by decide)
    refine lv_iload_n hx hb dX12_crowded_36 rfl (lv_at hl 1 rfl) ?_
    refine r_if_lt (tgt := 54) hx hb dX12_crowded_37 (by decide) (fun c6 => ?_) (fun c6 => ?_)
    · refine lv_iload_n hx hb dX12_crowded_54 rfl (lv_at hl 3 rfl) ?_
      refine lv_istore_n (lv' := [(1, .int x3), (0, .ref (ad 387)), (2, .int x2), (3, .int x3)]) hx hb dX12_crowded_55 rfl hl (by decide) rfl (fun ls hl => ?_)
      refine lv_aload_n hx hb dX12_crowded_56 rfl (lv_at hl 1 rfl) ?_
      refine fg_12_26 (k := 387) hx hb hts in_X12_crowded_12 hown hK hP (by decide) (by decide) (hts _ lk_X12_crowded_305) dX12_crowded_57 ?_
      refine r_cSi (As := [.int (σ5 387 26)]) (rest := []) ⟨hx, hb, hml, hown, hts⟩ hK hP hN hS (c_X12_bits l D cA ad hI σ5 τ5 hR (σ5 387 26)) (va_cwS 1 hts gX12_crowded_X12_bits rfl rfl rfl (by decide +kernel) ⟨by decide, by decide⟩) rfl hl.1 rfl (Nat.le_of_ble_eq_true rfl) dX12_crowded_60 (Nat.zero_le _) (Nat.zero_le _) (fun r7 u7 H7 locs7 hp7 hP hS => ?_)
      obtain ⟨σ7, τ7⟩ := u7
      obtain ⟨hR, f7⟩ : P_X12_bits σ5 (σ5 387 26) r7 σ7 := hp7
      have hP : va_P D vwCl (gw cA ad σ7 τ7) H7 := hP
      obtain rfl := Fr.nil f7
      refine lv_istore_n (lv' := [(2, .int r7), (1, .int x3), (0, .ref (ad 387)), (3, .int x3)]) hx hb dX12_crowded_63 rfl hl (by decide) rfl (fun ls hl => ?_)
      refine r_iinc (k := 3) (lv1 := fun z8 => [(3, .int z8), (2, .int r7), (1, .int x3), (0, .ref (ad 387))]) hx hb dX12_crowded_64 hl rfl (by decide) (fun _ => rfl) (by decide) (by omega) (fun z8 ls ez8 hl => ?_)
      refine lv_goto (tgt := 15) hx hb dX12_crowded_67 (by decide) ?_
      exact K15 σ5 τ7 H7 locs7 x3 r7 z8 ls hR hF hP hS (by omega) (by omega) (lv_sub hl [3, 2, 1, 0] rfl) (by omega)
    · refine lv_aload_n hx hb dX12_crowded_40 rfl (lv_at hl 0 rfl) ?_
      refine fg_12_26 (k := 387) hx hb hts in_X12_crowded_12 hown hK hP (by decide) (by decide) (hts _ lk_X12_crowded_305) dX12_crowded_41 ?_
      refine r_cSi (As := [.int (σ5 387 26)]) (rest := []) ⟨hx, hb, hml, hown, hts⟩ hK hP hN hS (c_X12_bits l D cA ad hI σ5 τ5 hR (σ5 387 26)) (va_cwS 1 hts gX12_crowded_X12_bits rfl rfl rfl (by decide +kernel) ⟨by decide, by decide⟩) rfl hl.1 rfl (Nat.le_of_ble_eq_true rfl) dX12_crowded_44 (Nat.zero_le _) (Nat.zero_le _) (fun r9 u9 H9 locs9 hp9 hP hS => ?_)
      obtain ⟨σ9, τ9⟩ := u9
      obtain ⟨hR, f9⟩ : P_X12_bits σ5 (σ5 387 26) r9 σ9 := hp9
      have hP : va_P D vwCl (gw cA ad σ9 τ9) H9 := hP
      obtain rfl := Fr.nil f9
      refine lv_iload_n hx hb dX12_crowded_47 rfl (lv_at hl 2 rfl) ?_
      refine r_icmp_gt (tgt := 54) hx hb dX12_crowded_48 (by decide) (fun c10 => ?_) (fun c10 => ?_)
      · refine lv_iload_n hx hb dX12_crowded_54 rfl (lv_at hl 3 rfl) ?_
        refine lv_istore_n (lv' := [(1, .int x3), (0, .ref (ad 387)), (2, .int x2), (3, .int x3)]) hx hb dX12_crowded_55 rfl hl (by decide) rfl (fun ls hl => ?_)
        refine lv_aload_n hx hb dX12_crowded_56 rfl (lv_at hl 1 rfl) ?_
        refine fg_12_26 (k := 387) hx hb hts in_X12_crowded_12 hown hK hP (by decide) (by decide) (hts _ lk_X12_crowded_305) dX12_crowded_57 ?_
        refine r_cSi (As := [.int (σ5 387 26)]) (rest := []) ⟨hx, hb, hml, hown, hts⟩ hK hP hN hS (c_X12_bits l D cA ad hI σ5 τ9 hR (σ5 387 26)) (va_cwS 1 hts gX12_crowded_X12_bits rfl rfl rfl (by decide +kernel) ⟨by decide, by decide⟩) rfl hl.1 rfl (Nat.le_of_ble_eq_true rfl) dX12_crowded_60 (Nat.zero_le _) (Nat.zero_le _) (fun r11 u11 H11 locs11 hp11 hP hS => ?_)
        obtain ⟨σ11, τ11⟩ := u11
        obtain ⟨hR, f11⟩ : P_X12_bits σ5 (σ5 387 26) r11 σ11 := hp11
        have hP : va_P D vwCl (gw cA ad σ11 τ11) H11 := hP
        obtain rfl := Fr.nil f11
        refine lv_istore_n (lv' := [(2, .int r11), (1, .int x3), (0, .ref (ad 387)), (3, .int x3)]) hx hb dX12_crowded_63 rfl hl (by decide) rfl (fun ls hl => ?_)
        refine r_iinc (k := 3) (lv1 := fun z12 => [(3, .int z12), (2, .int r11), (1, .int x3), (0, .ref (ad 387))]) hx hb dX12_crowded_64 hl rfl (by decide) (fun _ => rfl) (by decide) (by omega) (fun z12 ls ez12 hl => ?_)
        refine lv_goto (tgt := 15) hx hb dX12_crowded_67 (by decide) ?_
        exact K15 σ5 τ11 H11 locs11 x3 r11 z12 ls hR hF hP hS (by omega) (by omega) (lv_sub hl [3, 2, 1, 0] rfl) (by omega)
      · refine lv_goto (tgt := 64) hx hb dX12_crowded_51 (by decide) ?_
        refine r_iinc (k := 3) (lv1 := fun z13 => [(3, .int z13), (0, .ref (ad 387)), (1, .int x1), (2, .int x2)]) hx hb dX12_crowded_64 hl rfl (by decide) (fun _ => rfl) (by decide) (by omega) (fun z13 ls ez13 hl => ?_)
        refine lv_goto (tgt := 15) hx hb dX12_crowded_67 (by decide) ?_
        exact K15 σ5 τ9 H9 locs9 x1 x2 z13 ls hR hF hP hS (by omega) (by omega) (lv_sub hl [1, 2, 3, 0] rfl) (by omega)
theorem A_X12_crowded (p : Program) (l : Launch) (e : Env) (s : State) (m : MethodId) (args : Array Value) (below : List Frame) (meth : Method) (c : Code) (D : va_G) (cA : Nat → ClassId) (ad : Nat → Nat) (σ0 : Nat → Nat → Int32)  (C : Cy p s m args meth c cX12_crowded 4 wsX12_crowded RX12 D cA ad (some .int))  : ∀ n : Nat, J_X12_crowded_15 p l e s m args below meth c D cA ad σ0 n := by
  intro n
  induction n with
  | zero =>
    exact (by intro σ τ H locs x1 x2 x3 ls hR hF hP hS hc0 hc1 hl hm; exfalso; omega)
  | succ n ih =>
    exact B_X12_crowded_15 p l e s m args below meth c D cA ad σ0 n C  ih
set_option maxHeartbeats 4000000 in
theorem c_X12_crowded (l : Launch) (D : va_G) (cA : Nat → ClassId) (ad : Nat → Nat) (hI : Inj ad) (σ0 : Nat → Nat → Int32) (τ0 : Nat → Nat → Int64) (hR : Rg σ0)   : Met l yX12_crowded wsX12_crowded ({ frames := 6, cells := 0, slots := 0, locals := 140 } : Room) (WQc D cA ad [.ref (ad 387)] σ0 τ0) (va_Qi (fun (r : Int32) (u : SS) => P_X12_crowded σ0 r u.1) (WB D cA ad) (AA ad)) 0 0 (AA ad) := by
  refine Met.ofW (cc := cX12_crowded) (maxL := 4) (ret := (some .int)) (by decide) rfl ?_
  intro p e s m args below meth c s₁ B hml hv
  obtain ⟨rfl, hP, hK, hN⟩ := hv
  have C : Cy p s m _ meth c cX12_crowded 4 wsX12_crowded RX12 D cA ad (some .int) := ⟨B.exec, B.bytes, hml, findClass_of_methodNamed B.named, atoms_spec (ws := wsX12_crowded) B.pre, hK, B.notSynchronized, B.returns, hI, hN⟩
  have hl := lv_entry ([.ref (ad 387)]) (n := 4) (Nat.le_of_ble_eq_true rfl)
  rw [lg_entry_eq]
  generalize (lg_sl ([.ref (ad 387)]) ++ List.replicate (4 - (lg_sl ([.ref (ad 387)])).length) Slot.unset).toArray = ls at hl ⊢
  have hl : lv_has ls 4 [(0, .ref (ad 387))] := hl
  have hS : va_S (AA ad) s.heap s.heap [] := va_S.rf
  have hF : Fr L_X12_crowded σ0 σ0 := Fr.rf
  have hA := A_X12_crowded p l e s m _ below meth c D cA ad σ0 C  26
  have K15 := hA
  clear hA
  obtain ⟨hx, hb, _, hown, hts, _, hk, hr, _, _⟩ := C
  refine lv_aload_n hx hb dX12_crowded_0 rfl (lv_at hl 0 rfl) ?_
  refine r_iconst hx hb dX12_crowded_1 (by decide) (fun z1 ez1 => ?_)
  refine fp_12_0 (k := 387) hx hb hts in_X12_crowded_12 hown hK hP (by decide) (by decide) (hts _ lk_X12_crowded_1) hI hR hS (by omega) dX12_crowded_2 (fun σ2 H2 locs2 u2 v2 hR hP hS => ?_)
  have hF := hF.puts u2 0 rfl (by decide) (by decide) (by decide) (by decide)
  refine lv_aload_n hx hb dX12_crowded_5 rfl (lv_at hl 0 rfl) ?_
  refine r_cVv (k := 387) (As := []) (rest := []) ⟨hx, hb, hml, hown, hts⟩ hK hP hN hS (c_X12_asNow l D cA ad hI σ2 τ0 hR) (cwV 0 hts gX12_crowded_X12_asNow rfl rfl rfl (by decide +kernel) ⟨by decide, by decide⟩) (rv_M hK hP (by decide) (by decide)) rfl hl.1 rfl (Nat.le_of_ble_eq_true rfl) dX12_crowded_6 (Nat.zero_le _) (Nat.zero_le _) (fun u3 H3 locs3 hp3 hP hS => ?_)
  obtain ⟨σ3, τ3⟩ := u3
  obtain ⟨hR, f3⟩ : P_X12_asNow σ2 σ3 := hp3
  have hP : va_P D vwCl (gw cA ad σ3 τ3) H3 := hP
  have hF := hF.step f3 (by decide)
  refine r_iconst hx hb dX12_crowded_9 (by decide) (fun z4 ez4 => ?_)
  refine lv_istore_n (lv' := [(1, .int z4), (0, .ref (ad 387))]) hx hb dX12_crowded_10 rfl hl (by decide) rfl (fun ls hl => ?_)
  refine r_iconst hx hb dX12_crowded_11 (by decide) (fun z5 ez5 => ?_)
  refine lv_istore_n (lv' := [(2, .int z5), (1, .int z4), (0, .ref (ad 387))]) hx hb dX12_crowded_12 rfl hl (by decide) rfl (fun ls hl => ?_)
  refine r_iconst hx hb dX12_crowded_13 (by decide) (fun z6 ez6 => ?_)
  refine lv_istore_n (lv' := [(3, .int z6), (2, .int z5), (1, .int z4), (0, .ref (ad 387))]) hx hb dX12_crowded_14 rfl hl (by decide) rfl (fun ls hl => ?_)
  exact K15 σ3 τ3 H3 locs3 z4 z5 z6 ls hR hF hP hS (by omega) (by omega) (lv_sub hl [3, 2, 1, 0] rfl) (by omega)
theorem in_X12_isBetter_12 : ∀ w ∈ u_ws RX12 TX12 47, w ∈ wsX12_isBetter := by decide +kernel
theorem lk_X12_isBetter_33 : Cond.fieldLink RX12 33 "CuckooSharesModel" "s" "[I" ∈ wsX12_isBetter := by decide +kernel
abbrev L_X12_isBetter : List Rc := [(394, 394, 0, 7), (395, 395, 0, 7), (396, 396, 0, 7), (387, 387, 26, 26), (397, 397, 0, 7)]
def P_X12_isBetter (σ0 : Nat → Nat → Int32) (a1 : Int32) (a2 : Int32) (r : Int32) (σ : Nat → Nat → Int32) : Prop := Rg σ ∧ Fr L_X12_isBetter σ0 σ ∧ (0 ≤ r.toInt ∧ r.toInt ≤ 1)
set_option maxHeartbeats 4000000 in
theorem c_X12_isBetter (l : Launch) (D : va_G) (cA : Nat → ClassId) (ad : Nat → Nat) (hI : Inj ad) (σ0 : Nat → Nat → Int32) (τ0 : Nat → Nat → Int64) (hR : Rg σ0) (a1 : Int32) (a2 : Int32) (ha1 : 0 ≤ a1.toInt ∧ a1.toInt ≤ 7) (ha2 : 1 ≤ a2.toInt ∧ a2.toInt ≤ 7) : Met l yX12_isBetter wsX12_isBetter ({ frames := 7, cells := 0, slots := 0, locals := 163 } : Room) (WQc D cA ad [.ref (ad 387), .int a1, .int a2] σ0 τ0) (va_Qi (fun (r : Int32) (u : SS) => P_X12_isBetter σ0 a1 a2 r u.1) (WB D cA ad) (AA ad)) 0 0 (AA ad) := by
  refine Met.ofW (cc := cX12_isBetter) (maxL := 5) (ret := (some .boolean)) (by decide) rfl ?_
  intro p e s m args below meth c s₁ B hml hv
  obtain ⟨rfl, hP, hK, hN⟩ := hv
  have C : Cy p s m _ meth c cX12_isBetter 5 wsX12_isBetter RX12 D cA ad (some .boolean) := ⟨B.exec, B.bytes, hml, findClass_of_methodNamed B.named, atoms_spec (ws := wsX12_isBetter) B.pre, hK, B.notSynchronized, B.returns, hI, hN⟩
  have hl := lv_entry ([.ref (ad 387), .int a1, .int a2]) (n := 5) (Nat.le_of_ble_eq_true rfl)
  rw [lg_entry_eq]
  generalize (lg_sl ([.ref (ad 387), .int a1, .int a2]) ++ List.replicate (5 - (lg_sl ([.ref (ad 387), .int a1, .int a2])).length) Slot.unset).toArray = ls at hl ⊢
  have hl : lv_has ls 5 [(0, .ref (ad 387)), (1, .int a1), (2, .int a2)] := hl
  have hS : va_S (AA ad) s.heap s.heap [] := va_S.rf
  have hF : Fr L_X12_isBetter σ0 σ0 := Fr.rf
  obtain ⟨hx, hb, _, hown, hts, _, hk, hr, _, _⟩ := C
  refine lv_aload_n hx hb dX12_isBetter_0 rfl (lv_at hl 0 rfl) ?_
  refine r_cVv (k := 387) (As := []) (rest := []) ⟨hx, hb, hml, hown, hts⟩ hK hP hN hS (c_X12_asNow l D cA ad hI σ0 τ0 hR) (cwV 0 hts gX12_isBetter_X12_asNow rfl rfl rfl (by decide +kernel) ⟨by decide, by decide⟩) (rv_M hK hP (by decide) (by decide)) rfl hl.1 rfl (Nat.le_of_ble_eq_true rfl) dX12_isBetter_1 (Nat.zero_le _) (Nat.zero_le _) (fun u1 H1 locs1 hp1 hP hS => ?_)
  obtain ⟨σ1, τ1⟩ := u1
  obtain ⟨hR, f1⟩ : P_X12_asNow σ0 σ1 := hp1
  have hP : va_P D vwCl (gw cA ad σ1 τ1) H1 := hP
  have hF := hF.step f1 (by decide)
  refine lv_aload_n hx hb dX12_isBetter_4 rfl (lv_at hl 0 rfl) ?_
  refine lv_iload_n hx hb dX12_isBetter_5 rfl (lv_at hl 1 rfl) ?_
  refine r_cVi (k := 387) (As := [.int a1]) (rest := []) ⟨hx, hb, hml, hown, hts⟩ hK hP hN hS (c_X12_meanOf l D cA ad hI σ1 τ1 hR a1 (by omega)) (cwV 1 hts gX12_isBetter_X12_meanOf rfl rfl rfl (by decide +kernel) ⟨by decide, by decide⟩) (rv_M hK hP (by decide) (by decide)) rfl hl.1 rfl (Nat.le_of_ble_eq_true rfl) dX12_isBetter_6 (Nat.zero_le _) (Nat.zero_le _) (fun r2 u2 H2 locs2 hp2 hP hS => ?_)
  obtain ⟨σ2, τ2⟩ := u2
  obtain ⟨hR, f2⟩ : P_X12_meanOf σ1 a1 r2 σ2 := hp2
  have hP : va_P D vwCl (gw cA ad σ2 τ2) H2 := hP
  have hF := hF.step f2 (by decide)
  refine lv_istore_n (lv' := [(3, .int r2), (0, .ref (ad 387)), (1, .int a1), (2, .int a2)]) hx hb dX12_isBetter_9 rfl hl (by decide) rfl (fun ls hl => ?_)
  refine lv_aload_n hx hb dX12_isBetter_10 rfl (lv_at hl 1 rfl) ?_
  refine lv_iload_n hx hb dX12_isBetter_11 rfl (lv_at hl 3 rfl) ?_
  refine r_cVi (k := 387) (As := [.int a2]) (rest := []) ⟨hx, hb, hml, hown, hts⟩ hK hP hN hS (c_X12_meanOf l D cA ad hI σ2 τ2 hR a2 (by omega)) (cwV 1 hts gX12_isBetter_X12_meanOf rfl rfl rfl (by decide +kernel) ⟨by decide, by decide⟩) (rv_M hK hP (by decide) (by decide)) rfl hl.1 rfl (Nat.le_of_ble_eq_true rfl) dX12_isBetter_12 (Nat.zero_le _) (Nat.zero_le _) (fun r3 u3 H3 locs3 hp3 hP hS => ?_)
  obtain ⟨σ3, τ3⟩ := u3
  obtain ⟨hR, f3⟩ : P_X12_meanOf σ2 a2 r3 σ3 := hp3
  have hP : va_P D vwCl (gw cA ad σ3 τ3) H3 := hP
  have hF := hF.step f3 (by decide)
  refine lv_istore (lv' := [(4, .int r3), (3, .int r2), (0, .ref (ad 387)), (1, .int a1), (2, .int a2)]) hx hb dX12_isBetter_15 hl (by decide) rfl (fun ls hl => ?_)
  refine lv_aload_n hx hb dX12_isBetter_17 rfl (lv_at hl 2 rfl) ?_
  refine lv_iload_n hx hb dX12_isBetter_18 rfl (lv_at hl 3 rfl) ?_
  refine lv_aload_n hx hb dX12_isBetter_19 rfl (lv_at hl 2 rfl) ?_
  refine fg_12_6 (k := 387) hx hb hts in_X12_isBetter_12 hown hK hP (by decide) (by decide) (hts _ lk_X12_isBetter_33) dX12_isBetter_20 ?_
  refine r_sipush hx hb dX12_isBetter_23 (by decide) (fun z4 ez4 => ?_)
  refine lv_iload_n hx hb dX12_isBetter_26 rfl (lv_at hl 4 rfl) ?_
  refine r_iadd hx hb dX12_isBetter_27 (by omega) (fun z5 ez5 => ?_)
  obtain ⟨j6, ej6⟩ : ∃ j : Nat, z5.toInt = (j : Int) := ⟨_, ti_nat (by omega)⟩
  refine ad_ms (k := 389) (j := j6) hx hb hK hP (by decide) (by decide) ej6 (by omega) dX12_isBetter_28 ?_
  have hr7 := ra_ms_6 hR (k := 389) (j := j6) (by decide) (by decide) (by omega) (by omega)
  refine r_cVv (k := 387) (As := [.int a1, .int (σ3 389 j6)]) (rest := []) ⟨hx, hb, hml, hown, hts⟩ hK hP hN hS (c_X12_stands l D cA ad hI σ3 τ3 hR a1 (σ3 389 j6) (by omega) (by omega)) (cwV 2 hts gX12_isBetter_X12_stands rfl rfl rfl (by decide +kernel) ⟨by decide, by decide⟩) (rv_M hK hP (by decide) (by decide)) rfl hl.1 rfl (Nat.le_of_ble_eq_true rfl) dX12_isBetter_29 (Nat.zero_le _) (Nat.zero_le _) (fun u8 H8 locs8 hp8 hP hS => ?_)
  obtain ⟨σ8, τ8⟩ := u8
  obtain ⟨hR, f8⟩ : P_X12_stands σ3 a1 (σ3 389 j6) σ8 := hp8
  have hP : va_P D vwCl (gw cA ad σ8 τ8) H8 := hP
  have hF := hF.step f8 (by decide)
  refine lv_aload_n hx hb dX12_isBetter_32 rfl (lv_at hl 2 rfl) ?_
  refine lv_iload_n hx hb dX12_isBetter_33 rfl (lv_at hl 4 rfl) ?_
  refine lv_aload_n hx hb dX12_isBetter_34 rfl (lv_at hl 2 rfl) ?_
  refine fg_12_6 (k := 387) hx hb hts in_X12_isBetter_12 hown hK hP (by decide) (by decide) (hts _ lk_X12_isBetter_33) dX12_isBetter_35 ?_
  refine r_sipush hx hb dX12_isBetter_38 (by decide) (fun z9 ez9 => ?_)
  refine lv_iload_n hx hb dX12_isBetter_41 rfl (lv_at hl 3 rfl) ?_
  refine r_iadd hx hb dX12_isBetter_42 (by omega) (fun z10 ez10 => ?_)
  obtain ⟨j11, ej11⟩ : ∃ j : Nat, z10.toInt = (j : Int) := ⟨_, ti_nat (by omega)⟩
  refine ad_ms (k := 389) (j := j11) hx hb hK hP (by decide) (by decide) ej11 (by omega) dX12_isBetter_43 ?_
  have hr12 := ra_ms_6 hR (k := 389) (j := j11) (by decide) (by decide) (by omega) (by omega)
  refine r_cVv (k := 387) (As := [.int a2, .int (σ8 389 j11)]) (rest := []) ⟨hx, hb, hml, hown, hts⟩ hK hP hN hS (c_X12_stands l D cA ad hI σ8 τ8 hR a2 (σ8 389 j11) (by omega) (by omega)) (cwV 2 hts gX12_isBetter_X12_stands rfl rfl rfl (by decide +kernel) ⟨by decide, by decide⟩) (rv_M hK hP (by decide) (by decide)) rfl hl.1 rfl (Nat.le_of_ble_eq_true rfl) dX12_isBetter_44 (Nat.zero_le _) (Nat.zero_le _) (fun u13 H13 locs13 hp13 hP hS => ?_)
  obtain ⟨σ13, τ13⟩ := u13
  obtain ⟨hR, f13⟩ : P_X12_stands σ8 a2 (σ8 389 j11) σ13 := hp13
  have hP : va_P D vwCl (gw cA ad σ13 τ13) H13 := hP
  have hF := hF.step f13 (by decide)
  refine lv_aload_n hx hb dX12_isBetter_47 rfl (lv_at hl 2 rfl) ?_
  refine lv_iload_n hx hb dX12_isBetter_48 rfl (lv_at hl 3 rfl) ?_
  refine r_cVi (k := 387) (As := [.int a1]) (rest := []) ⟨hx, hb, hml, hown, hts⟩ hK hP hN hS (c_X12_meanOf l D cA ad hI σ13 τ13 hR a1 (by omega)) (cwV 1 hts gX12_isBetter_X12_meanOf rfl rfl rfl (by decide +kernel) ⟨by decide, by decide⟩) (rv_M hK hP (by decide) (by decide)) rfl hl.1 rfl (Nat.le_of_ble_eq_true rfl) dX12_isBetter_49 (Nat.zero_le _) (Nat.zero_le _) (fun r14 u14 H14 locs14 hp14 hP hS => ?_)
  obtain ⟨σ14, τ14⟩ := u14
  obtain ⟨hR, f14⟩ : P_X12_meanOf σ13 a1 r14 σ14 := hp14
  have hP : va_P D vwCl (gw cA ad σ14 τ14) H14 := hP
  have hF := hF.step f14 (by decide)
  refine lv_iload_n hx hb dX12_isBetter_52 rfl (lv_at hl 1 rfl) ?_
  refine r_icmp_le (tgt := 70) hx hb dX12_isBetter_53 (by decide) (fun c15 => ?_) (fun c15 => ?_)
  · refine r_iconst hx hb dX12_isBetter_70 (by decide) (fun z16 ez16 => ?_)
    exact r_zret hx hb hr hK hP hS hk (by omega) dX12_isBetter_71 (show P_X12_isBetter σ0 a1 a2 z16 σ14 from ⟨hR, hF, by omega⟩)
  · refine lv_aload_n hx hb dX12_isBetter_56 rfl (lv_at hl 2 rfl) ?_
    refine lv_iload_n hx hb dX12_isBetter_57 rfl (lv_at hl 4 rfl) ?_
    refine r_cVi (k := 387) (As := [.int a2]) (rest := []) ⟨hx, hb, hml, hown, hts⟩ hK hP hN hS (c_X12_meanOf l D cA ad hI σ14 τ14 hR a2 (by omega)) (cwV 1 hts gX12_isBetter_X12_meanOf rfl rfl rfl (by decide +kernel) ⟨by decide, by decide⟩) (rv_M hK hP (by decide) (by decide)) rfl hl.1 rfl (Nat.le_of_ble_eq_true rfl) dX12_isBetter_58 (Nat.zero_le _) (Nat.zero_le _) (fun r17 u17 H17 locs17 hp17 hP hS => ?_)
    obtain ⟨σ17, τ17⟩ := u17
    obtain ⟨hR, f17⟩ : P_X12_meanOf σ14 a2 r17 σ17 := hp17
    have hP : va_P D vwCl (gw cA ad σ17 τ17) H17 := hP
    have hF := hF.step f17 (by decide)
    refine lv_iload hx hb dX12_isBetter_61 (lv_at hl 0 rfl) ?_
    refine r_icmp_le (tgt := 70) hx hb dX12_isBetter_63 (by decide) (fun c18 => ?_) (fun c18 => ?_)
    · refine r_iconst hx hb dX12_isBetter_70 (by decide) (fun z19 ez19 => ?_)
      exact r_zret hx hb hr hK hP hS hk (by omega) dX12_isBetter_71 (show P_X12_isBetter σ0 a1 a2 z19 σ17 from ⟨hR, hF, by omega⟩)
    · refine r_iconst hx hb dX12_isBetter_66 (by decide) (fun z20 ez20 => ?_)
      refine lv_goto (tgt := 71) hx hb dX12_isBetter_67 (by decide) ?_
      exact r_zret hx hb hr hK hP hS hk (by omega) dX12_isBetter_71 (show P_X12_isBetter σ0 a1 a2 z20 σ17 from ⟨hR, hF, by omega⟩)
theorem in_X12_swaps_12 : ∀ w ∈ u_ws RX12 TX12 47, w ∈ wsX12_swaps := by decide +kernel
theorem lk_X12_swaps_1 : Cond.fieldLink RX12 1 "CuckooSharesModel" "thrown" "I" ∈ wsX12_swaps := by decide +kernel
theorem lk_X12_swaps_33 : Cond.fieldLink RX12 33 "CuckooSharesModel" "s" "[I" ∈ wsX12_swaps := by decide +kernel
abbrev L_X12_swaps : List Rc := [(387, 387, 0, 0), (394, 394, 0, 7), (395, 395, 0, 7), (396, 396, 0, 7), (387, 387, 26, 26), (397, 397, 0, 7)]
def P_X12_swaps (σ0 : Nat → Nat → Int32) (a1 : Int32) (r : Int32) (σ : Nat → Nat → Int32) : Prop := Rg σ ∧ Fr L_X12_swaps σ0 σ
def J_X12_swaps_25 (p : Program) (l : Launch) (e : Env) (s : State) (m : MethodId) (args : Array Value) (below : List Frame) (meth : Method) (c : Code) (D : va_G) (cA : Nat → ClassId) (ad : Nat → Nat) (σ0 : Nat → Nat → Int32) (a1 : Int32) (n : Nat) : Prop := ∀ (σ : Nat → Nat → Int32) (τ : Nat → Nat → Int64) (H : Heap) (locs : List Loc) (x2 : Int32) (x3 : Int32) (ls : Array Slot), Rg σ → Fr L_X12_swaps σ0 σ → va_P D vwCl (gw cA ad σ τ) H → va_S (AA ad) s.heap H locs → (-1 ≤ a1.toInt) → (0 ≤ x3.toInt ∧ x3.toInt ≤ 8) → lv_has ls 5 [(0, .ref (ad 387)), (1, .int a1), (2, .int x2), (3, .int x3)] → 19 * (8 - x3.toInt) + 18 < (n : Int) → W p l e ({ frames := 8, cells := 0, slots := 0, locals := 187 } : Room) s m args below meth c H locs 0 0 (MQ below (va_Qi (fun (r : Int32) (u : SS) => P_X12_swaps σ0 a1 r u.1) (WB D cA ad) (AA ad)) args s 0 0 (AA ad)) (F0 m 25 ls [])
def J_X12_swaps_40 (p : Program) (l : Launch) (e : Env) (s : State) (m : MethodId) (args : Array Value) (below : List Frame) (meth : Method) (c : Code) (D : va_G) (cA : Nat → ClassId) (ad : Nat → Nat) (σ0 : Nat → Nat → Int32) (a1 : Int32) (n : Nat) : Prop := ∀ (σ : Nat → Nat → Int32) (τ : Nat → Nat → Int64) (H : Heap) (locs : List Loc) (x2 : Int32) (x3 : Int32) (x4 : Int32) (ls : Array Slot), Rg σ → Fr L_X12_swaps σ0 σ → va_P D vwCl (gw cA ad σ τ) H → va_S (AA ad) s.heap H locs → (-1 ≤ a1.toInt) → (0 ≤ x3.toInt ∧ x3.toInt ≤ 7) → (1 ≤ x4.toInt ∧ x4.toInt ≤ 8) → lv_has ls 5 [(0, .ref (ad 387)), (1, .int a1), (2, .int x2), (3, .int x3), (4, .int x4)] → 2 * (8 - x4.toInt) + 19 * (8 - x3.toInt) + 1 < (n : Int) → W p l e ({ frames := 8, cells := 0, slots := 0, locals := 187 } : Room) s m args below meth c H locs 0 0 (MQ below (va_Qi (fun (r : Int32) (u : SS) => P_X12_swaps σ0 a1 r u.1) (WB D cA ad) (AA ad)) args s 0 0 (AA ad)) (F0 m 40 ls [])
set_option maxHeartbeats 4000000 in
theorem B_X12_swaps_25 (p : Program) (l : Launch) (e : Env) (s : State) (m : MethodId) (args : Array Value) (below : List Frame) (meth : Method) (c : Code) (D : va_G) (cA : Nat → ClassId) (ad : Nat → Nat) (σ0 : Nat → Nat → Int32) (a1 : Int32) (n : Nat) (C : Cy p s m args meth c cX12_swaps 5 wsX12_swaps RX12 D cA ad (some .int))  (K25 : J_X12_swaps_25 p l e s m args below meth c D cA ad σ0 a1 n) (K40 : J_X12_swaps_40 p l e s m args below meth c D cA ad σ0 a1 n) : J_X12_swaps_25 p l e s m args below meth c D cA ad σ0 a1 (n + 1) := by
  obtain ⟨hx, hb, hml, hown, hts, hK, hk, hr, hI, hN⟩ := C
  intro σ τ H locs x2 x3 ls hR hF hP hS hc0 hc1 hl hm
  refine lv_iload_n hx hb dX12_swaps_25 rfl (lv_at hl 3 rfl) ?_
  refine lv_aload_n hx hb dX12_swaps_26 rfl (lv_at hl 0 rfl) ?_
  refine fg_12_6 (k := 387) hx hb hts in_X12_swaps_12 hown hK hP (by decide) (by decide) (hts _ lk_X12_swaps_33) dX12_swaps_27 ?_
  refine r_iconst hx hb dX12_swaps_30 (by decide) (fun z1 ez1 => ?_)
  refine ad_ms (k := 389) (j := 1) hx hb hK hP (by decide) (by decide) (by omega) (by omega) dX12_swaps_31 ?_
  have hr2 := ra_ms_0 hR (k := 389) (j := 1) (by decide) (by decide) (by decide) (by decide)
  refine r_icmp_ge (tgt := 92) hx hb dX12_swaps_32 (by decide) (fun c3 => ?_) (fun c3 => ?_)
  · refine lv_iload_n hx hb dX12_swaps_92 rfl (lv_at hl 1 rfl) ?_
    refine r_iconst hx hb dX12_swaps_93 (by decide) (fun z4 ez4 => ?_)
    refine r_icmp_ne (tgt := 101) hx hb dX12_swaps_94 (by decide) (fun c5 => ?_) (fun c5 => ?_)
    · refine r_iconst hx hb dX12_swaps_101 (by decide) (fun z6 ez6 => ?_)
      exact r_iret hx hb hr hK hP hS hk dX12_swaps_102 (show P_X12_swaps σ0 a1 z6 σ from ⟨hR, hF⟩)
    · refine lv_iload_n hx hb dX12_swaps_97 rfl (lv_at hl 2 rfl) ?_
      refine lv_goto (tgt := 102) hx hb dX12_swaps_98 (by decide) ?_
      exact r_iret hx hb hr hK hP hS hk dX12_swaps_102 (show P_X12_swaps σ0 a1 x2 σ from ⟨hR, hF⟩)
  · refine lv_iload_n hx hb dX12_swaps_35 rfl (lv_at hl 3 rfl) ?_
    refine r_iconst hx hb dX12_swaps_36 (by decide) (fun z7 ez7 => ?_)
    refine r_iadd hx hb dX12_swaps_37 (by omega) (fun z8 ez8 => ?_)
    refine lv_istore (lv' := [(4, .int z8), (0, .ref (ad 387)), (1, .int a1), (2, .int x2), (3, .int x3)]) hx hb dX12_swaps_38 hl (by decide) rfl (fun ls hl => ?_)
    exact K40 σ τ H locs x2 x3 z8 ls hR hF hP hS (by omega) (by omega) (by omega) (lv_sub hl [1, 2, 3, 4, 0] rfl) (by omega)
set_option maxHeartbeats 4000000 in
theorem B_X12_swaps_40 (p : Program) (l : Launch) (e : Env) (s : State) (m : MethodId) (args : Array Value) (below : List Frame) (meth : Method) (c : Code) (D : va_G) (cA : Nat → ClassId) (ad : Nat → Nat) (σ0 : Nat → Nat → Int32) (a1 : Int32) (n : Nat) (C : Cy p s m args meth c cX12_swaps 5 wsX12_swaps RX12 D cA ad (some .int))  (K25 : J_X12_swaps_25 p l e s m args below meth c D cA ad σ0 a1 n) (K40 : J_X12_swaps_40 p l e s m args below meth c D cA ad σ0 a1 n) : J_X12_swaps_40 p l e s m args below meth c D cA ad σ0 a1 (n + 1) := by
  obtain ⟨hx, hb, hml, hown, hts, hK, hk, hr, hI, hN⟩ := C
  intro σ τ H locs x2 x3 x4 ls hR hF hP hS hc0 hc1 hc2 hl hm
  refine lv_iload hx hb dX12_swaps_40 (lv_at hl 4 rfl) ?_
  refine lv_aload_n hx hb dX12_swaps_42 rfl (lv_at hl 0 rfl) ?_
  refine fg_12_6 (k := 387) hx hb hts in_X12_swaps_12 hown hK hP (by decide) (by decide) (hts _ lk_X12_swaps_33) dX12_swaps_43 ?_
  refine r_iconst hx hb dX12_swaps_46 (by decide) (fun z1 ez1 => ?_)
  refine ad_ms (k := 389) (j := 1) hx hb hK hP (by decide) (by decide) (by omega) (by omega) dX12_swaps_47 ?_
  have hr2 := ra_ms_0 hR (k := 389) (j := 1) (by decide) (by decide) (by decide) (by decide)
  refine r_icmp_ge (tgt := 86) hx hb dX12_swaps_48 (by decide) (fun c3 => ?_) (fun c3 => ?_)
  · refine r_iinc (k := 3) (lv1 := fun z4 => [(3, .int z4), (0, .ref (ad 387)), (1, .int a1), (2, .int x2), (4, .int x4)]) hx hb dX12_swaps_86 hl rfl (by decide) (fun _ => rfl) (by decide) (by omega) (fun z4 ls ez4 hl => ?_)
    refine lv_goto (tgt := 25) hx hb dX12_swaps_89 (by decide) ?_
    exact K25 σ τ H locs x2 z4 ls hR hF hP hS (by omega) (by omega) (lv_sub hl [1, 2, 3, 0] rfl) (by omega)
  · refine lv_aload_n hx hb dX12_swaps_51 rfl (lv_at hl 0 rfl) ?_
    refine lv_iload_n hx hb dX12_swaps_52 rfl (lv_at hl 3 rfl) ?_
    refine lv_iload hx hb dX12_swaps_53 (lv_at hl 4 rfl) ?_
    refine r_cVi (k := 387) (As := [.int x3, .int x4]) (rest := []) ⟨hx, hb, hml, hown, hts⟩ hK hP hN hS (c_X12_isBetter l D cA ad hI σ τ hR x3 x4 (by omega) (by omega)) (cwV 2 hts gX12_swaps_X12_isBetter rfl rfl rfl (by decide +kernel) ⟨by decide, by decide⟩) (rv_M hK hP (by decide) (by decide)) rfl hl.1 rfl (Nat.le_of_ble_eq_true rfl) dX12_swaps_55 (Nat.zero_le _) (Nat.zero_le _) (fun r5 u5 H5 locs5 hp5 hP hS => ?_)
    obtain ⟨σ5, τ5⟩ := u5
    obtain ⟨hR, f5, hq5⟩ : P_X12_isBetter σ x3 x4 r5 σ5 := hp5
    have hP : va_P D vwCl (gw cA ad σ5 τ5) H5 := hP
    have hF := hF.step f5 (by decide)
    refine r_if_ne (tgt := 64) hx hb dX12_swaps_58 (by decide) (fun c6 => ?_) (fun c6 => ?_)
    · refine lv_iload_n hx hb dX12_swaps_64 rfl (lv_at hl 2 rfl) ?_
      refine lv_iload_n hx hb dX12_swaps_65 rfl (lv_at hl 1 rfl) ?_
      refine r_icmp_ne (tgt := 77) hx hb dX12_swaps_66 (by decide) (fun c7 => ?_) (fun c7 => ?_)
      · refine r_iincU (k := 2) (lv1 := fun z8 => [(2, .int z8), (0, .ref (ad 387)), (1, .int a1), (3, .int x3), (4, .int x4)]) hx hb dX12_swaps_77 hl rfl (by decide) (fun _ => rfl) (fun z8 ls hl => ?_)
        refine r_iinc (k := 4) (lv1 := fun z9 => [(4, .int z9), (2, .int z8), (0, .ref (ad 387)), (1, .int a1), (3, .int x3)]) hx hb dX12_swaps_80 hl rfl (by decide) (fun _ => rfl) (by decide) (by omega) (fun z9 ls ez9 hl => ?_)
        refine lv_goto (tgt := 40) hx hb dX12_swaps_83 (by decide) ?_
        exact K40 σ5 τ5 H5 locs5 z8 x3 z9 ls hR hF hP hS (by omega) (by omega) (by omega) (lv_sub hl [2, 3, 1, 4, 0] rfl) (by omega)
      · refine r_bipush hx hb dX12_swaps_69 (by decide) (fun z10 ez10 => ?_)
        refine lv_iload_n hx hb dX12_swaps_71 rfl (lv_at hl 3 rfl) ?_
        refine r_imulL (n := 10) hx hb dX12_swaps_72 (by omega) (by omega) (fun z11 ez11 => ?_)
        refine lv_iload hx hb dX12_swaps_73 (lv_at hl 4 rfl) ?_
        refine r_iadd hx hb dX12_swaps_75 (by omega) (fun z12 ez12 => ?_)
        exact r_iret hx hb hr hK hP hS hk dX12_swaps_76 (show P_X12_swaps σ0 a1 z12 σ5 from ⟨hR, hF⟩)
    · refine lv_goto (tgt := 80) hx hb dX12_swaps_61 (by decide) ?_
      refine r_iinc (k := 4) (lv1 := fun z13 => [(4, .int z13), (0, .ref (ad 387)), (1, .int a1), (2, .int x2), (3, .int x3)]) hx hb dX12_swaps_80 hl rfl (by decide) (fun _ => rfl) (by decide) (by omega) (fun z13 ls ez13 hl => ?_)
      refine lv_goto (tgt := 40) hx hb dX12_swaps_83 (by decide) ?_
      exact K40 σ5 τ5 H5 locs5 x2 x3 z13 ls hR hF hP hS (by omega) (by omega) (by omega) (lv_sub hl [1, 2, 3, 4, 0] rfl) (by omega)
theorem A_X12_swaps (p : Program) (l : Launch) (e : Env) (s : State) (m : MethodId) (args : Array Value) (below : List Frame) (meth : Method) (c : Code) (D : va_G) (cA : Nat → ClassId) (ad : Nat → Nat) (σ0 : Nat → Nat → Int32) (a1 : Int32) (C : Cy p s m args meth c cX12_swaps 5 wsX12_swaps RX12 D cA ad (some .int))  : ∀ n : Nat, J_X12_swaps_25 p l e s m args below meth c D cA ad σ0 a1 n ∧ J_X12_swaps_40 p l e s m args below meth c D cA ad σ0 a1 n := by
  intro n
  induction n with
  | zero =>
    exact ⟨(by intro σ τ H locs x2 x3 ls hR hF hP hS hc0 hc1 hl hm; exfalso; omega), (by intro σ τ H locs x2 x3 x4 ls hR hF hP hS hc0 hc1 hc2 hl hm; exfalso; omega)⟩
  | succ n ih =>
    exact ⟨B_X12_swaps_25 p l e s m args below meth c D cA ad σ0 a1 n C  ih.1 ih.2, B_X12_swaps_40 p l e s m args below meth c D cA ad σ0 a1 n C  ih.1 ih.2⟩
set_option maxHeartbeats 4000000 in
theorem c_X12_swaps (l : Launch) (D : va_G) (cA : Nat → ClassId) (ad : Nat → Nat) (hI : Inj ad) (σ0 : Nat → Nat → Int32) (τ0 : Nat → Nat → Int64) (hR : Rg σ0) (a1 : Int32)  : Met l yX12_swaps wsX12_swaps ({ frames := 8, cells := 0, slots := 0, locals := 187 } : Room) (WQc D cA ad [.ref (ad 387), .int a1] σ0 τ0) (va_Qi (fun (r : Int32) (u : SS) => P_X12_swaps σ0 a1 r u.1) (WB D cA ad) (AA ad)) 0 0 (AA ad) := by
  refine Met.ofW (cc := cX12_swaps) (maxL := 5) (ret := (some .int)) (by decide) rfl ?_
  intro p e s m args below meth c s₁ B hml hv
  obtain ⟨rfl, hP, hK, hN⟩ := hv
  have C : Cy p s m _ meth c cX12_swaps 5 wsX12_swaps RX12 D cA ad (some .int) := ⟨B.exec, B.bytes, hml, findClass_of_methodNamed B.named, atoms_spec (ws := wsX12_swaps) B.pre, hK, B.notSynchronized, B.returns, hI, hN⟩
  have hl := lv_entry ([.ref (ad 387), .int a1]) (n := 5) (Nat.le_of_ble_eq_true rfl)
  rw [lg_entry_eq]
  generalize (lg_sl ([.ref (ad 387), .int a1]) ++ List.replicate (5 - (lg_sl ([.ref (ad 387), .int a1])).length) Slot.unset).toArray = ls at hl ⊢
  have hl : lv_has ls 5 [(0, .ref (ad 387)), (1, .int a1)] := hl
  have hS : va_S (AA ad) s.heap s.heap [] := va_S.rf
  have hF : Fr L_X12_swaps σ0 σ0 := Fr.rf
  have hA := A_X12_swaps p l e s m _ below meth c D cA ad σ0 a1 C  381
  have K25 := hA.1
  have K40 := hA.2
  clear hA
  obtain ⟨hx, hb, _, hown, hts, _, hk, hr, _, _⟩ := C
  refine lv_aload_n hx hb dX12_swaps_0 rfl (lv_at hl 0 rfl) ?_
  refine r_iconst hx hb dX12_swaps_1 (by decide) (fun z1 ez1 => ?_)
  refine fp_12_0 (k := 387) hx hb hts in_X12_swaps_12 hown hK hP (by decide) (by decide) (hts _ lk_X12_swaps_1) hI hR hS (by omega) dX12_swaps_2 (fun σ2 H2 locs2 u2 v2 hR hP hS => ?_)
  have hF := hF.puts u2 0 rfl (by decide) (by decide) (by decide) (by decide)
  refine lv_aload_n hx hb dX12_swaps_5 rfl (lv_at hl 0 rfl) ?_
  refine fg_12_6 (k := 387) hx hb hts in_X12_swaps_12 hown hK hP (by decide) (by decide) (hts _ lk_X12_swaps_33) dX12_swaps_6 ?_
  refine r_iconst hx hb dX12_swaps_9 (by decide) (fun z3 ez3 => ?_)
  refine ad_ms (k := 389) (j := 2) hx hb hK hP (by decide) (by decide) (by omega) (by omega) dX12_swaps_10 ?_
  have hr4 := ra_ms_1 hR (k := 389) (j := 2) (by decide) (by decide) (by decide) (by decide)
  refine r_if_eq (tgt := 19) hx hb dX12_swaps_11 (by decide) (fun c5 => ?_) (fun c5 => ?_)
  · refine r_iconst hx hb dX12_swaps_19 (by decide) (fun z6 ez6 => ?_)
    exact r_iret hx hb hr hK hP hS hk dX12_swaps_20 (show P_X12_swaps σ0 a1 z6 σ2 from ⟨hR, hF⟩)
  · refine lv_iload_n hx hb dX12_swaps_14 rfl (lv_at hl 1 rfl) ?_
    refine r_iconst hx hb dX12_swaps_15 (by decide) (fun z7 ez7 => ?_)
    refine r_icmp_ge (tgt := 21) hx hb dX12_swaps_16 (by decide) (fun c8 => ?_) (fun c8 => ?_)
    · refine r_iconst hx hb dX12_swaps_21 (by decide) (fun z9 ez9 => ?_)
      refine lv_istore_n (lv' := [(2, .int z9), (0, .ref (ad 387)), (1, .int a1)]) hx hb dX12_swaps_22 rfl hl (by decide) rfl (fun ls hl => ?_)
      refine r_iconst hx hb dX12_swaps_23 (by decide) (fun z10 ez10 => ?_)
      refine lv_istore_n (lv' := [(3, .int z10), (2, .int z9), (0, .ref (ad 387)), (1, .int a1)]) hx hb dX12_swaps_24 rfl hl (by decide) rfl (fun ls hl => ?_)
      exact K25 σ2 τ0 H2 locs2 z9 z10 ls hR hF hP hS (by omega) (by omega) (lv_sub hl [2, 3, 1, 0] rfl) (by omega)
    · refine r_iconst hx hb dX12_swaps_19 (by decide) (fun z11 ez11 => ?_)
      exact r_iret hx hb hr hK hP hS hk dX12_swaps_20 (show P_X12_swaps σ0 a1 z11 σ2 from ⟨hR, hF⟩)
theorem in_X12_draw_12 : ∀ w ∈ u_ws RX12 TX12 47, w ∈ wsX12_draw := by decide +kernel
theorem lk_X12_draw_400 : Cond.fieldLink RX12 400 "CuckooSharesModel" "seed" "I" ∈ wsX12_draw := by decide +kernel
theorem lk_X12_draw_403 : Cond.constant RX12 403 (1103515245) ∈ wsX12_draw := by decide +kernel
abbrev L_X12_draw : List Rc := [(387, 387, 33, 33)]
def P_X12_draw (σ0 : Nat → Nat → Int32) (a1 : Int32) (r : Int32) (σ : Nat → Nat → Int32) : Prop := Rg σ ∧ Fr L_X12_draw σ0 σ ∧ (0 ≤ r.toInt) ∧ (0 ≤ r.toInt ∧ r.toInt < a1.toInt)
set_option maxHeartbeats 4000000 in
theorem c_X12_draw (l : Launch) (D : va_G) (cA : Nat → ClassId) (ad : Nat → Nat) (hI : Inj ad) (σ0 : Nat → Nat → Int32) (τ0 : Nat → Nat → Int64) (hR : Rg σ0) (a1 : Int32) (ha1 : 1 ≤ a1.toInt) : Met l yX12_draw wsX12_draw ({ frames := 0, cells := 0, slots := 0, locals := 0 } : Room) (WQc D cA ad [.ref (ad 387), .int a1] σ0 τ0) (va_Qi (fun (r : Int32) (u : SS) => P_X12_draw σ0 a1 r u.1) (WB D cA ad) (AA ad)) 0 0 (AA ad) := by
  refine Met.ofW (cc := cX12_draw) (maxL := 2) (ret := (some .int)) (by decide) rfl ?_
  intro p e s m args below meth c s₁ B hml hv
  obtain ⟨rfl, hP, hK, hN⟩ := hv
  have C : Cy p s m _ meth c cX12_draw 2 wsX12_draw RX12 D cA ad (some .int) := ⟨B.exec, B.bytes, hml, findClass_of_methodNamed B.named, atoms_spec (ws := wsX12_draw) B.pre, hK, B.notSynchronized, B.returns, hI, hN⟩
  have hl := lv_entry ([.ref (ad 387), .int a1]) (n := 2) (Nat.le_of_ble_eq_true rfl)
  rw [lg_entry_eq]
  generalize (lg_sl ([.ref (ad 387), .int a1]) ++ List.replicate (2 - (lg_sl ([.ref (ad 387), .int a1])).length) Slot.unset).toArray = ls at hl ⊢
  have hl : lv_has ls 2 [(0, .ref (ad 387)), (1, .int a1)] := hl
  have hS : va_S (AA ad) s.heap s.heap [] := va_S.rf
  have hF : Fr L_X12_draw σ0 σ0 := Fr.rf
  obtain ⟨hx, hb, _, hown, hts, _, hk, hr, _, _⟩ := C
  refine lv_aload_n hx hb dX12_draw_0 rfl (lv_at hl 0 rfl) ?_
  refine lv_aload_n hx hb dX12_draw_1 rfl (lv_at hl 0 rfl) ?_
  refine fg_12_33 (k := 387) hx hb hts in_X12_draw_12 hown hK hP (by decide) (by decide) (hts _ lk_X12_draw_400) dX12_draw_2 ?_
  refine r_ldcw (v := 1103515245) (n := 1103515245) hx hb hown (hts _ lk_X12_draw_403) dX12_draw_5 (by decide) (fun z1 ez1 => ?_)
  refine r_imulU hx hb dX12_draw_8 (fun z2 => ?_)
  refine r_sipush hx hb dX12_draw_9 (by decide) (fun z3 ez3 => ?_)
  refine r_iaddU hx hb dX12_draw_12 (fun z4 => ?_)
  refine fp_12_33 (k := 387) hx hb hts in_X12_draw_12 hown hK hP (by decide) (by decide) (hts _ lk_X12_draw_400) hI hR hS dX12_draw_13 (fun σ5 H5 locs5 u5 v5 hR hP hS => ?_)
  have hF := hF.puts u5 0 rfl (by decide) (by decide) (by decide) (by decide)
  refine lv_aload_n hx hb dX12_draw_16 rfl (lv_at hl 0 rfl) ?_
  refine fg_12_33 (k := 387) hx hb hts in_X12_draw_12 hown hK hP (by decide) (by decide) (hts _ lk_X12_draw_400) dX12_draw_17 ?_
  refine r_bipush hx hb dX12_draw_20 (by decide) (fun z6 ez6 => ?_)
  refine r_iushr8 hx hb dX12_draw_22 (by omega) (fun z7 ez7 => ?_)
  refine lv_iload_n hx hb dX12_draw_23 rfl (lv_at hl 1 rfl) ?_
  refine r_irem hx hb dX12_draw_24 (by omega) (fun z8 ez8 => ?_)
  have fz8 := ti_tm (a := z7.toInt) (b := a1.toInt) (by omega)
  exact r_iret hx hb hr hK hP hS hk dX12_draw_25 (show P_X12_draw σ0 a1 z8 σ5 from ⟨hR, hF, by omega, by omega⟩)
theorem in_X12_draws_12 : ∀ w ∈ u_ws RX12 TX12 47, w ∈ wsX12_draws := by decide +kernel
theorem lk_X12_draws_33 : Cond.fieldLink RX12 33 "CuckooSharesModel" "s" "[I" ∈ wsX12_draws := by decide +kernel
theorem lk_X12_draws_400 : Cond.fieldLink RX12 400 "CuckooSharesModel" "seed" "I" ∈ wsX12_draws := by decide +kernel
abbrev L_X12_draws : List Rc := [(387, 387, 33, 33), (394, 394, 0, 7), (395, 395, 0, 7), (396, 396, 0, 7), (387, 387, 26, 26), (397, 397, 0, 7), (389, 389, 211, 221), (389, 389, 230, 245)]
def P_X12_draws (σ0 : Nat → Nat → Int32) (a1 : Int32) (a2 : Int32) (r : Int32) (σ : Nat → Nat → Int32) : Prop := Rg σ ∧ Fr L_X12_draws σ0 σ ∧ (0 ≤ r.toInt ∧ r.toInt ≤ 40)
def J_X12_draws_7 (p : Program) (l : Launch) (e : Env) (s : State) (m : MethodId) (args : Array Value) (below : List Frame) (meth : Method) (c : Code) (D : va_G) (cA : Nat → ClassId) (ad : Nat → Nat) (σ0 : Nat → Nat → Int32) (a1 : Int32) (a2 : Int32) (n : Nat) : Prop := ∀ (σ : Nat → Nat → Int32) (τ : Nat → Nat → Int64) (H : Heap) (locs : List Loc) (x3 : Int32) (ls : Array Slot), Rg σ → Fr L_X12_draws σ0 σ → va_P D vwCl (gw cA ad σ τ) H → va_S (AA ad) s.heap H locs → (0 ≤ x3.toInt ∧ x3.toInt ≤ 40) → (SI σ) → lv_has ls 6 [(0, .ref (ad 387)), (1, .int a1), (2, .int a2), (3, .int x3)] → 131 * (40 - x3.toInt) + 130 < (n : Int) → W p l e ({ frames := 6, cells := 0, slots := 0, locals := 140 } : Room) s m args below meth c H locs 0 0 (MQ below (va_Qi (fun (r : Int32) (u : SS) => P_X12_draws σ0 a1 a2 r u.1) (WB D cA ad) (AA ad)) args s 0 0 (AA ad)) (F0 m 7 ls [])
def J_X12_draws_28 (p : Program) (l : Launch) (e : Env) (s : State) (m : MethodId) (args : Array Value) (below : List Frame) (meth : Method) (c : Code) (D : va_G) (cA : Nat → ClassId) (ad : Nat → Nat) (σ0 : Nat → Nat → Int32) (a1 : Int32) (a2 : Int32) (n : Nat) : Prop := ∀ (σ : Nat → Nat → Int32) (τ : Nat → Nat → Int64) (H : Heap) (locs : List Loc) (x3 : Int32) (x4 : Int32) (ls : Array Slot), Rg σ → Fr L_X12_draws σ0 σ → va_P D vwCl (gw cA ad σ τ) H → va_S (AA ad) s.heap H locs → (0 ≤ x3.toInt ∧ x3.toInt ≤ 39) → (0 ≤ x4.toInt ∧ x4.toInt ≤ 8) → ((σ 389 211).toInt ≤ 98) → (SI σ) → lv_has ls 6 [(0, .ref (ad 387)), (1, .int a1), (2, .int a2), (3, .int x3), (4, .int x4)] → 13 * (8 - x4.toInt) + 131 * (40 - x3.toInt) + 12 < (n : Int) → W p l e ({ frames := 6, cells := 0, slots := 0, locals := 140 } : Room) s m args below meth c H locs 0 0 (MQ below (va_Qi (fun (r : Int32) (u : SS) => P_X12_draws σ0 a1 a2 r u.1) (WB D cA ad) (AA ad)) args s 0 0 (AA ad)) (F0 m 28 ls [])
def J_X12_draws_105 (p : Program) (l : Launch) (e : Env) (s : State) (m : MethodId) (args : Array Value) (below : List Frame) (meth : Method) (c : Code) (D : va_G) (cA : Nat → ClassId) (ad : Nat → Nat) (σ0 : Nat → Nat → Int32) (a1 : Int32) (a2 : Int32) (n : Nat) : Prop := ∀ (σ : Nat → Nat → Int32) (τ : Nat → Nat → Int64) (H : Heap) (locs : List Loc) (x3 : Int32) (x4 : Int32) (x5 : Int32) (ls : Array Slot), Rg σ → Fr L_X12_draws σ0 σ → va_P D vwCl (gw cA ad σ τ) H → va_S (AA ad) s.heap H locs → (0 ≤ x3.toInt ∧ x3.toInt ≤ 39) → (-9 ≤ x4.toInt) → (0 ≤ x5.toInt ∧ x5.toInt ≤ 4) → ((σ 389 211).toInt ≤ 98) → (0 ≤ (σ 389 1).toInt ∧ (σ 389 1).toInt ≤ 8) → (0 ≤ x4.toInt) → (x4.toInt + PSm σ x5.toInt.toNat < PF σ) → (x5.toInt ≤ (σ 389 2).toInt) → (SI σ) → lv_has ls 6 [(0, .ref (ad 387)), (1, .int a1), (2, .int a2), (3, .int x3), (4, .int x4), (5, .int x5)] → 2 * (4 - x5.toInt) + 131 * (40 - x3.toInt) + 1 < (n : Int) → W p l e ({ frames := 6, cells := 0, slots := 0, locals := 140 } : Room) s m args below meth c H locs 0 0 (MQ below (va_Qi (fun (r : Int32) (u : SS) => P_X12_draws σ0 a1 a2 r u.1) (WB D cA ad) (AA ad)) args s 0 0 (AA ad)) (F0 m 105 ls [])
set_option maxHeartbeats 4000000 in
theorem B_X12_draws_7 (p : Program) (l : Launch) (e : Env) (s : State) (m : MethodId) (args : Array Value) (below : List Frame) (meth : Method) (c : Code) (D : va_G) (cA : Nat → ClassId) (ad : Nat → Nat) (σ0 : Nat → Nat → Int32) (a1 : Int32) (a2 : Int32) (n : Nat) (C : Cy p s m args meth c cX12_draws 6 wsX12_draws RX12 D cA ad (some .int)) (ha1 : 1 ≤ a1.toInt ∧ a1.toInt ≤ 40) (hq0 : 1 ≤ (σ0 389 2).toInt) (gSI0 : SI σ0) (K7 : J_X12_draws_7 p l e s m args below meth c D cA ad σ0 a1 a2 n) (K28 : J_X12_draws_28 p l e s m args below meth c D cA ad σ0 a1 a2 n) (K105 : J_X12_draws_105 p l e s m args below meth c D cA ad σ0 a1 a2 n) : J_X12_draws_7 p l e s m args below meth c D cA ad σ0 a1 a2 (n + 1) := by
  obtain ⟨hx, hb, hml, hown, hts, hK, hk, hr, hI, hN⟩ := C
  intro σ τ H locs x3 ls hR hF hP hS hc0 gSI hl hm
  refine lv_iload_n hx hb dX12_draws_7 rfl (lv_at hl 3 rfl) ?_
  refine lv_iload_n hx hb dX12_draws_8 rfl (lv_at hl 1 rfl) ?_
  refine r_icmp_ge (tgt := 167) hx hb dX12_draws_9 (by decide) (fun c1 => ?_) (fun c1 => ?_)
  · refine lv_iload_n hx hb dX12_draws_167 rfl (lv_at hl 3 rfl) ?_
    exact r_iret hx hb hr hK hP hS hk dX12_draws_168 (show P_X12_draws σ0 a1 a2 x3 σ from ⟨hR, hF, by omega⟩)
  · refine lv_aload_n hx hb dX12_draws_12 rfl (lv_at hl 0 rfl) ?_
    refine fg_12_6 (k := 387) hx hb hts in_X12_draws_12 hown hK hP (by decide) (by decide) (hts _ lk_X12_draws_33) dX12_draws_13 ?_
    refine r_sipush hx hb dX12_draws_16 (by decide) (fun z2 ez2 => ?_)
    refine ad_ms (k := 389) (j := 211) hx hb hK hP (by decide) (by decide) (by omega) (by omega) dX12_draws_19 ?_
    refine r_bipush hx hb dX12_draws_20 (by decide) (fun z3 ez3 => ?_)
    refine r_icmp_ge (tgt := 167) hx hb dX12_draws_22 (by decide) (fun c4 => ?_) (fun c4 => ?_)
    · refine lv_iload_n hx hb dX12_draws_167 rfl (lv_at hl 3 rfl) ?_
      exact r_iret hx hb hr hK hP hS hk dX12_draws_168 (show P_X12_draws σ0 a1 a2 x3 σ from ⟨hR, hF, by omega⟩)
    · refine r_iconst hx hb dX12_draws_25 (by decide) (fun z5 ez5 => ?_)
      refine lv_istore (lv' := [(4, .int z5), (0, .ref (ad 387)), (1, .int a1), (2, .int a2), (3, .int x3)]) hx hb dX12_draws_26 hl (by decide) rfl (fun ls hl => ?_)
      exact K28 σ τ H locs x3 z5 ls hR hF hP hS (by omega) (by omega) (by omega) gSI (lv_sub hl [1, 2, 3, 4, 0] rfl) (by omega)
set_option maxHeartbeats 4000000 in
theorem B_X12_draws_28 (p : Program) (l : Launch) (e : Env) (s : State) (m : MethodId) (args : Array Value) (below : List Frame) (meth : Method) (c : Code) (D : va_G) (cA : Nat → ClassId) (ad : Nat → Nat) (σ0 : Nat → Nat → Int32) (a1 : Int32) (a2 : Int32) (n : Nat) (C : Cy p s m args meth c cX12_draws 6 wsX12_draws RX12 D cA ad (some .int)) (ha1 : 1 ≤ a1.toInt ∧ a1.toInt ≤ 40) (hq0 : 1 ≤ (σ0 389 2).toInt) (gSI0 : SI σ0) (K7 : J_X12_draws_7 p l e s m args below meth c D cA ad σ0 a1 a2 n) (K28 : J_X12_draws_28 p l e s m args below meth c D cA ad σ0 a1 a2 n) (K105 : J_X12_draws_105 p l e s m args below meth c D cA ad σ0 a1 a2 n) : J_X12_draws_28 p l e s m args below meth c D cA ad σ0 a1 a2 (n + 1) := by
  obtain ⟨hx, hb, hml, hown, hts, hK, hk, hr, hI, hN⟩ := C
  intro σ τ H locs x3 x4 ls hR hF hP hS hc0 hc1 hc2 gSI hl hm
  refine lv_iload hx hb dX12_draws_28 (lv_at hl 4 rfl) ?_
  refine lv_aload_n hx hb dX12_draws_30 rfl (lv_at hl 0 rfl) ?_
  refine fg_12_6 (k := 387) hx hb hts in_X12_draws_12 hown hK hP (by decide) (by decide) (hts _ lk_X12_draws_33) dX12_draws_31 ?_
  refine r_iconst hx hb dX12_draws_34 (by decide) (fun z1 ez1 => ?_)
  refine ad_ms (k := 389) (j := 1) hx hb hK hP (by decide) (by decide) (by omega) (by omega) dX12_draws_35 ?_
  have hr2 := ra_ms_0 hR (k := 389) (j := 1) (by decide) (by decide) (by decide) (by decide)
  refine r_icmp_ge (tgt := 92) hx hb dX12_draws_36 (by decide) (fun c3 => ?_) (fun c3 => ?_)
  · refine lv_aload_n hx hb dX12_draws_92 rfl (lv_at hl 0 rfl) ?_
    refine lv_aload_n hx hb dX12_draws_93 rfl (lv_at hl 0 rfl) ?_
    refine r_cVi (k := 387) (As := []) (rest := [.ref (ad 387)]) ⟨hx, hb, hml, hown, hts⟩ hK hP hN hS (c_X12_chances l D cA ad hI σ τ hR gSI) (cwV 0 hts gX12_draws_X12_chances rfl rfl rfl (by decide +kernel) ⟨by decide, by decide⟩) (rv_M hK hP (by decide) (by decide)) rfl hl.1 rfl (Nat.le_of_ble_eq_true rfl) dX12_draws_94 (Nat.zero_le _) (Nat.zero_le _) (fun r4 u4 H4 locs4 hp4 hP hS => ?_)
    obtain ⟨σ4, τ4⟩ := u4
    obtain ⟨hR, f4, hq4, hp4_0, hp4_1⟩ : P_X12_chances σ r4 σ4 := hp4
    have hch := hp4_0
    have hcp := hp4_1
    have hP : va_P D vwCl (gw cA ad σ4 τ4) H4 := hP
    obtain rfl := Fr.nil f4
    have h2e := congrArg Int32.toInt (hF.at 389 2 (by decide))
    refine r_cVi (k := 387) (As := [.int r4]) (rest := []) ⟨hx, hb, hml, hown, hts⟩ hK hP hN hS (c_X12_draw l D cA ad hI σ τ4 hR r4 (by omega)) (cwV 1 hts gX12_draws_X12_draw rfl rfl rfl (by decide +kernel) ⟨by decide, by decide⟩) (rv_M hK hP (by decide) (by decide)) rfl hl.1 rfl (Nat.le_of_ble_eq_true rfl) dX12_draws_97 (Nat.zero_le _) (Nat.zero_le _) (fun r5 u5 H5 locs5 hp5 hP hS => ?_)
    obtain ⟨σ5, τ5⟩ := u5
    obtain ⟨hR, f5, hq5, hp5_0⟩ : P_X12_draw σ r4 r5 σ5 := hp5
    have hP : va_P D vwCl (gw cA ad σ5 τ5) H5 := hP
    have hF := hF.step f5 (by decide)
    have gSI := SI.fr gSI hR f5 (by decide)
    have fn6 : PF σ5 = PF σ := PF_fr hR f5 (by decide)
    have t7 : (σ5 389 211).toInt = (σ 389 211).toInt := congrArg Int32.toInt (f5.at 389 211 (by decide))
    have t8 : (σ5 389 1).toInt = (σ 389 1).toInt := congrArg Int32.toInt (f5.at 389 1 (by decide))
    refine lv_istore (lv' := [(4, .int r5), (0, .ref (ad 387)), (1, .int a1), (2, .int a2), (3, .int x3)]) hx hb dX12_draws_100 hl (by decide) rfl (fun ls hl => ?_)
    refine r_iconst hx hb dX12_draws_102 (by decide) (fun z9 ez9 => ?_)
    refine lv_istore (lv' := [(5, .int z9), (4, .int r5), (0, .ref (ad 387)), (1, .int a1), (2, .int a2), (3, .int x3)]) hx hb dX12_draws_103 hl (by decide) rfl (fun ls hl => ?_)
    have h2r := ra_ms_1 hR (k := 389) (j := 2) (by decide) (by decide) (by decide) (by decide)
    exact K105 σ5 τ5 H5 locs5 x3 r5 z9 ls hR hF hP hS (by omega) (by omega) (by omega) (by omega) (by omega) (by omega) (by first | (have e1 : z9.toInt.toNat = (x5.toInt + 1).toNat := (by omega); rw [e1]; omega) | (have e0 : z9.toInt.toNat = 0 := (by omega); rw [e0]; show r5.toInt + 0 < _; omega)) (by omega) gSI (lv_sub hl [2, 3, 4, 5, 1, 0] rfl) (by omega)
  · refine lv_aload_n hx hb dX12_draws_39 rfl (lv_at hl 0 rfl) ?_
    refine r_iconst hx hb dX12_draws_40 (by decide) (fun z10 ez10 => ?_)
    refine r_cVi (k := 387) (As := [.int z10]) (rest := []) ⟨hx, hb, hml, hown, hts⟩ hK hP hN hS (c_X12_draw l D cA ad hI σ τ hR z10 (by omega)) (cwV 1 hts gX12_draws_X12_draw rfl rfl rfl (by decide +kernel) ⟨by decide, by decide⟩) (rv_M hK hP (by decide) (by decide)) rfl hl.1 rfl (Nat.le_of_ble_eq_true rfl) dX12_draws_41 (Nat.zero_le _) (Nat.zero_le _) (fun r11 u11 H11 locs11 hp11 hP hS => ?_)
    obtain ⟨σ11, τ11⟩ := u11
    obtain ⟨hR, f11, hq11, hp11_0⟩ : P_X12_draw σ z10 r11 σ11 := hp11
    have hP : va_P D vwCl (gw cA ad σ11 τ11) H11 := hP
    have hF := hF.step f11 (by decide)
    have gSI := SI.fr gSI hR f11 (by decide)
    have fn12 : PF σ11 = PF σ := PF_fr hR f11 (by decide)
    have t13 : (σ11 389 211).toInt = (σ 389 211).toInt := congrArg Int32.toInt (f11.at 389 211 (by decide))
    have t14 : (σ11 389 1).toInt = (σ 389 1).toInt := congrArg Int32.toInt (f11.at 389 1 (by decide))
    refine r_if_le (tgt := 50) hx hb dX12_draws_44 (by decide) (fun c15 => ?_) (fun c15 => ?_)
    · refine lv_aload_n hx hb dX12_draws_50 rfl (lv_at hl 0 rfl) ?_
      refine lv_aload_n hx hb dX12_draws_51 rfl (lv_at hl 0 rfl) ?_
      refine fg_12_6 (k := 387) hx hb hts in_X12_draws_12 hown hK hP (by decide) (by decide) (hts _ lk_X12_draws_33) dX12_draws_52 ?_
      refine r_iconst hx hb dX12_draws_55 (by decide) (fun z16 ez16 => ?_)
      refine ad_ms (k := 389) (j := 0) hx hb hK hP (by decide) (by decide) (by omega) (by omega) dX12_draws_56 ?_
      have hr17 := ra_ms_0 hR (k := 389) (j := 0) (by decide) (by decide) (by decide) (by decide)
      have h1e := gSI.2.2
      refine r_cVi (k := 387) (As := [.int (σ11 389 0)]) (rest := []) ⟨hx, hb, hml, hown, hts⟩ hK hP hN hS (c_X12_draw l D cA ad hI σ11 τ11 hR (σ11 389 0) (by omega)) (cwV 1 hts gX12_draws_X12_draw rfl rfl rfl (by decide +kernel) ⟨by decide, by decide⟩) (rv_M hK hP (by decide) (by decide)) rfl hl.1 rfl (Nat.le_of_ble_eq_true rfl) dX12_draws_57 (Nat.zero_le _) (Nat.zero_le _) (fun r18 u18 H18 locs18 hp18 hP hS => ?_)
      obtain ⟨σ18, τ18⟩ := u18
      obtain ⟨hR, f18, hq18, hp18_0⟩ : P_X12_draw σ11 (σ11 389 0) r18 σ18 := hp18
      have hP : va_P D vwCl (gw cA ad σ18 τ18) H18 := hP
      have hF := hF.step f18 (by decide)
      have gSI := SI.fr gSI hR f18 (by decide)
      have fn19 : PF σ18 = PF σ11 := PF_fr hR f18 (by decide)
      have t20 : (σ18 389 211).toInt = (σ11 389 211).toInt := congrArg Int32.toInt (f18.at 389 211 (by decide))
      have t21 : (σ18 389 1).toInt = (σ11 389 1).toInt := congrArg Int32.toInt (f18.at 389 1 (by decide))
      have t22 : (σ18 389 0).toInt = (σ11 389 0).toInt := congrArg Int32.toInt (f18.at 389 0 (by decide))
      refine lv_istore (lv' := [(5, .int r18), (0, .ref (ad 387)), (1, .int a1), (2, .int a2), (3, .int x3), (4, .int x4)]) hx hb dX12_draws_60 hl (by decide) rfl (fun ls hl => ?_)
      refine lv_aload_n hx hb dX12_draws_62 rfl (lv_at hl 1 rfl) ?_
      refine lv_iload hx hb dX12_draws_63 (lv_at hl 5 rfl) ?_
      refine lv_iload hx hb dX12_draws_65 (lv_at hl 0 rfl) ?_
      refine r_cVi (k := 387) (As := [.int x4, .int r18]) (rest := []) ⟨hx, hb, hml, hown, hts⟩ hK hP hN hS (c_X12_whyMove l D cA ad hI σ18 τ18 hR x4 r18 (by omega)) (cwV 2 hts gX12_draws_X12_whyMove rfl rfl rfl (by decide +kernel) ⟨by decide, by decide⟩) (rv_M hK hP (by decide) (by decide)) rfl hl.1 rfl (Nat.le_of_ble_eq_true rfl) dX12_draws_67 (Nat.zero_le _) (Nat.zero_le _) (fun r23 u23 H23 locs23 hp23 hP hS => ?_)
      obtain ⟨σ23, τ23⟩ := u23
      obtain ⟨hR, f23, hq23⟩ : P_X12_whyMove σ18 x4 r18 r23 σ23 := hp23
      have hP : va_P D vwCl (gw cA ad σ23 τ23) H23 := hP
      obtain rfl := Fr.nil f23
      refine r_if_ne (tgt := 86) hx hb dX12_draws_70 (by decide) (fun c24 => ?_) (fun c24 => ?_)
      · refine r_iinc (k := 5) (lv1 := fun z25 => [(4, .int z25), (5, .int r18), (0, .ref (ad 387)), (1, .int a1), (2, .int a2), (3, .int x3)]) hx hb dX12_draws_86 hl rfl (by decide) (fun _ => rfl) (by decide) (by omega) (fun z25 ls ez25 hl => ?_)
        refine lv_goto (tgt := 28) hx hb dX12_draws_89 (by decide) ?_
        exact K28 σ18 τ23 H23 locs23 x3 z25 ls hR hF hP hS (by omega) (by omega) (by omega) gSI (lv_sub hl [2, 3, 4, 5, 0] rfl) (by omega)
      · refine lv_aload_n hx hb dX12_draws_73 rfl (lv_at hl 1 rfl) ?_
        refine fg_12_6 (k := 387) hx hb hts in_X12_draws_12 hown hK hP (by decide) (by decide) (hts _ lk_X12_draws_33) dX12_draws_74 ?_
        refine r_sipush hx hb dX12_draws_77 (by decide) (fun z26 ez26 => ?_)
        refine lv_iload hx hb dX12_draws_80 (lv_at hl 5 rfl) ?_
        refine r_iadd hx hb dX12_draws_82 (by omega) (fun z27 ez27 => ?_)
        refine lv_iload hx hb dX12_draws_83 (lv_at hl 0 rfl) ?_
        obtain ⟨j28, ej28⟩ : ∃ j : Nat, z27.toInt = (j : Int) := ⟨_, ti_nat (by omega)⟩
        refine as_ms (k := 389) (j := j28) hx hb hK hP hI hR hS (by decide) (by decide) ej28 (by omega) (rw_ms_6 (by decide) (by decide) (by omega) (by omega) (by omega)) dX12_draws_85 (fun σ29 H29 locs29 u29 v29 hR hP hS => ?_)
        have hF := hF.puts u29 6 rfl (by decide) (by decide) (by omega) (by omega)
        have gSI := SI.putV gSI hR u29 (by intro q hq; simp only [Gd_SI, List.mem_cons, List.not_mem_nil, or_false] at hq; rcases hq with rfl | rfl | rfl <;> dsimp only [inRc] <;> omega)
        have fn30 : PF σ29 = PF σ18 := PF_putV hR u29 (by intro q hq; simp only [Gd_PF, List.mem_cons, List.not_mem_nil, or_false] at hq; rcases hq with rfl | rfl <;> dsimp only [inRc] <;> omega)
        have t31 : (σ29 389 211).toInt = (σ18 389 211).toInt := congrArg Int32.toInt (u29 389 211 (by omega))
        have t32 : (σ29 389 1).toInt = (σ18 389 1).toInt := congrArg Int32.toInt (u29 389 1 (by omega))
        have t33 : (σ29 389 0).toInt = (σ18 389 0).toInt := congrArg Int32.toInt (u29 389 0 (by omega))
        refine r_iinc (k := 5) (lv1 := fun z34 => [(4, .int z34), (5, .int r18), (0, .ref (ad 387)), (1, .int a1), (2, .int a2), (3, .int x3)]) hx hb dX12_draws_86 hl rfl (by decide) (fun _ => rfl) (by decide) (by omega) (fun z34 ls ez34 hl => ?_)
        refine lv_goto (tgt := 28) hx hb dX12_draws_89 (by decide) ?_
        exact K28 σ29 τ23 H29 locs29 x3 z34 ls hR hF hP hS (by omega) (by omega) (by omega) gSI (lv_sub hl [2, 3, 4, 5, 0] rfl) (by omega)
    · refine lv_goto (tgt := 86) hx hb dX12_draws_47 (by decide) ?_
      refine r_iinc (k := 4) (lv1 := fun z35 => [(4, .int z35), (0, .ref (ad 387)), (1, .int a1), (2, .int a2), (3, .int x3)]) hx hb dX12_draws_86 hl rfl (by decide) (fun _ => rfl) (by decide) (by omega) (fun z35 ls ez35 hl => ?_)
      refine lv_goto (tgt := 28) hx hb dX12_draws_89 (by decide) ?_
      exact K28 σ11 τ11 H11 locs11 x3 z35 ls hR hF hP hS (by omega) (by omega) (by omega) gSI (lv_sub hl [1, 2, 3, 4, 0] rfl) (by omega)
set_option maxHeartbeats 4000000 in
theorem B_X12_draws_105 (p : Program) (l : Launch) (e : Env) (s : State) (m : MethodId) (args : Array Value) (below : List Frame) (meth : Method) (c : Code) (D : va_G) (cA : Nat → ClassId) (ad : Nat → Nat) (σ0 : Nat → Nat → Int32) (a1 : Int32) (a2 : Int32) (n : Nat) (C : Cy p s m args meth c cX12_draws 6 wsX12_draws RX12 D cA ad (some .int)) (ha1 : 1 ≤ a1.toInt ∧ a1.toInt ≤ 40) (hq0 : 1 ≤ (σ0 389 2).toInt) (gSI0 : SI σ0) (K7 : J_X12_draws_7 p l e s m args below meth c D cA ad σ0 a1 a2 n) (K28 : J_X12_draws_28 p l e s m args below meth c D cA ad σ0 a1 a2 n) (K105 : J_X12_draws_105 p l e s m args below meth c D cA ad σ0 a1 a2 n) : J_X12_draws_105 p l e s m args below meth c D cA ad σ0 a1 a2 (n + 1) := by
  obtain ⟨hx, hb, hml, hown, hts, hK, hk, hr, hI, hN⟩ := C
  intro σ τ H locs x3 x4 x5 ls hR hF hP hS hc0 hc1 hc2 hc3 hc4 hi0 hi1 hi2 gSI hl hm
  have h2r := ra_ms_1 hR (k := 389) (j := 2) (by decide) (by decide) (by decide) (by decide)
  have hlt := PF_lt hi0 (by omega) (by omega) hi1
  refine lv_iload hx hb dX12_draws_105 (lv_at hl 4 rfl) ?_
  refine lv_aload_n hx hb dX12_draws_107 rfl (lv_at hl 0 rfl) ?_
  refine fg_12_6 (k := 387) hx hb hts in_X12_draws_12 hown hK hP (by decide) (by decide) (hts _ lk_X12_draws_33) dX12_draws_108 ?_
  refine r_bipush hx hb dX12_draws_111 (by decide) (fun z1 ez1 => ?_)
  refine lv_iload hx hb dX12_draws_113 (lv_at hl 5 rfl) ?_
  refine r_iadd hx hb dX12_draws_115 (by omega) (fun z2 ez2 => ?_)
  obtain ⟨j3, ej3⟩ : ∃ j : Nat, z2.toInt = (j : Int) := ⟨_, ti_nat (by omega)⟩
  refine ad_ms (k := 389) (j := j3) hx hb hK hP (by decide) (by decide) ej3 (by omega) dX12_draws_116 ?_
  have hz := gSI.ch (x := x5) (j := j3) (by omega) (by omega) (by omega)
  refine r_icmp_lt (tgt := 141) hx hb dX12_draws_117 (by decide) (fun c4 => ?_) (fun c4 => ?_)
  · refine lv_aload_n hx hb dX12_draws_141 rfl (lv_at hl 0 rfl) ?_
    refine r_cVv (k := 387) (As := []) (rest := []) ⟨hx, hb, hml, hown, hts⟩ hK hP hN hS (c_X12_asNow l D cA ad hI σ τ hR) (cwV 0 hts gX12_draws_X12_asNow rfl rfl rfl (by decide +kernel) ⟨by decide, by decide⟩) (rv_M hK hP (by decide) (by decide)) rfl hl.1 rfl (Nat.le_of_ble_eq_true rfl) dX12_draws_142 (Nat.zero_le _) (Nat.zero_le _) (fun u5 H5 locs5 hp5 hP hS => ?_)
    obtain ⟨σ5, τ5⟩ := u5
    obtain ⟨hR, f5⟩ : P_X12_asNow σ σ5 := hp5
    have hP : va_P D vwCl (gw cA ad σ5 τ5) H5 := hP
    have hF := hF.step f5 (by decide)
    have gSI := SI.fr gSI hR f5 (by decide)
    have fn6 : PF σ5 = PF σ := PF_fr hR f5 (by decide)
    have t7 : (σ5 389 211).toInt = (σ 389 211).toInt := congrArg Int32.toInt (f5.at 389 211 (by decide))
    have t8 : (σ5 389 1).toInt = (σ 389 1).toInt := congrArg Int32.toInt (f5.at 389 1 (by decide))
    have t9 : (σ5 389 j3).toInt = (σ 389 j3).toInt := congrArg Int32.toInt (f5.atV 389 j3 (by intro q hq; simp only [L_X12_asNow, List.mem_cons, List.not_mem_nil, or_false] at hq; rcases hq with rfl | rfl | rfl <;> dsimp only <;> omega))
    refine lv_aload_n hx hb dX12_draws_145 rfl (lv_at hl 0 rfl) ?_
    refine lv_iload hx hb dX12_draws_146 (lv_at hl 5 rfl) ?_
    refine lv_aload_n hx hb dX12_draws_148 rfl (lv_at hl 0 rfl) ?_
    refine fg_12_6 (k := 387) hx hb hts in_X12_draws_12 hown hK hP (by decide) (by decide) (hts _ lk_X12_draws_33) dX12_draws_149 ?_
    refine r_iconst hx hb dX12_draws_152 (by decide) (fun z10 ez10 => ?_)
    refine ad_ms (k := 389) (j := 4) hx hb hK hP (by decide) (by decide) (by omega) (by omega) dX12_draws_153 ?_
    refine r_cVv (k := 387) (As := [.int x5, .int (σ5 389 4)]) (rest := []) ⟨hx, hb, hml, hown, hts⟩ hK hP hN hS (c_X12_sharesBy l D cA ad hI σ5 τ5 hR x5 (σ5 389 4) (by omega)) (cwV 2 hts gX12_draws_X12_sharesBy rfl rfl rfl (by decide +kernel) ⟨by decide, by decide⟩) (rv_M hK hP (by decide) (by decide)) rfl hl.1 rfl (Nat.le_of_ble_eq_true rfl) dX12_draws_154 (Nat.zero_le _) (Nat.zero_le _) (fun u11 H11 locs11 hp11 hP hS => ?_)
    obtain ⟨σ11, τ11⟩ := u11
    obtain ⟨hR, f11⟩ : P_X12_sharesBy σ5 x5 (σ5 389 4) σ11 := hp11
    have hP : va_P D vwCl (gw cA ad σ11 τ11) H11 := hP
    have hF := hF.step f11 (by decide)
    have gSI := SI.fr gSI hR f11 (by decide)
    have fn12 : PF σ11 = PF σ5 := PF_fr hR f11 (by decide)
    have t13 : (σ11 389 211).toInt = (σ5 389 211).toInt := congrArg Int32.toInt (f11.at 389 211 (by decide))
    have t14 : (σ11 389 1).toInt = (σ5 389 1).toInt := congrArg Int32.toInt (f11.at 389 1 (by decide))
    have t15 : (σ11 389 j3).toInt = (σ5 389 j3).toInt := congrArg Int32.toInt (f11.atV 389 j3 (by intro q hq; simp only [L_X12_sharesBy, List.mem_cons, List.not_mem_nil, or_false] at hq; rcases hq with rfl | rfl <;> dsimp only <;> omega))
    have t16 : (σ11 389 4).toInt = (σ5 389 4).toInt := congrArg Int32.toInt (f11.at 389 4 (by decide))
    refine lv_aload_n hx hb dX12_draws_157 rfl (lv_at hl 0 rfl) ?_
    refine r_cVv (k := 387) (As := []) (rest := []) ⟨hx, hb, hml, hown, hts⟩ hK hP hN hS (c_X12_ends l D cA ad hI σ11 τ11 hR) (cwV 0 hts gX12_draws_X12_ends rfl rfl rfl (by decide +kernel) ⟨by decide, by decide⟩) (rv_M hK hP (by decide) (by decide)) rfl hl.1 rfl (Nat.le_of_ble_eq_true rfl) dX12_draws_158 (Nat.zero_le _) (Nat.zero_le _) (fun u17 H17 locs17 hp17 hP hS => ?_)
    obtain ⟨σ17, τ17⟩ := u17
    obtain ⟨hR, f17⟩ : P_X12_ends σ11 σ17 := hp17
    have hP : va_P D vwCl (gw cA ad σ17 τ17) H17 := hP
    have hF := hF.step f17 (by decide)
    have gSI := SI.fr gSI hR f17 (by decide)
    have fn18 : PF σ17 = PF σ11 := PF_fr hR f17 (by decide)
    have t19 : (σ17 389 1).toInt = (σ11 389 1).toInt := congrArg Int32.toInt (f17.at 389 1 (by decide))
    have t20 : (σ17 389 j3).toInt = (σ11 389 j3).toInt := congrArg Int32.toInt (f17.atV 389 j3 (by intro q hq; simp only [L_X12_ends, List.mem_cons, List.not_mem_nil, or_false] at hq; rcases hq with rfl | rfl <;> dsimp only <;> omega))
    have t21 : (σ17 389 4).toInt = (σ11 389 4).toInt := congrArg Int32.toInt (f17.at 389 4 (by decide))
    refine r_iinc (k := 3) (lv1 := fun z22 => [(3, .int z22), (0, .ref (ad 387)), (1, .int a1), (2, .int a2), (4, .int x4), (5, .int x5)]) hx hb dX12_draws_161 hl rfl (by decide) (fun _ => rfl) (by decide) (by omega) (fun z22 ls ez22 hl => ?_)
    refine lv_goto (tgt := 7) hx hb dX12_draws_164 (by decide) ?_
    exact K7 σ17 τ17 H17 locs17 z22 ls hR hF hP hS (by omega) gSI (lv_sub hl [1, 2, 3, 0] rfl) (by omega)
  · refine lv_iload hx hb dX12_draws_120 (lv_at hl 4 rfl) ?_
    refine lv_aload_n hx hb dX12_draws_122 rfl (lv_at hl 0 rfl) ?_
    refine fg_12_6 (k := 387) hx hb hts in_X12_draws_12 hown hK hP (by decide) (by decide) (hts _ lk_X12_draws_33) dX12_draws_123 ?_
    refine r_bipush hx hb dX12_draws_126 (by decide) (fun z23 ez23 => ?_)
    refine lv_iload hx hb dX12_draws_128 (lv_at hl 5 rfl) ?_
    refine r_iadd hx hb dX12_draws_130 (by omega) (fun z24 ez24 => ?_)
    refine ad_ms (k := 389) (j := j3) hx hb hK hP (by decide) (by decide) (by omega) (by omega) dX12_draws_131 ?_
    have b26 := And.intro (ti_lo x4) (ti_hi x4)
    refine r_isub hx hb dX12_draws_132 (by omega) (fun z25 ez25 => ?_)
    refine lv_istore (lv' := [(4, .int z25), (0, .ref (ad 387)), (1, .int a1), (2, .int a2), (3, .int x3), (5, .int x5)]) hx hb dX12_draws_133 hl (by decide) rfl (fun ls hl => ?_)
    refine r_iinc (k := 5) (lv1 := fun z27 => [(5, .int z27), (4, .int z25), (0, .ref (ad 387)), (1, .int a1), (2, .int a2), (3, .int x3)]) hx hb dX12_draws_135 hl rfl (by decide) (fun _ => rfl) (by decide) (by omega) (fun z27 ls ez27 hl => ?_)
    refine lv_goto (tgt := 105) hx hb dX12_draws_138 (by decide) ?_
    have h2r := ra_ms_1 hR (k := 389) (j := 2) (by decide) (by decide) (by decide) (by decide)
    exact K105 σ τ H locs x3 z25 z27 ls hR hF hP hS (by omega) (by omega) (by omega) (by omega) (by omega) (by omega) (by first | (have e1 : z27.toInt.toNat = (x5.toInt + 1).toNat := (by omega); rw [e1]; omega) | (have e0 : z27.toInt.toNat = 0 := (by omega); rw [e0]; show z25.toInt + 0 < _; omega)) (by omega) gSI (lv_sub hl [2, 3, 4, 5, 1, 0] rfl) (by omega)
theorem A_X12_draws (p : Program) (l : Launch) (e : Env) (s : State) (m : MethodId) (args : Array Value) (below : List Frame) (meth : Method) (c : Code) (D : va_G) (cA : Nat → ClassId) (ad : Nat → Nat) (σ0 : Nat → Nat → Int32) (a1 : Int32) (a2 : Int32) (C : Cy p s m args meth c cX12_draws 6 wsX12_draws RX12 D cA ad (some .int)) (ha1 : 1 ≤ a1.toInt ∧ a1.toInt ≤ 40) (hq0 : 1 ≤ (σ0 389 2).toInt) (gSI0 : SI σ0) : ∀ n : Nat, J_X12_draws_7 p l e s m args below meth c D cA ad σ0 a1 a2 n ∧ J_X12_draws_28 p l e s m args below meth c D cA ad σ0 a1 a2 n ∧ J_X12_draws_105 p l e s m args below meth c D cA ad σ0 a1 a2 n := by
  intro n
  induction n with
  | zero =>
    exact ⟨(by intro σ τ H locs x3 ls hR hF hP hS hc0 gSI hl hm; exfalso; omega), (by intro σ τ H locs x3 x4 ls hR hF hP hS hc0 hc1 hc2 gSI hl hm; exfalso; omega), (by intro σ τ H locs x3 x4 x5 ls hR hF hP hS hc0 hc1 hc2 hc3 hc4 hi0 hi1 hi2 gSI hl hm; exfalso; omega)⟩
  | succ n ih =>
    exact ⟨B_X12_draws_7 p l e s m args below meth c D cA ad σ0 a1 a2 n C ha1 hq0 gSI0 ih.1 ih.2.1 ih.2.2, B_X12_draws_28 p l e s m args below meth c D cA ad σ0 a1 a2 n C ha1 hq0 gSI0 ih.1 ih.2.1 ih.2.2, B_X12_draws_105 p l e s m args below meth c D cA ad σ0 a1 a2 n C ha1 hq0 gSI0 ih.1 ih.2.1 ih.2.2⟩
set_option maxHeartbeats 4000000 in
theorem c_X12_draws (l : Launch) (D : va_G) (cA : Nat → ClassId) (ad : Nat → Nat) (hI : Inj ad) (σ0 : Nat → Nat → Int32) (τ0 : Nat → Nat → Int64) (hR : Rg σ0) (a1 : Int32) (a2 : Int32) (ha1 : 1 ≤ a1.toInt ∧ a1.toInt ≤ 40) (hq0 : 1 ≤ (σ0 389 2).toInt) (gSI0 : SI σ0) : Met l yX12_draws wsX12_draws ({ frames := 6, cells := 0, slots := 0, locals := 140 } : Room) (WQc D cA ad [.ref (ad 387), .int a1, .int a2] σ0 τ0) (va_Qi (fun (r : Int32) (u : SS) => P_X12_draws σ0 a1 a2 r u.1) (WB D cA ad) (AA ad)) 0 0 (AA ad) := by
  refine Met.ofW (cc := cX12_draws) (maxL := 6) (ret := (some .int)) (by decide) rfl ?_
  intro p e s m args below meth c s₁ B hml hv
  obtain ⟨rfl, hP, hK, hN⟩ := hv
  have C : Cy p s m _ meth c cX12_draws 6 wsX12_draws RX12 D cA ad (some .int) := ⟨B.exec, B.bytes, hml, findClass_of_methodNamed B.named, atoms_spec (ws := wsX12_draws) B.pre, hK, B.notSynchronized, B.returns, hI, hN⟩
  have hl := lv_entry ([.ref (ad 387), .int a1, .int a2]) (n := 6) (Nat.le_of_ble_eq_true rfl)
  rw [lg_entry_eq]
  generalize (lg_sl ([.ref (ad 387), .int a1, .int a2]) ++ List.replicate (6 - (lg_sl ([.ref (ad 387), .int a1, .int a2])).length) Slot.unset).toArray = ls at hl ⊢
  have hl : lv_has ls 6 [(0, .ref (ad 387)), (1, .int a1), (2, .int a2)] := hl
  have hS : va_S (AA ad) s.heap s.heap [] := va_S.rf
  have hF : Fr L_X12_draws σ0 σ0 := Fr.rf
  have gSI := gSI0
  have hA := A_X12_draws p l e s m _ below meth c D cA ad σ0 a1 a2 C ha1 hq0 gSI0 11004
  have K7 := hA.1
  have K28 := hA.2.1
  have K105 := hA.2.2
  clear hA
  obtain ⟨hx, hb, _, hown, hts, _, hk, hr, _, _⟩ := C
  refine lv_aload_n hx hb dX12_draws_0 rfl (lv_at hl 0 rfl) ?_
  refine lv_iload_n hx hb dX12_draws_1 rfl (lv_at hl 2 rfl) ?_
  refine fp_12_33 (k := 387) hx hb hts in_X12_draws_12 hown hK hP (by decide) (by decide) (hts _ lk_X12_draws_400) hI hR hS dX12_draws_2 (fun σ1 H1 locs1 u1 v1 hR hP hS => ?_)
  have hF := hF.puts u1 0 rfl (by decide) (by decide) (by decide) (by decide)
  have gSI := SI.put gSI hR u1 (by decide)
  have fn2 : PF σ1 = PF σ0 := PF_put hR u1 (by decide)
  refine r_iconst hx hb dX12_draws_5 (by decide) (fun z3 ez3 => ?_)
  refine lv_istore_n (lv' := [(3, .int z3), (0, .ref (ad 387)), (1, .int a1), (2, .int a2)]) hx hb dX12_draws_6 rfl hl (by decide) rfl (fun ls hl => ?_)
  exact K7 σ1 τ0 H1 locs1 z3 ls hR hF hP hS (by omega) gSI (lv_sub hl [1, 2, 3, 0] rfl) (by omega)
theorem in_X12_drawn_12 : ∀ w ∈ u_ws RX12 TX12 47, w ∈ wsX12_drawn := by decide +kernel
theorem lk_X12_drawn_1 : Cond.fieldLink RX12 1 "CuckooSharesModel" "thrown" "I" ∈ wsX12_drawn := by decide +kernel
theorem lk_X12_drawn_33 : Cond.fieldLink RX12 33 "CuckooSharesModel" "s" "[I" ∈ wsX12_drawn := by decide +kernel
abbrev L_X12_drawn : List Rc := [(387, 387, 0, 0), (387, 387, 33, 33), (387, 387, 29, 29), (398, 398, 0, 279), (394, 394, 0, 7), (395, 395, 0, 7), (396, 396, 0, 7), (387, 387, 26, 26), (397, 397, 0, 7), (389, 389, 211, 221), (389, 389, 230, 245)]
def P_X12_drawn (σ0 : Nat → Nat → Int32) (a1 : Int32) (a2 : Int32) (r : Int32) (σ : Nat → Nat → Int32) : Prop := Rg σ ∧ Fr L_X12_drawn σ0 σ ∧ (-1 ≤ r.toInt ∧ r.toInt ≤ 40)
set_option maxHeartbeats 4000000 in
theorem c_X12_drawn (l : Launch) (D : va_G) (cA : Nat → ClassId) (ad : Nat → Nat) (hI : Inj ad) (σ0 : Nat → Nat → Int32) (τ0 : Nat → Nat → Int64) (hR : Rg σ0) (a1 : Int32) (a2 : Int32) (gSI0 : SI σ0) : Met l yX12_drawn wsX12_drawn ({ frames := 7, cells := 0, slots := 0, locals := 165 } : Room) (WQc D cA ad [.ref (ad 387), .int a1, .int a2] σ0 τ0) (va_Qi (fun (r : Int32) (u : SS) => P_X12_drawn σ0 a1 a2 r u.1) (WB D cA ad) (AA ad)) 0 0 (AA ad) := by
  refine Met.ofW (cc := cX12_drawn) (maxL := 3) (ret := (some .int)) (by decide) rfl ?_
  intro p e s m args below meth c s₁ B hml hv
  obtain ⟨rfl, hP, hK, hN⟩ := hv
  have C : Cy p s m _ meth c cX12_drawn 3 wsX12_drawn RX12 D cA ad (some .int) := ⟨B.exec, B.bytes, hml, findClass_of_methodNamed B.named, atoms_spec (ws := wsX12_drawn) B.pre, hK, B.notSynchronized, B.returns, hI, hN⟩
  have hl := lv_entry ([.ref (ad 387), .int a1, .int a2]) (n := 3) (Nat.le_of_ble_eq_true rfl)
  rw [lg_entry_eq]
  generalize (lg_sl ([.ref (ad 387), .int a1, .int a2]) ++ List.replicate (3 - (lg_sl ([.ref (ad 387), .int a1, .int a2])).length) Slot.unset).toArray = ls at hl ⊢
  have hl : lv_has ls 3 [(0, .ref (ad 387)), (1, .int a1), (2, .int a2)] := hl
  have hS : va_S (AA ad) s.heap s.heap [] := va_S.rf
  have hF : Fr L_X12_drawn σ0 σ0 := Fr.rf
  have gSI := gSI0
  obtain ⟨hx, hb, _, hown, hts, _, hk, hr, _, _⟩ := C
  refine lv_aload_n hx hb dX12_drawn_0 rfl (lv_at hl 0 rfl) ?_
  refine r_iconst hx hb dX12_drawn_1 (by decide) (fun z1 ez1 => ?_)
  refine fp_12_0 (k := 387) hx hb hts in_X12_drawn_12 hown hK hP (by decide) (by decide) (hts _ lk_X12_drawn_1) hI hR hS (by omega) dX12_drawn_2 (fun σ2 H2 locs2 u2 v2 hR hP hS => ?_)
  have hF := hF.puts u2 0 rfl (by decide) (by decide) (by decide) (by decide)
  have gSI := SI.put gSI hR u2 (by decide)
  refine lv_iload_n hx hb dX12_drawn_5 rfl (lv_at hl 1 rfl) ?_
  refine r_iconst hx hb dX12_drawn_6 (by decide) (fun z3 ez3 => ?_)
  refine r_bipush hx hb dX12_drawn_7 (by decide) (fun z4 ez4 => ?_)
  refine r_cSi (As := [.int a1, .int z3, .int z4]) (rest := []) ⟨hx, hb, hml, hown, hts⟩ hK hP hN hS (c_X12_isIn l D cA ad hI σ2 τ0 hR a1 z3 z4) (va_cwS 3 hts gX12_drawn_X12_isIn rfl rfl rfl (by decide +kernel) ⟨by decide, by decide⟩) rfl hl.1 rfl (Nat.le_of_ble_eq_true rfl) dX12_drawn_9 (Nat.zero_le _) (Nat.zero_le _) (fun r5 u5 H5 locs5 hp5 hP hS => ?_)
  obtain ⟨σ5, τ5⟩ := u5
  obtain ⟨hR, f5, hq5, hp5_0, hp5_1⟩ : P_X12_isIn σ2 a1 z3 z4 r5 σ5 := hp5
  have hP : va_P D vwCl (gw cA ad σ5 τ5) H5 := hP
  obtain rfl := Fr.nil f5
  refine r_if_eq (tgt := 33) hx hb dX12_drawn_12 (by decide) (fun c6 => ?_) (fun c6 => ?_)
  · clear hp5_0
    refine r_iconst hx hb dX12_drawn_33 (by decide) (fun z7 ez7 => ?_)
    exact r_iret hx hb hr hK hP hS hk dX12_drawn_34 (show P_X12_drawn σ0 a1 a2 z7 σ2 from ⟨hR, hF, by omega⟩)
  · replace hp5_0 := hp5_0.resolve_left (by omega)
    refine lv_aload_n hx hb dX12_drawn_15 rfl (lv_at hl 0 rfl) ?_
    refine fg_12_6 (k := 387) hx hb hts in_X12_drawn_12 hown hK hP (by decide) (by decide) (hts _ lk_X12_drawn_33) dX12_drawn_16 ?_
    refine r_iconst hx hb dX12_drawn_19 (by decide) (fun z8 ez8 => ?_)
    refine ad_ms (k := 389) (j := 0) hx hb hK hP (by decide) (by decide) (by omega) (by omega) dX12_drawn_20 ?_
    have hr9 := ra_ms_0 hR (k := 389) (j := 0) (by decide) (by decide) (by decide) (by decide)
    refine r_if_eq (tgt := 33) hx hb dX12_drawn_21 (by decide) (fun c10 => ?_) (fun c10 => ?_)
    · refine r_iconst hx hb dX12_drawn_33 (by decide) (fun z11 ez11 => ?_)
      exact r_iret hx hb hr hK hP hS hk dX12_drawn_34 (show P_X12_drawn σ0 a1 a2 z11 σ2 from ⟨hR, hF, by omega⟩)
    · refine lv_aload_n hx hb dX12_drawn_24 rfl (lv_at hl 0 rfl) ?_
      refine fg_12_6 (k := 387) hx hb hts in_X12_drawn_12 hown hK hP (by decide) (by decide) (hts _ lk_X12_drawn_33) dX12_drawn_25 ?_
      refine r_iconst hx hb dX12_drawn_28 (by decide) (fun z12 ez12 => ?_)
      refine ad_ms (k := 389) (j := 2) hx hb hK hP (by decide) (by decide) (by omega) (by omega) dX12_drawn_29 ?_
      have hr13 := ra_ms_1 hR (k := 389) (j := 2) (by decide) (by decide) (by decide) (by decide)
      refine r_if_ne (tgt := 35) hx hb dX12_drawn_30 (by decide) (fun c14 => ?_) (fun c14 => ?_)
      · refine lv_aload_n hx hb dX12_drawn_35 rfl (lv_at hl 0 rfl) ?_
        refine fg_12_6 (k := 387) hx hb hts in_X12_drawn_12 hown hK hP (by decide) (by decide) (hts _ lk_X12_drawn_33) dX12_drawn_36 ?_
        refine r_sipush hx hb dX12_drawn_39 (by decide) (fun z15 ez15 => ?_)
        refine ad_ms (k := 389) (j := 211) hx hb hK hP (by decide) (by decide) (by omega) (by omega) dX12_drawn_42 ?_
        refine r_bipush hx hb dX12_drawn_43 (by decide) (fun z16 ez16 => ?_)
        refine r_icmp_ge (tgt := 52) hx hb dX12_drawn_45 (by decide) (fun c17 => ?_) (fun c17 => ?_)
        · refine lv_aload_n hx hb dX12_drawn_52 rfl (lv_at hl 0 rfl) ?_
          refine lv_iload_n hx hb dX12_drawn_53 rfl (lv_at hl 1 rfl) ?_
          refine lv_iload_n hx hb dX12_drawn_54 rfl (lv_at hl 2 rfl) ?_
          refine r_cVi (k := 387) (As := [.int a1, .int a2]) (rest := []) ⟨hx, hb, hml, hown, hts⟩ hK hP hN hS (c_X12_draws l D cA ad hI σ2 τ5 hR a1 a2 (by omega) (by omega) gSI) (cwV 2 hts gX12_drawn_X12_draws rfl rfl rfl (by decide +kernel) ⟨by decide, by decide⟩) (rv_M hK hP (by decide) (by decide)) rfl hl.1 rfl (Nat.le_of_ble_eq_true rfl) dX12_drawn_55 (Nat.zero_le _) (Nat.zero_le _) (fun r18 u18 H18 locs18 hp18 hP hS => ?_)
          obtain ⟨σ18, τ18⟩ := u18
          obtain ⟨hR, f18, hq18⟩ : P_X12_draws σ2 a1 a2 r18 σ18 := hp18
          have hP : va_P D vwCl (gw cA ad σ18 τ18) H18 := hP
          have hF := hF.step f18 (by decide)
          have gSI := SI.fr gSI hR f18 (by decide)
          have t19 : (σ18 389 0).toInt = (σ2 389 0).toInt := congrArg Int32.toInt (f18.at 389 0 (by decide))
          have t20 : (σ18 389 2).toInt = (σ2 389 2).toInt := congrArg Int32.toInt (f18.at 389 2 (by decide))
          exact r_iret hx hb hr hK hP hS hk dX12_drawn_58 (show P_X12_drawn σ0 a1 a2 r18 σ18 from ⟨hR, hF, by omega⟩)
        · refine lv_aload_n hx hb dX12_drawn_48 rfl (lv_at hl 0 rfl) ?_
          refine r_cVv (k := 387) (As := []) (rest := []) ⟨hx, hb, hml, hown, hts⟩ hK hP hN hS (c_X12_keep l D cA ad hI σ2 τ5 hR) (cwV 0 hts gX12_drawn_X12_keep rfl rfl rfl (by decide +kernel) ⟨by decide, by decide⟩) (rv_M hK hP (by decide) (by decide)) rfl hl.1 rfl (Nat.le_of_ble_eq_true rfl) dX12_drawn_49 (Nat.zero_le _) (Nat.zero_le _) (fun u21 H21 locs21 hp21 hP hS => ?_)
          obtain ⟨σ21, τ21⟩ := u21
          obtain ⟨hR, f21, hp21_0⟩ : P_X12_keep σ2 σ21 := hp21
          have hP : va_P D vwCl (gw cA ad σ21 τ21) H21 := hP
          have hF := hF.step f21 (by decide)
          have gSI := SI.fr gSI hR f21 (by decide)
          have t22 : (σ21 389 0).toInt = (σ2 389 0).toInt := congrArg Int32.toInt (f21.at 389 0 (by decide))
          have t23 : (σ21 389 2).toInt = (σ2 389 2).toInt := congrArg Int32.toInt (f21.at 389 2 (by decide))
          have t24 : (σ21 389 211).toInt = (σ2 389 211).toInt := congrArg Int32.toInt (f21.at 389 211 (by decide))
          refine lv_aload_n hx hb dX12_drawn_52 rfl (lv_at hl 0 rfl) ?_
          refine lv_iload_n hx hb dX12_drawn_53 rfl (lv_at hl 1 rfl) ?_
          refine lv_iload_n hx hb dX12_drawn_54 rfl (lv_at hl 2 rfl) ?_
          refine r_cVi (k := 387) (As := [.int a1, .int a2]) (rest := []) ⟨hx, hb, hml, hown, hts⟩ hK hP hN hS (c_X12_draws l D cA ad hI σ21 τ21 hR a1 a2 (by omega) (by omega) gSI) (cwV 2 hts gX12_drawn_X12_draws rfl rfl rfl (by decide +kernel) ⟨by decide, by decide⟩) (rv_M hK hP (by decide) (by decide)) rfl hl.1 rfl (Nat.le_of_ble_eq_true rfl) dX12_drawn_55 (Nat.zero_le _) (Nat.zero_le _) (fun r25 u25 H25 locs25 hp25 hP hS => ?_)
          obtain ⟨σ25, τ25⟩ := u25
          obtain ⟨hR, f25, hq25⟩ : P_X12_draws σ21 a1 a2 r25 σ25 := hp25
          have hP : va_P D vwCl (gw cA ad σ25 τ25) H25 := hP
          have hF := hF.step f25 (by decide)
          have gSI := SI.fr gSI hR f25 (by decide)
          have t26 : (σ25 389 0).toInt = (σ21 389 0).toInt := congrArg Int32.toInt (f25.at 389 0 (by decide))
          have t27 : (σ25 389 2).toInt = (σ21 389 2).toInt := congrArg Int32.toInt (f25.at 389 2 (by decide))
          have t28 : (σ25 387 29).toInt = (σ21 387 29).toInt := congrArg Int32.toInt (f25.at 387 29 (by decide))
          exact r_iret hx hb hr hK hP hS hk dX12_drawn_58 (show P_X12_drawn σ0 a1 a2 r25 σ25 from ⟨hR, hF, by omega⟩)
      · refine r_iconst hx hb dX12_drawn_33 (by decide) (fun z29 ez29 => ?_)
        exact r_iret hx hb hr hK hP hS hk dX12_drawn_34 (show P_X12_drawn σ0 a1 a2 z29 σ2 from ⟨hR, hF, by omega⟩)
theorem in_X12_back_12 : ∀ w ∈ u_ws RX12 TX12 47, w ∈ wsX12_back := by decide +kernel
theorem lk_X12_back_33 : Cond.fieldLink RX12 33 "CuckooSharesModel" "s" "[I" ∈ wsX12_back := by decide +kernel
theorem lk_X12_back_65 : Cond.fieldLink RX12 65 "CuckooSharesModel" "before" "[I" ∈ wsX12_back := by decide +kernel
abbrev L_X12_back : List Rc := [(389, 389, 211, 245)]
def P_X12_back (σ0 : Nat → Nat → Int32)  (σ : Nat → Nat → Int32) : Prop := Rg σ ∧ Fr L_X12_back σ0 σ
def J_X12_back_2 (p : Program) (l : Launch) (e : Env) (s : State) (m : MethodId) (args : Array Value) (below : List Frame) (meth : Method) (c : Code) (D : va_G) (cA : Nat → ClassId) (ad : Nat → Nat) (σ0 : Nat → Nat → Int32)  (n : Nat) : Prop := ∀ (σ : Nat → Nat → Int32) (τ : Nat → Nat → Int64) (H : Heap) (locs : List Loc) (x1 : Int32) (ls : Array Slot), Rg σ → Fr L_X12_back σ0 σ → va_P D vwCl (gw cA ad σ τ) H → va_S (AA ad) s.heap H locs → (0 ≤ x1.toInt ∧ x1.toInt ≤ 39) → lv_has ls 2 [(0, .ref (ad 387)), (1, .int x1)] → 2 * (39 - x1.toInt) + 1 < (n : Int) → W p l e ({ frames := 0, cells := 0, slots := 0, locals := 0 } : Room) s m args below meth c H locs 0 0 (MQ below (va_Qv (fun u : SS => P_X12_back σ0 u.1) (WB D cA ad) (AA ad)) args s 0 0 (AA ad)) (F0 m 2 ls [])
set_option maxHeartbeats 4000000 in
theorem B_X12_back_2 (p : Program) (l : Launch) (e : Env) (s : State) (m : MethodId) (args : Array Value) (below : List Frame) (meth : Method) (c : Code) (D : va_G) (cA : Nat → ClassId) (ad : Nat → Nat) (σ0 : Nat → Nat → Int32)  (n : Nat) (C : Cy p s m args meth c cX12_back 2 wsX12_back RX12 D cA ad none)  (K2 : J_X12_back_2 p l e s m args below meth c D cA ad σ0 n) : J_X12_back_2 p l e s m args below meth c D cA ad σ0 (n + 1) := by
  obtain ⟨hx, hb, hml, hown, hts, hK, hk, hr, hI, hN⟩ := C
  intro σ τ H locs x1 ls hR hF hP hS hc0 hl hm
  refine lv_iload_n hx hb dX12_back_2 rfl (lv_at hl 1 rfl) ?_
  refine r_bipush hx hb dX12_back_3 (by decide) (fun z1 ez1 => ?_)
  refine r_icmp_ge (tgt := 30) hx hb dX12_back_5 (by decide) (fun c2 => ?_) (fun c2 => ?_)
  · exact r_vret hx hb hr hK hP hS hk dX12_back_30 (show P_X12_back σ0 σ from ⟨hR, hF⟩)
  · refine lv_aload_n hx hb dX12_back_8 rfl (lv_at hl 0 rfl) ?_
    refine fg_12_6 (k := 387) hx hb hts in_X12_back_12 hown hK hP (by decide) (by decide) (hts _ lk_X12_back_33) dX12_back_9 ?_
    refine r_sipush hx hb dX12_back_12 (by decide) (fun z3 ez3 => ?_)
    refine lv_iload_n hx hb dX12_back_15 rfl (lv_at hl 1 rfl) ?_
    refine r_iadd hx hb dX12_back_16 (by omega) (fun z4 ez4 => ?_)
    refine lv_aload_n hx hb dX12_back_17 rfl (lv_at hl 0 rfl) ?_
    refine fg_12_28 (k := 387) hx hb hts in_X12_back_12 hown hK hP (by decide) (by decide) (hts _ lk_X12_back_65) dX12_back_18 ?_
    refine lv_iload_n hx hb dX12_back_21 rfl (lv_at hl 1 rfl) ?_
    obtain ⟨j5, ej5⟩ : ∃ j : Nat, x1.toInt = (j : Int) := ⟨_, ti_nat (by omega)⟩
    refine ad_mbefore (k := 399) (j := j5) hx hb hK hP (by decide) (by decide) ej5 (by omega) dX12_back_22 ?_
    obtain ⟨j6, ej6⟩ : ∃ j : Nat, z4.toInt = (j : Int) := ⟨_, ti_nat (by omega)⟩
    refine as_ms (k := 389) (j := j6) hx hb hK hP hI hR hS (by decide) (by decide) ej6 (by omega) (mc_sb hR (by omega) (by omega)) dX12_back_23 (fun σ7 H7 locs7 u7 v7 hR hP hS => ?_)
    have hF := hF.puts u7 0 rfl (by decide) (by decide) (by omega) (by omega)
    refine r_iinc (k := 1) (lv1 := fun z8 => [(1, .int z8), (0, .ref (ad 387))]) hx hb dX12_back_24 hl rfl (by decide) (fun _ => rfl) (by decide) (by omega) (fun z8 ls ez8 hl => ?_)
    refine lv_goto (tgt := 2) hx hb dX12_back_27 (by decide) ?_
    exact K2 σ7 τ H7 locs7 z8 ls hR hF hP hS (by omega) (lv_sub hl [1, 0] rfl) (by omega)
theorem A_X12_back (p : Program) (l : Launch) (e : Env) (s : State) (m : MethodId) (args : Array Value) (below : List Frame) (meth : Method) (c : Code) (D : va_G) (cA : Nat → ClassId) (ad : Nat → Nat) (σ0 : Nat → Nat → Int32)  (C : Cy p s m args meth c cX12_back 2 wsX12_back RX12 D cA ad none)  : ∀ n : Nat, J_X12_back_2 p l e s m args below meth c D cA ad σ0 n := by
  intro n
  induction n with
  | zero =>
    exact (by intro σ τ H locs x1 ls hR hF hP hS hc0 hl hm; exfalso; omega)
  | succ n ih =>
    exact B_X12_back_2 p l e s m args below meth c D cA ad σ0 n C  ih
set_option maxHeartbeats 4000000 in
theorem c_X12_back (l : Launch) (D : va_G) (cA : Nat → ClassId) (ad : Nat → Nat) (hI : Inj ad) (σ0 : Nat → Nat → Int32) (τ0 : Nat → Nat → Int64) (hR : Rg σ0)   : Met l yX12_back wsX12_back ({ frames := 0, cells := 0, slots := 0, locals := 0 } : Room) (WQc D cA ad [.ref (ad 387)] σ0 τ0) (va_Qv (fun u : SS => P_X12_back σ0 u.1) (WB D cA ad) (AA ad)) 0 0 (AA ad) := by
  refine Met.ofW (cc := cX12_back) (maxL := 2) (ret := none) (by decide) rfl ?_
  intro p e s m args below meth c s₁ B hml hv
  obtain ⟨rfl, hP, hK, hN⟩ := hv
  have C : Cy p s m _ meth c cX12_back 2 wsX12_back RX12 D cA ad none := ⟨B.exec, B.bytes, hml, findClass_of_methodNamed B.named, atoms_spec (ws := wsX12_back) B.pre, hK, B.notSynchronized, B.returns, hI, hN⟩
  have hl := lv_entry ([.ref (ad 387)]) (n := 2) (Nat.le_of_ble_eq_true rfl)
  rw [lg_entry_eq]
  generalize (lg_sl ([.ref (ad 387)]) ++ List.replicate (2 - (lg_sl ([.ref (ad 387)])).length) Slot.unset).toArray = ls at hl ⊢
  have hl : lv_has ls 2 [(0, .ref (ad 387))] := hl
  have hS : va_S (AA ad) s.heap s.heap [] := va_S.rf
  have hF : Fr L_X12_back σ0 σ0 := Fr.rf
  have hA := A_X12_back p l e s m _ below meth c D cA ad σ0 C  166
  have K2 := hA
  clear hA
  obtain ⟨hx, hb, _, hown, hts, _, hk, hr, _, _⟩ := C
  refine r_iconst hx hb dX12_back_0 (by decide) (fun z1 ez1 => ?_)
  refine lv_istore_n (lv' := [(1, .int z1), (0, .ref (ad 387))]) hx hb dX12_back_1 rfl hl (by decide) rfl (fun ls hl => ?_)
  exact K2 σ0 τ0 s.heap [] z1 ls hR hF hP hS (by omega) (lv_sub hl [1, 0] rfl) (by omega)
theorem in_X12_tries_12 : ∀ w ∈ u_ws RX12 TX12 47, w ∈ wsX12_tries := by decide +kernel
theorem lk_X12_tries_33 : Cond.fieldLink RX12 33 "CuckooSharesModel" "s" "[I" ∈ wsX12_tries := by decide +kernel
theorem lk_X12_tries_65 : Cond.fieldLink RX12 65 "CuckooSharesModel" "before" "[I" ∈ wsX12_tries := by decide +kernel
abbrev L_X12_tries : List Rc := [(399, 399, 0, 34)]
def P_X12_tries (σ0 : Nat → Nat → Int32)  (σ : Nat → Nat → Int32) : Prop := Rg σ ∧ Fr L_X12_tries σ0 σ
def J_X12_tries_2 (p : Program) (l : Launch) (e : Env) (s : State) (m : MethodId) (args : Array Value) (below : List Frame) (meth : Method) (c : Code) (D : va_G) (cA : Nat → ClassId) (ad : Nat → Nat) (σ0 : Nat → Nat → Int32)  (n : Nat) : Prop := ∀ (σ : Nat → Nat → Int32) (τ : Nat → Nat → Int64) (H : Heap) (locs : List Loc) (x1 : Int32) (ls : Array Slot), Rg σ → Fr L_X12_tries σ0 σ → va_P D vwCl (gw cA ad σ τ) H → va_S (AA ad) s.heap H locs → (0 ≤ x1.toInt ∧ x1.toInt ≤ 39) → lv_has ls 2 [(0, .ref (ad 387)), (1, .int x1)] → 2 * (39 - x1.toInt) + 1 < (n : Int) → W p l e ({ frames := 0, cells := 0, slots := 0, locals := 0 } : Room) s m args below meth c H locs 0 0 (MQ below (va_Qv (fun u : SS => P_X12_tries σ0 u.1) (WB D cA ad) (AA ad)) args s 0 0 (AA ad)) (F0 m 2 ls [])
set_option maxHeartbeats 4000000 in
theorem B_X12_tries_2 (p : Program) (l : Launch) (e : Env) (s : State) (m : MethodId) (args : Array Value) (below : List Frame) (meth : Method) (c : Code) (D : va_G) (cA : Nat → ClassId) (ad : Nat → Nat) (σ0 : Nat → Nat → Int32)  (n : Nat) (C : Cy p s m args meth c cX12_tries 2 wsX12_tries RX12 D cA ad none)  (K2 : J_X12_tries_2 p l e s m args below meth c D cA ad σ0 n) : J_X12_tries_2 p l e s m args below meth c D cA ad σ0 (n + 1) := by
  obtain ⟨hx, hb, hml, hown, hts, hK, hk, hr, hI, hN⟩ := C
  intro σ τ H locs x1 ls hR hF hP hS hc0 hl hm
  refine lv_iload_n hx hb dX12_tries_2 rfl (lv_at hl 1 rfl) ?_
  refine r_bipush hx hb dX12_tries_3 (by decide) (fun z1 ez1 => ?_)
  refine r_icmp_ge (tgt := 30) hx hb dX12_tries_5 (by decide) (fun c2 => ?_) (fun c2 => ?_)
  · exact r_vret hx hb hr hK hP hS hk dX12_tries_30 (show P_X12_tries σ0 σ from ⟨hR, hF⟩)
  · refine lv_aload_n hx hb dX12_tries_8 rfl (lv_at hl 0 rfl) ?_
    refine fg_12_28 (k := 387) hx hb hts in_X12_tries_12 hown hK hP (by decide) (by decide) (hts _ lk_X12_tries_65) dX12_tries_9 ?_
    refine lv_iload_n hx hb dX12_tries_12 rfl (lv_at hl 1 rfl) ?_
    refine lv_aload_n hx hb dX12_tries_13 rfl (lv_at hl 0 rfl) ?_
    refine fg_12_6 (k := 387) hx hb hts in_X12_tries_12 hown hK hP (by decide) (by decide) (hts _ lk_X12_tries_33) dX12_tries_14 ?_
    refine r_sipush hx hb dX12_tries_17 (by decide) (fun z3 ez3 => ?_)
    refine lv_iload_n hx hb dX12_tries_20 rfl (lv_at hl 1 rfl) ?_
    refine r_iadd hx hb dX12_tries_21 (by omega) (fun z4 ez4 => ?_)
    obtain ⟨j5, ej5⟩ : ∃ j : Nat, z4.toInt = (j : Int) := ⟨_, ti_nat (by omega)⟩
    refine ad_ms (k := 389) (j := j5) hx hb hK hP (by decide) (by decide) ej5 (by omega) dX12_tries_22 ?_
    obtain ⟨j6, ej6⟩ : ∃ j : Nat, x1.toInt = (j : Int) := ⟨_, ti_nat (by omega)⟩
    refine as_mbefore (k := 399) (j := j6) hx hb hK hP hI hR hS (by decide) (by decide) ej6 (by omega) (mc_bs hR (by omega) (by omega)) dX12_tries_23 (fun σ7 H7 locs7 u7 v7 hR hP hS => ?_)
    have hF := hF.puts u7 0 rfl (by decide) (by decide) (by omega) (by omega)
    refine r_iinc (k := 1) (lv1 := fun z8 => [(1, .int z8), (0, .ref (ad 387))]) hx hb dX12_tries_24 hl rfl (by decide) (fun _ => rfl) (by decide) (by omega) (fun z8 ls ez8 hl => ?_)
    refine lv_goto (tgt := 2) hx hb dX12_tries_27 (by decide) ?_
    exact K2 σ7 τ H7 locs7 z8 ls hR hF hP hS (by omega) (lv_sub hl [1, 0] rfl) (by omega)
theorem A_X12_tries (p : Program) (l : Launch) (e : Env) (s : State) (m : MethodId) (args : Array Value) (below : List Frame) (meth : Method) (c : Code) (D : va_G) (cA : Nat → ClassId) (ad : Nat → Nat) (σ0 : Nat → Nat → Int32)  (C : Cy p s m args meth c cX12_tries 2 wsX12_tries RX12 D cA ad none)  : ∀ n : Nat, J_X12_tries_2 p l e s m args below meth c D cA ad σ0 n := by
  intro n
  induction n with
  | zero =>
    exact (by intro σ τ H locs x1 ls hR hF hP hS hc0 hl hm; exfalso; omega)
  | succ n ih =>
    exact B_X12_tries_2 p l e s m args below meth c D cA ad σ0 n C  ih
set_option maxHeartbeats 4000000 in
theorem c_X12_tries (l : Launch) (D : va_G) (cA : Nat → ClassId) (ad : Nat → Nat) (hI : Inj ad) (σ0 : Nat → Nat → Int32) (τ0 : Nat → Nat → Int64) (hR : Rg σ0)   : Met l yX12_tries wsX12_tries ({ frames := 0, cells := 0, slots := 0, locals := 0 } : Room) (WQc D cA ad [.ref (ad 387)] σ0 τ0) (va_Qv (fun u : SS => P_X12_tries σ0 u.1) (WB D cA ad) (AA ad)) 0 0 (AA ad) := by
  refine Met.ofW (cc := cX12_tries) (maxL := 2) (ret := none) (by decide) rfl ?_
  intro p e s m args below meth c s₁ B hml hv
  obtain ⟨rfl, hP, hK, hN⟩ := hv
  have C : Cy p s m _ meth c cX12_tries 2 wsX12_tries RX12 D cA ad none := ⟨B.exec, B.bytes, hml, findClass_of_methodNamed B.named, atoms_spec (ws := wsX12_tries) B.pre, hK, B.notSynchronized, B.returns, hI, hN⟩
  have hl := lv_entry ([.ref (ad 387)]) (n := 2) (Nat.le_of_ble_eq_true rfl)
  rw [lg_entry_eq]
  generalize (lg_sl ([.ref (ad 387)]) ++ List.replicate (2 - (lg_sl ([.ref (ad 387)])).length) Slot.unset).toArray = ls at hl ⊢
  have hl : lv_has ls 2 [(0, .ref (ad 387))] := hl
  have hS : va_S (AA ad) s.heap s.heap [] := va_S.rf
  have hF : Fr L_X12_tries σ0 σ0 := Fr.rf
  have hA := A_X12_tries p l e s m _ below meth c D cA ad σ0 C  166
  have K2 := hA
  clear hA
  obtain ⟨hx, hb, _, hown, hts, _, hk, hr, _, _⟩ := C
  refine r_iconst hx hb dX12_tries_0 (by decide) (fun z1 ez1 => ?_)
  refine lv_istore_n (lv' := [(1, .int z1), (0, .ref (ad 387))]) hx hb dX12_tries_1 rfl hl (by decide) rfl (fun ls hl => ?_)
  exact K2 σ0 τ0 s.heap [] z1 ls hR hF hP hS (by omega) (lv_sub hl [1, 0] rfl) (by omega)
theorem in_X12_odds_12 : ∀ w ∈ u_ws RX12 TX12 47, w ∈ wsX12_odds := by decide +kernel
theorem lk_X12_odds_1 : Cond.fieldLink RX12 1 "CuckooSharesModel" "thrown" "I" ∈ wsX12_odds := by decide +kernel
theorem lk_X12_odds_33 : Cond.fieldLink RX12 33 "CuckooSharesModel" "s" "[I" ∈ wsX12_odds := by decide +kernel
abbrev L_X12_odds : List Rc := [(387, 387, 0, 0), (399, 399, 0, 34), (387, 387, 33, 33), (394, 394, 0, 7), (395, 395, 0, 7), (396, 396, 0, 7), (387, 387, 26, 26), (397, 397, 0, 7), (389, 389, 211, 245)]
def P_X12_odds (σ0 : Nat → Nat → Int32) (a1 : Int32) (a2 : Int32) (a3 : Int32) (a4 : Int32) (r : Int32) (σ : Nat → Nat → Int32) : Prop := Rg σ ∧ Fr L_X12_odds σ0 σ
def J_X12_odds_55 (p : Program) (l : Launch) (e : Env) (s : State) (m : MethodId) (args : Array Value) (below : List Frame) (meth : Method) (c : Code) (D : va_G) (cA : Nat → ClassId) (ad : Nat → Nat) (σ0 : Nat → Nat → Int32) (a1 : Int32) (a2 : Int32) (a3 : Int32) (a4 : Int32) (n : Nat) : Prop := ∀ (σ : Nat → Nat → Int32) (τ : Nat → Nat → Int64) (H : Heap) (locs : List Loc) (x5 : Int32) (x6 : Int32) (ls : Array Slot), Rg σ → Fr L_X12_odds σ0 σ → va_P D vwCl (gw cA ad σ τ) H → va_S (AA ad) s.heap H locs → (0 ≤ a1.toInt ∧ a1.toInt ≤ 7) → (0 ≤ a2.toInt ∧ a2.toInt ≤ 999) → (1 ≤ a3.toInt ∧ a3.toInt ≤ 30) → (0 ≤ x6.toInt ∧ x6.toInt ≤ 30) → (1 ≤ (σ 389 2).toInt ∧ (σ 389 2).toInt ≤ 4) → (1 ≤ (σ 389 2).toInt) → (SI σ) → lv_has ls 8 [(0, .ref (ad 387)), (1, .int a1), (2, .int a2), (3, .int a3), (4, .int a4), (5, .int x5), (6, .int x6)] → 2 * (30 - x6.toInt) + 1 < (n : Int) → W p l e ({ frames := 7, cells := 0, slots := 0, locals := 165 } : Room) s m args below meth c H locs 0 0 (MQ below (va_Qi (fun (r : Int32) (u : SS) => P_X12_odds σ0 a1 a2 a3 a4 r u.1) (WB D cA ad) (AA ad)) args s 0 0 (AA ad)) (F0 m 55 ls [])
set_option maxHeartbeats 4000000 in
theorem B_X12_odds_55 (p : Program) (l : Launch) (e : Env) (s : State) (m : MethodId) (args : Array Value) (below : List Frame) (meth : Method) (c : Code) (D : va_G) (cA : Nat → ClassId) (ad : Nat → Nat) (σ0 : Nat → Nat → Int32) (a1 : Int32) (a2 : Int32) (a3 : Int32) (a4 : Int32) (n : Nat) (C : Cy p s m args meth c cX12_odds 8 wsX12_odds RX12 D cA ad (some .int)) (gSI0 : SI σ0) (K55 : J_X12_odds_55 p l e s m args below meth c D cA ad σ0 a1 a2 a3 a4 n) : J_X12_odds_55 p l e s m args below meth c D cA ad σ0 a1 a2 a3 a4 (n + 1) := by
  obtain ⟨hx, hb, hml, hown, hts, hK, hk, hr, hI, hN⟩ := C
  intro σ τ H locs x5 x6 ls hR hF hP hS hc0 hc1 hc2 hc3 hc4 hi0 gSI hl hm
  refine lv_iload hx hb dX12_odds_55 (lv_at hl 6 rfl) ?_
  refine lv_iload_n hx hb dX12_odds_57 rfl (lv_at hl 3 rfl) ?_
  refine r_icmp_ge (tgt := 121) hx hb dX12_odds_58 (by decide) (fun c1 => ?_) (fun c1 => ?_)
  · refine lv_iload hx hb dX12_odds_121 (lv_at hl 5 rfl) ?_
    exact r_iret hx hb hr hK hP hS hk dX12_odds_123 (show P_X12_odds σ0 a1 a2 a3 a4 x5 σ from ⟨hR, hF⟩)
  · refine lv_aload_n hx hb dX12_odds_61 rfl (lv_at hl 0 rfl) ?_
    refine fg_12_6 (k := 387) hx hb hts in_X12_odds_12 hown hK hP (by decide) (by decide) (hts _ lk_X12_odds_33) dX12_odds_62 ?_
    refine r_sipush hx hb dX12_odds_65 (by decide) (fun z2 ez2 => ?_)
    refine lv_iload_n hx hb dX12_odds_68 rfl (lv_at hl 1 rfl) ?_
    refine r_iadd hx hb dX12_odds_69 (by omega) (fun z3 ez3 => ?_)
    obtain ⟨j4, ej4⟩ : ∃ j : Nat, z3.toInt = (j : Int) := ⟨_, ti_nat (by omega)⟩
    refine ad_ms (k := 389) (j := j4) hx hb hK hP (by decide) (by decide) ej4 (by omega) dX12_odds_70 ?_
    refine lv_istore (lv' := [(7, .int (σ 389 j4)), (0, .ref (ad 387)), (1, .int a1), (2, .int a2), (3, .int a3), (4, .int a4), (5, .int x5), (6, .int x6)]) hx hb dX12_odds_71 hl (by decide) rfl (fun ls hl => ?_)
    refine lv_aload_n hx hb dX12_odds_73 rfl (lv_at hl 1 rfl) ?_
    refine r_iconst hx hb dX12_odds_74 (by decide) (fun z5 ez5 => ?_)
    refine lv_iload hx hb dX12_odds_75 (lv_at hl 5 rfl) ?_
    refine lv_iload hx hb dX12_odds_77 (lv_at hl 7 rfl) ?_
    refine r_iaddU hx hb dX12_odds_79 (fun z6 => ?_)
    refine r_cVi (k := 387) (As := [.int z5, .int z6]) (rest := []) ⟨hx, hb, hml, hown, hts⟩ hK hP hN hS (c_X12_draws l D cA ad hI σ τ hR z5 z6 (by omega) (by omega) gSI) (cwV 2 hts gX12_odds_X12_draws rfl rfl rfl (by decide +kernel) ⟨by decide, by decide⟩) (rv_M hK hP (by decide) (by decide)) rfl hl.1 rfl (Nat.le_of_ble_eq_true rfl) dX12_odds_80 (Nat.zero_le _) (Nat.zero_le _) (fun r7 u7 H7 locs7 hp7 hP hS => ?_)
    obtain ⟨σ7, τ7⟩ := u7
    obtain ⟨hR, f7, hq7⟩ : P_X12_draws σ z5 z6 r7 σ7 := hp7
    have hP : va_P D vwCl (gw cA ad σ7 τ7) H7 := hP
    have hF := hF.step f7 (by decide)
    have gSI := SI.fr gSI hR f7 (by decide)
    have t8 : (σ7 389 2).toInt = (σ 389 2).toInt := congrArg Int32.toInt (f7.at 389 2 (by decide))
    refine lv_pop hx hb dX12_odds_83 rfl ?_
    refine lv_iload hx hb dX12_odds_84 (lv_at hl 6 rfl) ?_
    refine lv_aload_n hx hb dX12_odds_86 rfl (lv_at hl 1 rfl) ?_
    refine fg_12_6 (k := 387) hx hb hts in_X12_odds_12 hown hK hP (by decide) (by decide) (hts _ lk_X12_odds_33) dX12_odds_87 ?_
    refine r_sipush hx hb dX12_odds_90 (by decide) (fun z9 ez9 => ?_)
    refine lv_iload_n hx hb dX12_odds_93 rfl (lv_at hl 2 rfl) ?_
    refine r_iadd hx hb dX12_odds_94 (by omega) (fun z10 ez10 => ?_)
    refine ad_ms (k := 389) (j := j4) hx hb hK hP (by decide) (by decide) (by omega) (by omega) dX12_odds_95 ?_
    refine lv_iload hx hb dX12_odds_96 (lv_at hl 0 rfl) ?_
    refine lv_iload_n hx hb dX12_odds_98 rfl (lv_at hl 3 rfl) ?_
    refine r_iaddU hx hb dX12_odds_99 (fun z11 => ?_)
    refine r_icmp_le (tgt := 107) hx hb dX12_odds_100 (by decide) (fun c12 => ?_) (fun c12 => ?_)
    · refine r_iconst hx hb dX12_odds_107 (by decide) (fun z13 ez13 => ?_)
      have b15 := And.intro (ti_lo x5) (ti_hi x5)
      refine r_iadd hx hb dX12_odds_108 (by omega) (fun z14 ez14 => ?_)
      refine lv_istore (lv' := [(5, .int z14), (7, .int (σ 389 j4)), (0, .ref (ad 387)), (1, .int a1), (2, .int a2), (3, .int a3), (4, .int a4), (6, .int x6)]) hx hb dX12_odds_109 hl (by decide) rfl (fun ls hl => ?_)
      refine lv_aload_n hx hb dX12_odds_111 rfl (lv_at hl 2 rfl) ?_
      refine r_cVv (k := 387) (As := []) (rest := []) ⟨hx, hb, hml, hown, hts⟩ hK hP hN hS (c_X12_back l D cA ad hI σ7 τ7 hR) (cwV 0 hts gX12_odds_X12_back rfl rfl rfl (by decide +kernel) ⟨by decide, by decide⟩) (rv_M hK hP (by decide) (by decide)) rfl hl.1 rfl (Nat.le_of_ble_eq_true rfl) dX12_odds_112 (Nat.zero_le _) (Nat.zero_le _) (fun u16 H16 locs16 hp16 hP hS => ?_)
      obtain ⟨σ16, τ16⟩ := u16
      obtain ⟨hR, f16⟩ : P_X12_back σ7 σ16 := hp16
      have hP : va_P D vwCl (gw cA ad σ16 τ16) H16 := hP
      have hF := hF.step f16 (by decide)
      have gSI := SI.fr gSI hR f16 (by decide)
      have t17 : (σ16 389 2).toInt = (σ7 389 2).toInt := congrArg Int32.toInt (f16.at 389 2 (by decide))
      refine r_iinc (k := 7) (lv1 := fun z18 => [(6, .int z18), (5, .int z14), (7, .int (σ 389 j4)), (0, .ref (ad 387)), (1, .int a1), (2, .int a2), (3, .int a3), (4, .int a4)]) hx hb dX12_odds_115 hl rfl (by decide) (fun _ => rfl) (by decide) (by omega) (fun z18 ls ez18 hl => ?_)
      refine lv_goto (tgt := 55) hx hb dX12_odds_118 (by decide) ?_
      exact K55 σ16 τ16 H16 locs16 z14 z18 ls hR hF hP hS (by omega) (by omega) (by omega) (by omega) (by omega) (by omega) gSI (lv_sub hl [3, 4, 5, 6, 7, 1, 0] rfl) (by omega)
    · refine r_iconst hx hb dX12_odds_103 (by decide) (fun z19 ez19 => ?_)
      refine lv_goto (tgt := 108) hx hb dX12_odds_104 (by decide) ?_
      refine r_iaddU hx hb dX12_odds_108 (fun z20 => ?_)
      refine lv_istore (lv' := [(5, .int z20), (7, .int (σ 389 j4)), (0, .ref (ad 387)), (1, .int a1), (2, .int a2), (3, .int a3), (4, .int a4), (6, .int x6)]) hx hb dX12_odds_109 hl (by decide) rfl (fun ls hl => ?_)
      refine lv_aload_n hx hb dX12_odds_111 rfl (lv_at hl 2 rfl) ?_
      refine r_cVv (k := 387) (As := []) (rest := []) ⟨hx, hb, hml, hown, hts⟩ hK hP hN hS (c_X12_back l D cA ad hI σ7 τ7 hR) (cwV 0 hts gX12_odds_X12_back rfl rfl rfl (by decide +kernel) ⟨by decide, by decide⟩) (rv_M hK hP (by decide) (by decide)) rfl hl.1 rfl (Nat.le_of_ble_eq_true rfl) dX12_odds_112 (Nat.zero_le _) (Nat.zero_le _) (fun u21 H21 locs21 hp21 hP hS => ?_)
      obtain ⟨σ21, τ21⟩ := u21
      obtain ⟨hR, f21⟩ : P_X12_back σ7 σ21 := hp21
      have hP : va_P D vwCl (gw cA ad σ21 τ21) H21 := hP
      have hF := hF.step f21 (by decide)
      have gSI := SI.fr gSI hR f21 (by decide)
      have t22 : (σ21 389 2).toInt = (σ7 389 2).toInt := congrArg Int32.toInt (f21.at 389 2 (by decide))
      refine r_iinc (k := 7) (lv1 := fun z23 => [(6, .int z23), (5, .int z20), (7, .int (σ 389 j4)), (0, .ref (ad 387)), (1, .int a1), (2, .int a2), (3, .int a3), (4, .int a4)]) hx hb dX12_odds_115 hl rfl (by decide) (fun _ => rfl) (by decide) (by omega) (fun z23 ls ez23 hl => ?_)
      refine lv_goto (tgt := 55) hx hb dX12_odds_118 (by decide) ?_
      exact K55 σ21 τ21 H21 locs21 z20 z23 ls hR hF hP hS (by omega) (by omega) (by omega) (by omega) (by omega) (by omega) gSI (lv_sub hl [3, 4, 5, 6, 7, 1, 0] rfl) (by omega)
theorem A_X12_odds (p : Program) (l : Launch) (e : Env) (s : State) (m : MethodId) (args : Array Value) (below : List Frame) (meth : Method) (c : Code) (D : va_G) (cA : Nat → ClassId) (ad : Nat → Nat) (σ0 : Nat → Nat → Int32) (a1 : Int32) (a2 : Int32) (a3 : Int32) (a4 : Int32) (C : Cy p s m args meth c cX12_odds 8 wsX12_odds RX12 D cA ad (some .int)) (gSI0 : SI σ0) : ∀ n : Nat, J_X12_odds_55 p l e s m args below meth c D cA ad σ0 a1 a2 a3 a4 n := by
  intro n
  induction n with
  | zero =>
    exact (by intro σ τ H locs x5 x6 ls hR hF hP hS hc0 hc1 hc2 hc3 hc4 hi0 gSI hl hm; exfalso; omega)
  | succ n ih =>
    exact B_X12_odds_55 p l e s m args below meth c D cA ad σ0 a1 a2 a3 a4 n C gSI0 ih
set_option maxHeartbeats 4000000 in
theorem c_X12_odds (l : Launch) (D : va_G) (cA : Nat → ClassId) (ad : Nat → Nat) (hI : Inj ad) (σ0 : Nat → Nat → Int32) (τ0 : Nat → Nat → Int64) (hR : Rg σ0) (a1 : Int32) (a2 : Int32) (a3 : Int32) (a4 : Int32) (gSI0 : SI σ0) : Met l yX12_odds wsX12_odds ({ frames := 7, cells := 0, slots := 0, locals := 165 } : Room) (WQc D cA ad [.ref (ad 387), .int a1, .int a2, .int a3, .int a4] σ0 τ0) (va_Qi (fun (r : Int32) (u : SS) => P_X12_odds σ0 a1 a2 a3 a4 r u.1) (WB D cA ad) (AA ad)) 0 0 (AA ad) := by
  refine Met.ofW (cc := cX12_odds) (maxL := 8) (ret := (some .int)) (by decide) rfl ?_
  intro p e s m args below meth c s₁ B hml hv
  obtain ⟨rfl, hP, hK, hN⟩ := hv
  have C : Cy p s m _ meth c cX12_odds 8 wsX12_odds RX12 D cA ad (some .int) := ⟨B.exec, B.bytes, hml, findClass_of_methodNamed B.named, atoms_spec (ws := wsX12_odds) B.pre, hK, B.notSynchronized, B.returns, hI, hN⟩
  have hl := lv_entry ([.ref (ad 387), .int a1, .int a2, .int a3, .int a4]) (n := 8) (Nat.le_of_ble_eq_true rfl)
  rw [lg_entry_eq]
  generalize (lg_sl ([.ref (ad 387), .int a1, .int a2, .int a3, .int a4]) ++ List.replicate (8 - (lg_sl ([.ref (ad 387), .int a1, .int a2, .int a3, .int a4])).length) Slot.unset).toArray = ls at hl ⊢
  have hl : lv_has ls 8 [(0, .ref (ad 387)), (1, .int a1), (2, .int a2), (3, .int a3), (4, .int a4)] := hl
  have hS : va_S (AA ad) s.heap s.heap [] := va_S.rf
  have hF : Fr L_X12_odds σ0 σ0 := Fr.rf
  have gSI := gSI0
  have hA := A_X12_odds p l e s m _ below meth c D cA ad σ0 a1 a2 a3 a4 C gSI0 130
  have K55 := hA
  clear hA
  obtain ⟨hx, hb, _, hown, hts, _, hk, hr, _, _⟩ := C
  refine lv_aload_n hx hb dX12_odds_0 rfl (lv_at hl 0 rfl) ?_
  refine r_iconst hx hb dX12_odds_1 (by decide) (fun z1 ez1 => ?_)
  refine fp_12_0 (k := 387) hx hb hts in_X12_odds_12 hown hK hP (by decide) (by decide) (hts _ lk_X12_odds_1) hI hR hS (by omega) dX12_odds_2 (fun σ2 H2 locs2 u2 v2 hR hP hS => ?_)
  have hF := hF.puts u2 0 rfl (by decide) (by decide) (by decide) (by decide)
  have gSI := SI.put gSI hR u2 (by decide)
  refine lv_aload_n hx hb dX12_odds_5 rfl (lv_at hl 0 rfl) ?_
  refine lv_iload_n hx hb dX12_odds_6 rfl (lv_at hl 1 rfl) ?_
  refine r_cVi (k := 387) (As := [.int a1]) (rest := []) ⟨hx, hb, hml, hown, hts⟩ hK hP hN hS (c_X12_isMan l D cA ad hI σ2 τ0 hR a1) (cwV 1 hts gX12_odds_X12_isMan rfl rfl rfl (by decide +kernel) ⟨by decide, by decide⟩) (rv_M hK hP (by decide) (by decide)) rfl hl.1 rfl (Nat.le_of_ble_eq_true rfl) dX12_odds_7 (Nat.zero_le _) (Nat.zero_le _) (fun r3 u3 H3 locs3 hp3 hP hS => ?_)
  obtain ⟨σ3, τ3⟩ := u3
  obtain ⟨hR, f3, hq3, hp3_0⟩ : P_X12_isMan σ2 a1 r3 σ3 := hp3
  have hP : va_P D vwCl (gw cA ad σ3 τ3) H3 := hP
  obtain rfl := Fr.nil f3
  refine r_if_eq (tgt := 43) hx hb dX12_odds_10 (by decide) (fun c4 => ?_) (fun c4 => ?_)
  · clear hp3_0
    refine r_iconst hx hb dX12_odds_43 (by decide) (fun z5 ez5 => ?_)
    exact r_iret hx hb hr hK hP hS hk dX12_odds_44 (show P_X12_odds σ0 a1 a2 a3 a4 z5 σ2 from ⟨hR, hF⟩)
  · replace hp3_0 := hp3_0.resolve_left (by omega)
    refine lv_iload_n hx hb dX12_odds_13 rfl (lv_at hl 2 rfl) ?_
    refine r_iconst hx hb dX12_odds_14 (by decide) (fun z6 ez6 => ?_)
    refine r_sipush hx hb dX12_odds_15 (by decide) (fun z7 ez7 => ?_)
    refine r_cSi (As := [.int a2, .int z6, .int z7]) (rest := []) ⟨hx, hb, hml, hown, hts⟩ hK hP hN hS (c_X12_isIn l D cA ad hI σ2 τ3 hR a2 z6 z7) (va_cwS 3 hts gX12_odds_X12_isIn rfl rfl rfl (by decide +kernel) ⟨by decide, by decide⟩) rfl hl.1 rfl (Nat.le_of_ble_eq_true rfl) dX12_odds_18 (Nat.zero_le _) (Nat.zero_le _) (fun r8 u8 H8 locs8 hp8 hP hS => ?_)
    obtain ⟨σ8, τ8⟩ := u8
    obtain ⟨hR, f8, hq8, hp8_0, hp8_1⟩ : P_X12_isIn σ2 a2 z6 z7 r8 σ8 := hp8
    have hP : va_P D vwCl (gw cA ad σ8 τ8) H8 := hP
    obtain rfl := Fr.nil f8
    refine r_if_eq (tgt := 43) hx hb dX12_odds_21 (by decide) (fun c9 => ?_) (fun c9 => ?_)
    · clear hp8_0
      refine r_iconst hx hb dX12_odds_43 (by decide) (fun z10 ez10 => ?_)
      exact r_iret hx hb hr hK hP hS hk dX12_odds_44 (show P_X12_odds σ0 a1 a2 a3 a4 z10 σ2 from ⟨hR, hF⟩)
    · replace hp8_0 := hp8_0.resolve_left (by omega)
      refine lv_iload_n hx hb dX12_odds_24 rfl (lv_at hl 3 rfl) ?_
      refine r_iconst hx hb dX12_odds_25 (by decide) (fun z11 ez11 => ?_)
      refine r_bipush hx hb dX12_odds_26 (by decide) (fun z12 ez12 => ?_)
      refine r_cSi (As := [.int a3, .int z11, .int z12]) (rest := []) ⟨hx, hb, hml, hown, hts⟩ hK hP hN hS (c_X12_isIn l D cA ad hI σ2 τ8 hR a3 z11 z12) (va_cwS 3 hts gX12_odds_X12_isIn rfl rfl rfl (by decide +kernel) ⟨by decide, by decide⟩) rfl hl.1 rfl (Nat.le_of_ble_eq_true rfl) dX12_odds_28 (Nat.zero_le _) (Nat.zero_le _) (fun r13 u13 H13 locs13 hp13 hP hS => ?_)
      obtain ⟨σ13, τ13⟩ := u13
      obtain ⟨hR, f13, hq13, hp13_0, hp13_1⟩ : P_X12_isIn σ2 a3 z11 z12 r13 σ13 := hp13
      have hP : va_P D vwCl (gw cA ad σ13 τ13) H13 := hP
      obtain rfl := Fr.nil f13
      refine r_if_eq (tgt := 43) hx hb dX12_odds_31 (by decide) (fun c14 => ?_) (fun c14 => ?_)
      · clear hp13_0
        refine r_iconst hx hb dX12_odds_43 (by decide) (fun z15 ez15 => ?_)
        exact r_iret hx hb hr hK hP hS hk dX12_odds_44 (show P_X12_odds σ0 a1 a2 a3 a4 z15 σ2 from ⟨hR, hF⟩)
      · replace hp13_0 := hp13_0.resolve_left (by omega)
        refine lv_aload_n hx hb dX12_odds_34 rfl (lv_at hl 0 rfl) ?_
        refine fg_12_6 (k := 387) hx hb hts in_X12_odds_12 hown hK hP (by decide) (by decide) (hts _ lk_X12_odds_33) dX12_odds_35 ?_
        refine r_iconst hx hb dX12_odds_38 (by decide) (fun z16 ez16 => ?_)
        refine ad_ms (k := 389) (j := 2) hx hb hK hP (by decide) (by decide) (by omega) (by omega) dX12_odds_39 ?_
        have hr17 := ra_ms_1 hR (k := 389) (j := 2) (by decide) (by decide) (by decide) (by decide)
        refine r_if_ne (tgt := 45) hx hb dX12_odds_40 (by decide) (fun c18 => ?_) (fun c18 => ?_)
        · refine lv_aload_n hx hb dX12_odds_45 rfl (lv_at hl 0 rfl) ?_
          refine r_cVv (k := 387) (As := []) (rest := []) ⟨hx, hb, hml, hown, hts⟩ hK hP hN hS (c_X12_tries l D cA ad hI σ2 τ13 hR) (cwV 0 hts gX12_odds_X12_tries rfl rfl rfl (by decide +kernel) ⟨by decide, by decide⟩) (rv_M hK hP (by decide) (by decide)) rfl hl.1 rfl (Nat.le_of_ble_eq_true rfl) dX12_odds_46 (Nat.zero_le _) (Nat.zero_le _) (fun u19 H19 locs19 hp19 hP hS => ?_)
          obtain ⟨σ19, τ19⟩ := u19
          obtain ⟨hR, f19⟩ : P_X12_tries σ2 σ19 := hp19
          have hP : va_P D vwCl (gw cA ad σ19 τ19) H19 := hP
          have hF := hF.step f19 (by decide)
          have gSI := SI.fr gSI hR f19 (by decide)
          have t20 : (σ19 389 2).toInt = (σ2 389 2).toInt := congrArg Int32.toInt (f19.at 389 2 (by decide))
          refine r_iconst hx hb dX12_odds_49 (by decide) (fun z21 ez21 => ?_)
          refine lv_istore (lv' := [(5, .int z21), (0, .ref (ad 387)), (1, .int a1), (2, .int a2), (3, .int a3), (4, .int a4)]) hx hb dX12_odds_50 hl (by decide) rfl (fun ls hl => ?_)
          refine r_iconst hx hb dX12_odds_52 (by decide) (fun z22 ez22 => ?_)
          refine lv_istore (lv' := [(6, .int z22), (5, .int z21), (0, .ref (ad 387)), (1, .int a1), (2, .int a2), (3, .int a3), (4, .int a4)]) hx hb dX12_odds_53 hl (by decide) rfl (fun ls hl => ?_)
          exact K55 σ19 τ19 H19 locs19 z21 z22 ls hR hF hP hS (by omega) (by omega) (by omega) (by omega) (by omega) (by omega) gSI (lv_sub hl [2, 3, 4, 5, 6, 1, 0] rfl) (by omega)
        · refine r_iconst hx hb dX12_odds_43 (by decide) (fun z23 ez23 => ?_)
          exact r_iret hx hb hr hK hP hS hk dX12_odds_44 (show P_X12_odds σ0 a1 a2 a3 a4 z23 σ2 from ⟨hR, hF⟩)
theorem in_X12_livesLine_12 : ∀ w ∈ u_ws RX12 TX12 47, w ∈ wsX12_livesLine := by decide +kernel
theorem lk_X12_livesLine_33 : Cond.fieldLink RX12 33 "CuckooSharesModel" "s" "[I" ∈ wsX12_livesLine := by decide +kernel
abbrev L_X12_livesLine : List Rc := [(394, 394, 0, 7), (395, 395, 0, 7), (396, 396, 0, 7), (387, 387, 26, 26), (397, 397, 0, 7), (389, 389, 211, 245)]
def P_X12_livesLine (σ0 : Nat → Nat → Int32) (a1 : Int32) (a2 : Int32) (a3 : Int32) (σ : Nat → Nat → Int32) : Prop := Rg σ ∧ Fr L_X12_livesLine σ0 σ
set_option maxHeartbeats 4000000 in
theorem c_X12_livesLine (l : Launch) (D : va_G) (cA : Nat → ClassId) (ad : Nat → Nat) (hI : Inj ad) (σ0 : Nat → Nat → Int32) (τ0 : Nat → Nat → Int64) (hR : Rg σ0) (a1 : Int32) (a2 : Int32) (a3 : Int32) (hq0 : a1.toInt < 1 ∨ 3 < a1.toInt ∨ (0 ≤ a2.toInt ∧ a2.toInt ≤ 7)) (hq1 : a1.toInt ≠ 2 ∨ (0 ≤ a3.toInt ∧ a3.toInt ≤ 9)) (hq2 : a1.toInt ≠ 3 ∨ (0 ≤ a3.toInt ∧ a3.toInt ≤ 7)) (hq3 : a1.toInt ≠ 1 ∨ (0 ≤ a3.toInt ∧ a3.toInt ≤ 7)) (hq4 : a1.toInt ≠ 0 ∨ (0 ≤ a2.toInt ∧ a2.toInt ≤ 3)) : Met l yX12_livesLine wsX12_livesLine ({ frames := 5, cells := 0, slots := 0, locals := 112 } : Room) (WQc D cA ad [.ref (ad 387), .int a1, .int a2, .int a3] σ0 τ0) (va_Qv (fun u : SS => P_X12_livesLine σ0 a1 a2 a3 u.1) (WB D cA ad) (AA ad)) 0 0 (AA ad) := by
  refine Met.ofW (cc := cX12_livesLine) (maxL := 4) (ret := none) (by decide) rfl ?_
  intro p e s m args below meth c s₁ B hml hv
  obtain ⟨rfl, hP, hK, hN⟩ := hv
  have C : Cy p s m _ meth c cX12_livesLine 4 wsX12_livesLine RX12 D cA ad none := ⟨B.exec, B.bytes, hml, findClass_of_methodNamed B.named, atoms_spec (ws := wsX12_livesLine) B.pre, hK, B.notSynchronized, B.returns, hI, hN⟩
  have hl := lv_entry ([.ref (ad 387), .int a1, .int a2, .int a3]) (n := 4) (Nat.le_of_ble_eq_true rfl)
  rw [lg_entry_eq]
  generalize (lg_sl ([.ref (ad 387), .int a1, .int a2, .int a3]) ++ List.replicate (4 - (lg_sl ([.ref (ad 387), .int a1, .int a2, .int a3])).length) Slot.unset).toArray = ls at hl ⊢
  have hl : lv_has ls 4 [(0, .ref (ad 387)), (1, .int a1), (2, .int a2), (3, .int a3)] := hl
  have hS : va_S (AA ad) s.heap s.heap [] := va_S.rf
  have hF : Fr L_X12_livesLine σ0 σ0 := Fr.rf
  obtain ⟨hx, hb, _, hown, hts, _, hk, hr, _, _⟩ := C
  refine lv_iload_n hx hb dX12_livesLine_0 rfl (lv_at hl 1 rfl) ?_
  by_cases c1 : a1.toInt = 0
  · refine lv_tableIn (off := 35) (tgt := 36) hx hb dX12_livesLine_1 (by omega) (by omega) (by rw [c1]; rfl) (by decide) ?_
    refine lv_aload_n hx hb dX12_livesLine_36 rfl (lv_at hl 0 rfl) ?_
    refine fg_12_6 (k := 387) hx hb hts in_X12_livesLine_12 hown hK hP (by decide) (by decide) (hts _ lk_X12_livesLine_33) dX12_livesLine_37 ?_
    refine r_sipush hx hb dX12_livesLine_40 (by decide) (fun z2 ez2 => ?_)
    refine lv_iload_n hx hb dX12_livesLine_43 rfl (lv_at hl 2 rfl) ?_
    refine r_iconst hx hb dX12_livesLine_44 (by decide) (fun z3 ez3 => ?_)
    refine r_iadd hx hb dX12_livesLine_45 (by omega) (fun z4 ez4 => ?_)
    refine as_ms (k := 389) (j := 212) hx hb hK hP hI hR hS (by decide) (by decide) (by omega) (by omega) (rw_ms_5 (by decide) (by decide) (by decide) (by decide) (by omega)) dX12_livesLine_46 (fun σ5 H5 locs5 u5 v5 hR hP hS => ?_)
    have hF := hF.puts u5 5 rfl (by decide) (by decide) (by decide) (by decide)
    refine lv_goto (tgt := 116) hx hb dX12_livesLine_47 (by decide) ?_
    exact r_vret hx hb hr hK hP hS hk dX12_livesLine_116 (show P_X12_livesLine σ0 a1 a2 a3 σ5 from ⟨hR, hF⟩)
  by_cases c6 : a1.toInt = 1
  · refine lv_tableIn (off := 49) (tgt := 50) hx hb dX12_livesLine_1 (by omega) (by omega) (by rw [c6]; rfl) (by decide) ?_
    refine lv_aload_n hx hb dX12_livesLine_50 rfl (lv_at hl 0 rfl) ?_
    refine fg_12_6 (k := 387) hx hb hts in_X12_livesLine_12 hown hK hP (by decide) (by decide) (hts _ lk_X12_livesLine_33) dX12_livesLine_51 ?_
    refine r_sipush hx hb dX12_livesLine_54 (by decide) (fun z7 ez7 => ?_)
    refine lv_iload_n hx hb dX12_livesLine_57 rfl (lv_at hl 2 rfl) ?_
    refine r_iadd hx hb dX12_livesLine_58 (by omega) (fun z8 ez8 => ?_)
    refine lv_iload_n hx hb dX12_livesLine_59 rfl (lv_at hl 3 rfl) ?_
    obtain ⟨j9, ej9⟩ : ∃ j : Nat, z8.toInt = (j : Int) := ⟨_, ti_nat (by omega)⟩
    refine as_ms (k := 389) (j := j9) hx hb hK hP hI hR hS (by decide) (by decide) ej9 (by omega) (rw_ms_6 (by decide) (by decide) (by omega) (by omega) (by omega)) dX12_livesLine_60 (fun σ10 H10 locs10 u10 v10 hR hP hS => ?_)
    have hF := hF.puts u10 5 rfl (by decide) (by decide) (by omega) (by omega)
    refine lv_goto (tgt := 116) hx hb dX12_livesLine_61 (by decide) ?_
    exact r_vret hx hb hr hK hP hS hk dX12_livesLine_116 (show P_X12_livesLine σ0 a1 a2 a3 σ10 from ⟨hR, hF⟩)
  by_cases c11 : a1.toInt = 2
  · refine lv_tableIn (off := 63) (tgt := 64) hx hb dX12_livesLine_1 (by omega) (by omega) (by rw [c11]; rfl) (by decide) ?_
    refine lv_aload_n hx hb dX12_livesLine_64 rfl (lv_at hl 0 rfl) ?_
    refine lv_iload_n hx hb dX12_livesLine_65 rfl (lv_at hl 2 rfl) ?_
    refine lv_iload_n hx hb dX12_livesLine_66 rfl (lv_at hl 3 rfl) ?_
    refine r_cVv (k := 387) (As := [.int a2, .int a3]) (rest := []) ⟨hx, hb, hml, hown, hts⟩ hK hP hN hS (c_X12_swearsTo l D cA ad hI σ0 τ0 hR a2 a3 (by omega) (by omega)) (cwV 2 hts gX12_livesLine_X12_swearsTo rfl rfl rfl (by decide +kernel) ⟨by decide, by decide⟩) (rv_M hK hP (by decide) (by decide)) rfl hl.1 rfl (Nat.le_of_ble_eq_true rfl) dX12_livesLine_67 (Nat.zero_le _) (Nat.zero_le _) (fun u12 H12 locs12 hp12 hP hS => ?_)
    obtain ⟨σ12, τ12⟩ := u12
    obtain ⟨hR, f12⟩ : P_X12_swearsTo σ0 a2 a3 σ12 := hp12
    have hP : va_P D vwCl (gw cA ad σ12 τ12) H12 := hP
    have hF := hF.step f12 (by decide)
    refine lv_goto (tgt := 116) hx hb dX12_livesLine_70 (by decide) ?_
    exact r_vret hx hb hr hK hP hS hk dX12_livesLine_116 (show P_X12_livesLine σ0 a1 a2 a3 σ12 from ⟨hR, hF⟩)
  by_cases c13 : a1.toInt = 3
  · refine lv_tableIn (off := 72) (tgt := 73) hx hb dX12_livesLine_1 (by omega) (by omega) (by rw [c13]; rfl) (by decide) ?_
    refine lv_aload_n hx hb dX12_livesLine_73 rfl (lv_at hl 0 rfl) ?_
    refine lv_iload_n hx hb dX12_livesLine_74 rfl (lv_at hl 2 rfl) ?_
    refine lv_iload_n hx hb dX12_livesLine_75 rfl (lv_at hl 3 rfl) ?_
    refine r_cVv (k := 387) (As := [.int a2, .int a3]) (rest := []) ⟨hx, hb, hml, hown, hts⟩ hK hP hN hS (c_X12_accuses l D cA ad hI σ0 τ0 hR a2 a3 (by omega) (by omega)) (cwV 2 hts gX12_livesLine_X12_accuses rfl rfl rfl (by decide +kernel) ⟨by decide, by decide⟩) (rv_M hK hP (by decide) (by decide)) rfl hl.1 rfl (Nat.le_of_ble_eq_true rfl) dX12_livesLine_76 (Nat.zero_le _) (Nat.zero_le _) (fun u14 H14 locs14 hp14 hP hS => ?_)
    obtain ⟨σ14, τ14⟩ := u14
    obtain ⟨hR, f14⟩ : P_X12_accuses σ0 a2 a3 σ14 := hp14
    have hP : va_P D vwCl (gw cA ad σ14 τ14) H14 := hP
    have hF := hF.step f14 (by decide)
    refine lv_goto (tgt := 116) hx hb dX12_livesLine_79 (by decide) ?_
    exact r_vret hx hb hr hK hP hS hk dX12_livesLine_116 (show P_X12_livesLine σ0 a1 a2 a3 σ14 from ⟨hR, hF⟩)
  by_cases c15 : a1.toInt = 4
  · refine lv_tableIn (off := 81) (tgt := 82) hx hb dX12_livesLine_1 (by omega) (by omega) (by rw [c15]; rfl) (by decide) ?_
    refine lv_aload_n hx hb dX12_livesLine_82 rfl (lv_at hl 0 rfl) ?_
    refine r_cVv (k := 387) (As := []) (rest := []) ⟨hx, hb, hml, hown, hts⟩ hK hP hN hS (c_X12_sharesNow l D cA ad hI σ0 τ0 hR) (cwV 0 hts gX12_livesLine_X12_sharesNow rfl rfl rfl (by decide +kernel) ⟨by decide, by decide⟩) (rv_M hK hP (by decide) (by decide)) rfl hl.1 rfl (Nat.le_of_ble_eq_true rfl) dX12_livesLine_83 (Nat.zero_le _) (Nat.zero_le _) (fun u16 H16 locs16 hp16 hP hS => ?_)
    obtain ⟨σ16, τ16⟩ := u16
    obtain ⟨hR, f16⟩ : P_X12_sharesNow σ0 σ16 := hp16
    have hP : va_P D vwCl (gw cA ad σ16 τ16) H16 := hP
    have hF := hF.step f16 (by decide)
    refine lv_aload_n hx hb dX12_livesLine_86 rfl (lv_at hl 0 rfl) ?_
    refine r_cVv (k := 387) (As := []) (rest := []) ⟨hx, hb, hml, hown, hts⟩ hK hP hN hS (c_X12_ends l D cA ad hI σ16 τ16 hR) (cwV 0 hts gX12_livesLine_X12_ends rfl rfl rfl (by decide +kernel) ⟨by decide, by decide⟩) (rv_M hK hP (by decide) (by decide)) rfl hl.1 rfl (Nat.le_of_ble_eq_true rfl) dX12_livesLine_87 (Nat.zero_le _) (Nat.zero_le _) (fun u17 H17 locs17 hp17 hP hS => ?_)
    obtain ⟨σ17, τ17⟩ := u17
    obtain ⟨hR, f17⟩ : P_X12_ends σ16 σ17 := hp17
    have hP : va_P D vwCl (gw cA ad σ17 τ17) H17 := hP
    have hF := hF.step f17 (by decide)
    refine lv_goto (tgt := 116) hx hb dX12_livesLine_90 (by decide) ?_
    exact r_vret hx hb hr hK hP hS hk dX12_livesLine_116 (show P_X12_livesLine σ0 a1 a2 a3 σ17 from ⟨hR, hF⟩)
  refine lv_tableOut (tgt := 93) hx hb dX12_livesLine_1 (by omega) (by decide) ?_
  refine lv_aload_n hx hb dX12_livesLine_93 rfl (lv_at hl 0 rfl) ?_
  refine fg_12_6 (k := 387) hx hb hts in_X12_livesLine_12 hown hK hP (by decide) (by decide) (hts _ lk_X12_livesLine_33) dX12_livesLine_94 ?_
  refine r_sipush hx hb dX12_livesLine_97 (by decide) (fun z18 ez18 => ?_)
  refine r_bipush hx hb dX12_livesLine_100 (by decide) (fun z19 ez19 => ?_)
  refine lv_aload_n hx hb dX12_livesLine_102 rfl (lv_at hl 0 rfl) ?_
  refine fg_12_6 (k := 387) hx hb hts in_X12_livesLine_12 hown hK hP (by decide) (by decide) (hts _ lk_X12_livesLine_33) dX12_livesLine_103 ?_
  refine r_sipush hx hb dX12_livesLine_106 (by decide) (fun z20 ez20 => ?_)
  refine ad_ms (k := 389) (j := 213) hx hb hK hP (by decide) (by decide) (by omega) (by omega) dX12_livesLine_109 ?_
  refine lv_iload_n hx hb dX12_livesLine_110 rfl (lv_at hl 2 rfl) ?_
  refine r_iaddU hx hb dX12_livesLine_111 (fun z21 => ?_)
  refine r_cSi (As := [.int z19, .int z21]) (rest := [.int z18, .ref (ad 389)]) ⟨hx, hb, hml, hown, hts⟩ hK hP hN hS (c_X12_lesser l D cA ad hI σ0 τ0 hR z19 z21 (by omega)) (va_cwS 2 hts gX12_livesLine_X12_lesser rfl rfl rfl (by decide +kernel) ⟨by decide, by decide⟩) rfl hl.1 rfl (Nat.le_of_ble_eq_true rfl) dX12_livesLine_112 (Nat.zero_le _) (Nat.zero_le _) (fun r22 u22 H22 locs22 hp22 hP hS => ?_)
  obtain ⟨σ22, τ22⟩ := u22
  obtain ⟨hR, f22, hq22⟩ : P_X12_lesser σ0 z19 z21 r22 σ22 := hp22
  have hP : va_P D vwCl (gw cA ad σ22 τ22) H22 := hP
  obtain rfl := Fr.nil f22
  refine as_ms (k := 389) (j := 213) hx hb hK hP hI hR hS (by decide) (by decide) (by omega) (by omega) (rx_ms_213 (by decide) (by decide) (by decide) (by decide)) dX12_livesLine_115 (fun σ23 H23 locs23 u23 v23 hR hP hS => ?_)
  have hF := hF.puts u23 5 rfl (by decide) (by decide) (by decide) (by decide)
  exact r_vret hx hb hr hK hP hS hk dX12_livesLine_116 (show P_X12_livesLine σ0 a1 a2 a3 σ23 from ⟨hR, hF⟩)
theorem in_X12_rollLine_12 : ∀ w ∈ u_ws RX12 TX12 47, w ∈ wsX12_rollLine := by decide +kernel
theorem lk_X12_rollLine_115 : Cond.constantLong RX12 115 (427071202675) ∈ wsX12_rollLine := by decide +kernel
theorem lk_X12_rollLine_117 : Cond.constantLong RX12 117 (1752135026) ∈ wsX12_rollLine := by decide +kernel
theorem lk_X12_rollLine_119 : Cond.constantLong RX12 119 (470021465459) ∈ wsX12_rollLine := by decide +kernel
theorem lk_X12_rollLine_121 : Cond.constantLong RX12 121 (126956639187571) ∈ wsX12_rollLine := by decide +kernel
theorem lk_X12_rollLine_123 : Cond.constantLong RX12 123 (426836257907) ∈ wsX12_rollLine := by decide +kernel
theorem lk_X12_rollLine_125 : Cond.constantLong RX12 125 (126892148680051) ∈ wsX12_rollLine := by decide +kernel
theorem lk_X12_rollLine_195 : Cond.fieldLink RX12 195 "CuckooSharesModel" "got" "I" ∈ wsX12_rollLine := by decide +kernel
theorem lk_X12_rollLine_33 : Cond.fieldLink RX12 33 "CuckooSharesModel" "s" "[I" ∈ wsX12_rollLine := by decide +kernel
theorem lk_X12_rollLine_40 : Cond.fieldLink RX12 40 "CuckooSharesModel" "read" "[I" ∈ wsX12_rollLine := by decide +kernel
theorem lk_X12_rollLine_416 : Cond.fieldLink RX12 416 "CuckooSharesModel" "told" "I" ∈ wsX12_rollLine := by decide +kernel
abbrev L_X12_rollLine : List Rc := [(387, 387, 4, 4), (387, 387, 18, 18), (387, 387, 11, 16), (391, 391, 0, 122)]
def P_X12_rollLine (σ0 : Nat → Nat → Int32)  (r : Int32) (σ : Nat → Nat → Int32) : Prop := Rg σ ∧ Fr L_X12_rollLine σ0 σ ∧ (0 ≤ r.toInt ∧ r.toInt ≤ 1) ∧ ((σ0 387 4).toInt ≤ (σ 387 4).toInt) ∧ (r.toInt = 0 ∨ (σ 387 11).toInt ≠ 3 ∨ (σ0 387 4).toInt < (σ 387 4).toInt) ∧ (r.toInt = 0 ∨ ((σ0 387 34).toInt ≤ 39 ∧ RLs σ0 σ))
set_option maxHeartbeats 4000000 in
theorem c_X12_rollLine (l : Launch) (D : va_G) (cA : Nat → ClassId) (ad : Nat → Nat) (hI : Inj ad) (σ0 : Nat → Nat → Int32) (τ0 : Nat → Nat → Int64) (hR : Rg σ0)   : Met l yX12_rollLine wsX12_rollLine ({ frames := 3, cells := 0, slots := 0, locals := 67 } : Room) (WQc D cA ad [.ref (ad 387)] σ0 τ0) (va_Qi (fun (r : Int32) (u : SS) => P_X12_rollLine σ0 r u.1) (WB D cA ad) (AA ad)) 0 0 (AA ad) := by
  refine Met.ofW (cc := cX12_rollLine) (maxL := 4) (ret := (some .boolean)) (by decide) rfl ?_
  intro p e s m args below meth c s₁ B hml hv
  obtain ⟨rfl, hP, hK, hN⟩ := hv
  have C : Cy p s m _ meth c cX12_rollLine 4 wsX12_rollLine RX12 D cA ad (some .boolean) := ⟨B.exec, B.bytes, hml, findClass_of_methodNamed B.named, atoms_spec (ws := wsX12_rollLine) B.pre, hK, B.notSynchronized, B.returns, hI, hN⟩
  have hl := lv_entry ([.ref (ad 387)]) (n := 4) (Nat.le_of_ble_eq_true rfl)
  rw [lg_entry_eq]
  generalize (lg_sl ([.ref (ad 387)]) ++ List.replicate (4 - (lg_sl ([.ref (ad 387)])).length) Slot.unset).toArray = ls at hl ⊢
  have hl : lv_has ls 4 [(0, .ref (ad 387))] := hl
  have hS : va_S (AA ad) s.heap s.heap [] := va_S.rf
  have hF : Fr L_X12_rollLine σ0 σ0 := Fr.rf
  obtain ⟨hx, hb, _, hown, hts, _, hk, hr, _, _⟩ := C
  have hrt4 := rg_12_4 hR (k := 387) (by decide) (by decide)
  have hrt3 := rg_12_3 hR (k := 387) (by decide) (by decide)
  have hrt34 := rg_12_34 hR (k := 387) (by decide) (by decide)
  have gRXp : RXp σ0 σ0 := fun _ _ => rfl
  have hr34 := rg_12_34 hR (k := 387) (by decide) (by decide)
  refine r_iconst hx hb dX12_rollLine_0 (by decide) (fun z1 ez1 => ?_)
  refine lv_aload_n hx hb dX12_rollLine_1 rfl (lv_at hl 0 rfl) ?_
  refine fg_12_34 (k := 387) hx hb hts in_X12_rollLine_12 hown hK hP (by decide) (by decide) (hts _ lk_X12_rollLine_416) dX12_rollLine_2 ?_
  refine r_imulL (n := 3) hx hb dX12_rollLine_5 (by omega) (by omega) (fun z2 ez2 => ?_)
  refine lv_istore_n (lv' := [(1, .int z2), (0, .ref (ad 387))]) hx hb dX12_rollLine_6 rfl hl (by decide) rfl (fun ls hl => ?_)
  refine lv_aload_n hx hb dX12_rollLine_7 rfl (lv_at hl 1 rfl) ?_
  refine lv_ldc2 (v := 427071202675) hx hb hown (hts _ lk_X12_rollLine_115) dX12_rollLine_8 ?_
  refine r_cVi (k := 387) (As := [.long (427071202675)]) (rest := []) ⟨hx, hb, hml, hown, hts⟩ hK hP hN hS (c_X12_isWord l D cA ad hI σ0 τ0 hR (427071202675)) (cwV 1 hts gX12_rollLine_X12_isWord rfl rfl rfl (by decide +kernel) ⟨by decide, by decide⟩) (rv_M hK hP (by decide) (by decide)) rfl hl.1 rfl (Nat.le_of_ble_eq_true rfl) dX12_rollLine_11 (Nat.zero_le _) (Nat.zero_le _) (fun r3 u3 H3 locs3 hp3 hP hS => ?_)
  obtain ⟨σ3, τ3⟩ := u3
  obtain ⟨hR, f3, hq3, hp3_0⟩ : P_X12_isWord σ0 (427071202675) r3 σ3 := hp3
  have hP : va_P D vwCl (gw cA ad σ3 τ3) H3 := hP
  obtain rfl := Fr.nil f3
  refine r_if_eq (tgt := 21) hx hb dX12_rollLine_14 (by decide) (fun c4 => ?_) (fun c4 => ?_)
  · clear hp3_0
    refine lv_aload_n hx hb dX12_rollLine_21 rfl (lv_at hl 1 rfl) ?_
    refine lv_ldc2 (v := 126892148680051) hx hb hown (hts _ lk_X12_rollLine_125) dX12_rollLine_22 ?_
    refine r_cVi (k := 387) (As := [.long (126892148680051)]) (rest := []) ⟨hx, hb, hml, hown, hts⟩ hK hP hN hS (c_X12_isWord l D cA ad hI σ0 τ3 hR (126892148680051)) (cwV 1 hts gX12_rollLine_X12_isWord rfl rfl rfl (by decide +kernel) ⟨by decide, by decide⟩) (rv_M hK hP (by decide) (by decide)) rfl hl.1 rfl (Nat.le_of_ble_eq_true rfl) dX12_rollLine_25 (Nat.zero_le _) (Nat.zero_le _) (fun r5 u5 H5 locs5 hp5 hP hS => ?_)
    obtain ⟨σ5, τ5⟩ := u5
    obtain ⟨hR, f5, hq5, hp5_0⟩ : P_X12_isWord σ0 (126892148680051) r5 σ5 := hp5
    have hP : va_P D vwCl (gw cA ad σ5 τ5) H5 := hP
    obtain rfl := Fr.nil f5
    refine r_if_eq (tgt := 35) hx hb dX12_rollLine_28 (by decide) (fun c6 => ?_) (fun c6 => ?_)
    · clear hp5_0
      refine lv_aload_n hx hb dX12_rollLine_35 rfl (lv_at hl 1 rfl) ?_
      refine lv_ldc2 (v := 1752135026) hx hb hown (hts _ lk_X12_rollLine_117) dX12_rollLine_36 ?_
      refine r_cVi (k := 387) (As := [.long (1752135026)]) (rest := []) ⟨hx, hb, hml, hown, hts⟩ hK hP hN hS (c_X12_isWord l D cA ad hI σ0 τ5 hR (1752135026)) (cwV 1 hts gX12_rollLine_X12_isWord rfl rfl rfl (by decide +kernel) ⟨by decide, by decide⟩) (rv_M hK hP (by decide) (by decide)) rfl hl.1 rfl (Nat.le_of_ble_eq_true rfl) dX12_rollLine_39 (Nat.zero_le _) (Nat.zero_le _) (fun r7 u7 H7 locs7 hp7 hP hS => ?_)
      obtain ⟨σ7, τ7⟩ := u7
      obtain ⟨hR, f7, hq7, hp7_0⟩ : P_X12_isWord σ0 (1752135026) r7 σ7 := hp7
      have hP : va_P D vwCl (gw cA ad σ7 τ7) H7 := hP
      obtain rfl := Fr.nil f7
      refine r_if_eq (tgt := 49) hx hb dX12_rollLine_42 (by decide) (fun c8 => ?_) (fun c8 => ?_)
      · clear hp7_0
        refine r_iconst hx hb dX12_rollLine_49 (by decide) (fun z9 ez9 => ?_)
        refine lv_istore_n (lv' := [(2, .int z9), (1, .int z2), (0, .ref (ad 387))]) hx hb dX12_rollLine_50 rfl hl (by decide) rfl (fun ls hl => ?_)
        refine lv_iload_n hx hb dX12_rollLine_51 rfl (lv_at hl 0 rfl) ?_
        refine r_if_lt (tgt := 130) hx hb dX12_rollLine_52 (by decide) (fun c10 => ?_) (fun c10 => ?_)
        · refine lv_aload_n hx hb dX12_rollLine_130 rfl (lv_at hl 2 rfl) ?_
          refine r_bipush hx hb dX12_rollLine_131 (by decide) (fun z11 ez11 => ?_)
          refine lv_aload_n hx hb dX12_rollLine_133 rfl (lv_at hl 2 rfl) ?_
          refine fg_12_6 (k := 387) hx hb hts in_X12_rollLine_12 hown hK hP (by decide) (by decide) (hts _ lk_X12_rollLine_33) dX12_rollLine_134 ?_
          refine r_iconst hx hb dX12_rollLine_137 (by decide) (fun z12 ez12 => ?_)
          refine ad_ms (k := 389) (j := 1) hx hb hK hP (by decide) (by decide) (by omega) (by omega) dX12_rollLine_138 ?_
          have hr13 := ra_ms_0 hR (k := 389) (j := 1) (by decide) (by decide) (by decide) (by decide)
          refine r_cVi (k := 387) (As := [.int z11, .int (σ0 389 1)]) (rest := []) ⟨hx, hb, hml, hown, hts⟩ hK hP hN hS (c_X12_looksAt l D cA ad hI σ0 τ7 hR z11 (σ0 389 1) (by omega) (by omega)) (cwV 2 hts gX12_rollLine_X12_looksAt rfl rfl rfl (by decide +kernel) ⟨by decide, by decide⟩) (rv_M hK hP (by decide) (by decide)) rfl hl.1 rfl (Nat.le_of_ble_eq_true rfl) dX12_rollLine_139 (Nat.zero_le _) (Nat.zero_le _) (fun r14 u14 H14 locs14 hp14 hP hS => ?_)
          obtain ⟨σ14, τ14⟩ := u14
          obtain ⟨hR, f14, hq14, hp14_0, hp14_1⟩ : P_X12_looksAt σ0 z11 (σ0 389 1) r14 σ14 := hp14
          have hP : va_P D vwCl (gw cA ad σ14 τ14) H14 := hP
          have hF := hF.step f14 (by decide)
          have gRXp := RXp.fr gRXp (by omega) f14 (by decide)
          have t15 : (σ14 387 4).toInt = (σ0 387 4).toInt := congrArg Int32.toInt (f14.at 387 4 (by decide))
          have t16 : (σ14 387 3).toInt = (σ0 387 3).toInt := congrArg Int32.toInt (f14.at 387 3 (by decide))
          have t17 : (σ14 387 11).toInt = (σ0 387 11).toInt := congrArg Int32.toInt (f14.at 387 11 (by decide))
          have t18 : (σ14 387 34).toInt = (σ0 387 34).toInt := congrArg Int32.toInt (f14.at 387 34 (by decide))
          have t19 : (σ14 389 1).toInt = (σ0 389 1).toInt := congrArg Int32.toInt (f14.at 389 1 (by decide))
          refine r_if_ne (tgt := 147) hx hb dX12_rollLine_142 (by decide) (fun c20 => ?_) (fun c20 => ?_)
          · replace hp14_0 := hp14_0.resolve_left (by omega)
            replace hp14_1 := hp14_1.resolve_left (by omega)
            refine lv_aload_n hx hb dX12_rollLine_147 rfl (lv_at hl 2 rfl) ?_
            refine fg_12_34 (k := 387) hx hb hts in_X12_rollLine_12 hown hK hP (by decide) (by decide) (hts _ lk_X12_rollLine_416) dX12_rollLine_148 ?_
            refine r_bipush hx hb dX12_rollLine_151 (by decide) (fun z21 ez21 => ?_)
            refine r_icmp_ne (tgt := 162) hx hb dX12_rollLine_153 (by decide) (fun c22 => ?_) (fun c22 => ?_)
            · refine lv_aload_n hx hb dX12_rollLine_162 rfl (lv_at hl 2 rfl) ?_
              refine fg_12_8 (k := 387) hx hb hts in_X12_rollLine_12 hown hK hP (by decide) (by decide) (hts _ lk_X12_rollLine_40) dX12_rollLine_163 ?_
              refine lv_iload_n hx hb dX12_rollLine_166 rfl (lv_at hl 1 rfl) ?_
              refine r_iconst hx hb dX12_rollLine_167 (by decide) (fun z23 ez23 => ?_)
              refine r_iadd hx hb dX12_rollLine_168 (by omega) (fun z24 ez24 => ?_)
              refine lv_aload_n hx hb dX12_rollLine_169 rfl (lv_at hl 2 rfl) ?_
              refine fg_12_18 (k := 387) hx hb hts in_X12_rollLine_12 hown hK hP (by decide) (by decide) (hts _ lk_X12_rollLine_195) dX12_rollLine_170 ?_
              obtain ⟨j25, ej25⟩ : ∃ j : Nat, z24.toInt = (j : Int) := ⟨_, ti_nat (by omega)⟩
              refine as_mread (k := 391) (j := j25) hx hb hK hP hI hR hS (by decide) (by decide) ej25 (by omega) dX12_rollLine_173 (fun σ26 H26 locs26 u26 v26 hR hP hS => ?_)
              have hF := hF.puts u26 3 rfl (by decide) (by decide) (by omega) (by omega)
              have gRXp := RXp.st gRXp u26 (by omega)
              have t27 : (σ26 387 4).toInt = (σ14 387 4).toInt := congrArg Int32.toInt (u26 387 4 (by omega))
              have t28 : (σ26 387 3).toInt = (σ14 387 3).toInt := congrArg Int32.toInt (u26 387 3 (by omega))
              have t29 : (σ26 387 11).toInt = (σ14 387 11).toInt := congrArg Int32.toInt (u26 387 11 (by omega))
              have t30 : (σ26 387 34).toInt = (σ14 387 34).toInt := congrArg Int32.toInt (u26 387 34 (by omega))
              have t31 : (σ26 389 1).toInt = (σ14 389 1).toInt := congrArg Int32.toInt (u26 389 1 (by omega))
              have t32 : (σ26 387 18).toInt = (σ14 387 18).toInt := congrArg Int32.toInt (u26 387 18 (by omega))
              refine lv_aload_n hx hb dX12_rollLine_174 rfl (lv_at hl 2 rfl) ?_
              refine r_cVv (k := 387) (As := []) (rest := []) ⟨hx, hb, hml, hown, hts⟩ hK hP hN hS (c_X12_next l D cA ad hI σ26 τ14 hR) (cwV 0 hts gX12_rollLine_X12_next rfl rfl rfl (by decide +kernel) ⟨by decide, by decide⟩) (rv_M hK hP (by decide) (by decide)) rfl hl.1 rfl (Nat.le_of_ble_eq_true rfl) dX12_rollLine_175 (Nat.zero_le _) (Nat.zero_le _) (fun u33 H33 locs33 hp33 hP hS => ?_)
              obtain ⟨σ33, τ33⟩ := u33
              obtain ⟨hR, f33, hp33_0, hp33_1, hp33_2⟩ : P_X12_next σ26 σ33 := hp33
              have hP : va_P D vwCl (gw cA ad σ33 τ33) H33 := hP
              have hF := hF.step f33 (by decide)
              have gRXp := RXp.fr gRXp (by omega) f33 (by decide)
              have t34 : (σ33 387 3).toInt = (σ26 387 3).toInt := congrArg Int32.toInt (f33.at 387 3 (by decide))
              have t35 : (σ33 387 34).toInt = (σ26 387 34).toInt := congrArg Int32.toInt (f33.at 387 34 (by decide))
              have t36 : (σ33 389 1).toInt = (σ26 389 1).toInt := congrArg Int32.toInt (f33.at 389 1 (by decide))
              have t37 : (σ33 387 18).toInt = (σ26 387 18).toInt := congrArg Int32.toInt (f33.at 387 18 (by decide))
              have t38 : (σ33 391 j25).toInt = (σ26 391 j25).toInt := congrArg Int32.toInt (f33.atV 391 j25 (by intro q hq; simp only [L_X12_next, List.mem_cons, List.not_mem_nil, or_false] at hq; rcases hq with rfl | rfl <;> dsimp only <;> omega))
              have hr39 := rg_12_4 hR (k := 387) (by decide) (by decide)
              refine lv_aload_n hx hb dX12_rollLine_178 rfl (lv_at hl 2 rfl) ?_
              refine lv_ldc2 (v := 470021465459) hx hb hown (hts _ lk_X12_rollLine_119) dX12_rollLine_179 ?_
              refine r_cVi (k := 387) (As := [.long (470021465459)]) (rest := []) ⟨hx, hb, hml, hown, hts⟩ hK hP hN hS (c_X12_isWord l D cA ad hI σ33 τ33 hR (470021465459)) (cwV 1 hts gX12_rollLine_X12_isWord rfl rfl rfl (by decide +kernel) ⟨by decide, by decide⟩) (rv_M hK hP (by decide) (by decide)) rfl hl.1 rfl (Nat.le_of_ble_eq_true rfl) dX12_rollLine_182 (Nat.zero_le _) (Nat.zero_le _) (fun r40 u40 H40 locs40 hp40 hP hS => ?_)
              obtain ⟨σ40, τ40⟩ := u40
              obtain ⟨hR, f40, hq40, hp40_0⟩ : P_X12_isWord σ33 (470021465459) r40 σ40 := hp40
              have hP : va_P D vwCl (gw cA ad σ40 τ40) H40 := hP
              obtain rfl := Fr.nil f40
              refine r_if_eq (tgt := 192) hx hb dX12_rollLine_185 (by decide) (fun c41 => ?_) (fun c41 => ?_)
              · clear hp40_0
                refine lv_aload_n hx hb dX12_rollLine_192 rfl (lv_at hl 2 rfl) ?_
                refine lv_ldc2 (v := 126956639187571) hx hb hown (hts _ lk_X12_rollLine_121) dX12_rollLine_193 ?_
                refine r_cVi (k := 387) (As := [.long (126956639187571)]) (rest := []) ⟨hx, hb, hml, hown, hts⟩ hK hP hN hS (c_X12_isWord l D cA ad hI σ33 τ40 hR (126956639187571)) (cwV 1 hts gX12_rollLine_X12_isWord rfl rfl rfl (by decide +kernel) ⟨by decide, by decide⟩) (rv_M hK hP (by decide) (by decide)) rfl hl.1 rfl (Nat.le_of_ble_eq_true rfl) dX12_rollLine_196 (Nat.zero_le _) (Nat.zero_le _) (fun r42 u42 H42 locs42 hp42 hP hS => ?_)
                obtain ⟨σ42, τ42⟩ := u42
                obtain ⟨hR, f42, hq42, hp42_0⟩ : P_X12_isWord σ33 (126956639187571) r42 σ42 := hp42
                have hP : va_P D vwCl (gw cA ad σ42 τ42) H42 := hP
                obtain rfl := Fr.nil f42
                refine r_if_eq (tgt := 206) hx hb dX12_rollLine_199 (by decide) (fun c43 => ?_) (fun c43 => ?_)
                · clear hp42_0
                  refine lv_aload_n hx hb dX12_rollLine_206 rfl (lv_at hl 2 rfl) ?_
                  refine lv_ldc2 (v := 426836257907) hx hb hown (hts _ lk_X12_rollLine_123) dX12_rollLine_207 ?_
                  refine r_cVi (k := 387) (As := [.long (426836257907)]) (rest := []) ⟨hx, hb, hml, hown, hts⟩ hK hP hN hS (c_X12_isWord l D cA ad hI σ33 τ42 hR (426836257907)) (cwV 1 hts gX12_rollLine_X12_isWord rfl rfl rfl (by decide +kernel) ⟨by decide, by decide⟩) (rv_M hK hP (by decide) (by decide)) rfl hl.1 rfl (Nat.le_of_ble_eq_true rfl) dX12_rollLine_210 (Nat.zero_le _) (Nat.zero_le _) (fun r44 u44 H44 locs44 hp44 hP hS => ?_)
                  obtain ⟨σ44, τ44⟩ := u44
                  obtain ⟨hR, f44, hq44, hp44_0⟩ : P_X12_isWord σ33 (426836257907) r44 σ44 := hp44
                  have hP : va_P D vwCl (gw cA ad σ44 τ44) H44 := hP
                  obtain rfl := Fr.nil f44
                  refine r_if_eq (tgt := 220) hx hb dX12_rollLine_213 (by decide) (fun c45 => ?_) (fun c45 => ?_)
                  · clear hp44_0
                    refine r_iconst hx hb dX12_rollLine_220 (by decide) (fun z46 ez46 => ?_)
                    refine lv_istore_n (lv' := [(3, .int z46), (2, .int z9), (1, .int z2), (0, .ref (ad 387))]) hx hb dX12_rollLine_221 rfl hl (by decide) rfl (fun ls hl => ?_)
                    refine lv_iload_n hx hb dX12_rollLine_222 rfl (lv_at hl 0 rfl) ?_
                    refine r_if_ge (tgt := 232) hx hb dX12_rollLine_223 (by decide) (fun c47 => ?_) (fun c47 => ?_)
                    · exfalso; omega
                    · refine lv_aload_n hx hb dX12_rollLine_226 rfl (lv_at hl 3 rfl) ?_
                      refine r_iconst hx hb dX12_rollLine_227 (by decide) (fun z48 ez48 => ?_)
                      refine r_cVi (k := 387) (As := [.int z48]) (rest := []) ⟨hx, hb, hml, hown, hts⟩ hK hP hN hS (c_X12_bad l D cA ad hI σ33 τ44 hR z48 (by omega)) (cwV 1 hts gX12_rollLine_X12_bad rfl rfl rfl (by decide +kernel) ⟨by decide, by decide⟩) (rv_M hK hP (by decide) (by decide)) rfl hl.1 rfl (Nat.le_of_ble_eq_true rfl) dX12_rollLine_228 (Nat.zero_le _) (Nat.zero_le _) (fun r49 u49 H49 locs49 hp49 hP hS => ?_)
                      obtain ⟨σ49, τ49⟩ := u49
                      obtain ⟨hR, f49, hq49⟩ : P_X12_bad σ33 z48 r49 σ49 := hp49
                      have hP : va_P D vwCl (gw cA ad σ49 τ49) H49 := hP
                      have hF := hF.step f49 (by decide)
                      have gRXp := RXp.fr gRXp (by omega) f49 (by decide)
                      have t50 : (σ49 387 3).toInt = (σ33 387 3).toInt := congrArg Int32.toInt (f49.at 387 3 (by decide))
                      have t51 : (σ49 387 34).toInt = (σ33 387 34).toInt := congrArg Int32.toInt (f49.at 387 34 (by decide))
                      have t52 : (σ49 389 1).toInt = (σ33 389 1).toInt := congrArg Int32.toInt (f49.at 389 1 (by decide))
                      have t53 : (σ49 387 18).toInt = (σ33 387 18).toInt := congrArg Int32.toInt (f49.at 387 18 (by decide))
                      have t54 : (σ49 391 j25).toInt = (σ33 391 j25).toInt := congrArg Int32.toInt (f49.atV 391 j25 (by intro q hq; simp only [L_X12_bad, List.mem_cons, List.not_mem_nil, or_false] at hq; rcases hq with rfl <;> dsimp only <;> omega))
                      have t55 : (σ49 387 4).toInt = (σ33 387 4).toInt := congrArg Int32.toInt (f49.at 387 4 (by decide))
                      have t56 : (σ49 387 11).toInt = (σ33 387 11).toInt := congrArg Int32.toInt (f49.at 387 11 (by decide))
                      exact r_zret hx hb hr hK hP hS hk (by omega) dX12_rollLine_231 (show P_X12_rollLine σ0 r49 σ49 from ⟨hR, hF, by omega, by omega, by omega, by first | exact Or.inl (by omega) | exact Or.inr ⟨by omega, gRXp, fun t ht => OKL.of_w (j := 0) (by omega) (by omega)⟩ | exact Or.inr ⟨by omega, gRXp, fun t ht => OKL.of3 (j1 := 0) (j2 := j25) (j3 := 0) (by omega) (by omega) (by omega) (by omega) (by omega) (by omega)⟩⟩)
                  · replace hp44_0 := hp44_0.resolve_left (by omega)
                    refine r_iconst hx hb dX12_rollLine_216 (by decide) (fun z57 ez57 => ?_)
                    refine lv_goto (tgt := 221) hx hb dX12_rollLine_217 (by decide) ?_
                    refine lv_istore_n (lv' := [(3, .int z57), (2, .int z9), (1, .int z2), (0, .ref (ad 387))]) hx hb dX12_rollLine_221 rfl hl (by decide) rfl (fun ls hl => ?_)
                    refine lv_iload_n hx hb dX12_rollLine_222 rfl (lv_at hl 0 rfl) ?_
                    refine r_if_ge (tgt := 232) hx hb dX12_rollLine_223 (by decide) (fun c58 => ?_) (fun c58 => ?_)
                    · refine lv_aload_n hx hb dX12_rollLine_232 rfl (lv_at hl 3 rfl) ?_
                      refine fg_12_8 (k := 387) hx hb hts in_X12_rollLine_12 hown hK hP (by decide) (by decide) (hts _ lk_X12_rollLine_40) dX12_rollLine_233 ?_
                      refine lv_iload_n hx hb dX12_rollLine_236 rfl (lv_at hl 2 rfl) ?_
                      refine lv_iload_n hx hb dX12_rollLine_237 rfl (lv_at hl 0 rfl) ?_
                      obtain ⟨j59, ej59⟩ : ∃ j : Nat, z2.toInt = (j : Int) := ⟨_, ti_nat (by omega)⟩
                      refine as_mread (k := 391) (j := j59) hx hb hK hP hI hR hS (by decide) (by decide) ej59 (by omega) dX12_rollLine_238 (fun σ60 H60 locs60 u60 v60 hR hP hS => ?_)
                      have hF := hF.puts u60 3 rfl (by decide) (by decide) (by omega) (by omega)
                      have gRXp := RXp.st gRXp u60 (by omega)
                      have t61 : (σ60 387 3).toInt = (σ33 387 3).toInt := congrArg Int32.toInt (u60 387 3 (by omega))
                      have t62 : (σ60 387 34).toInt = (σ33 387 34).toInt := congrArg Int32.toInt (u60 387 34 (by omega))
                      have t63 : (σ60 389 1).toInt = (σ33 389 1).toInt := congrArg Int32.toInt (u60 389 1 (by omega))
                      have t64 : (σ60 387 18).toInt = (σ33 387 18).toInt := congrArg Int32.toInt (u60 387 18 (by omega))
                      have t65 : (σ60 391 j25).toInt = (σ33 391 j25).toInt := congrArg Int32.toInt (u60 391 j25 (by omega))
                      have t66 : (σ60 387 4).toInt = (σ33 387 4).toInt := congrArg Int32.toInt (u60 387 4 (by omega))
                      have t67 : (σ60 387 11).toInt = (σ33 387 11).toInt := congrArg Int32.toInt (u60 387 11 (by omega))
                      refine lv_aload_n hx hb dX12_rollLine_239 rfl (lv_at hl 3 rfl) ?_
                      refine r_cVv (k := 387) (As := []) (rest := []) ⟨hx, hb, hml, hown, hts⟩ hK hP hN hS (c_X12_next l D cA ad hI σ60 τ44 hR) (cwV 0 hts gX12_rollLine_X12_next rfl rfl rfl (by decide +kernel) ⟨by decide, by decide⟩) (rv_M hK hP (by decide) (by decide)) rfl hl.1 rfl (Nat.le_of_ble_eq_true rfl) dX12_rollLine_240 (Nat.zero_le _) (Nat.zero_le _) (fun u68 H68 locs68 hp68 hP hS => ?_)
                      obtain ⟨σ68, τ68⟩ := u68
                      obtain ⟨hR, f68, hp68_0, hp68_1, hp68_2⟩ : P_X12_next σ60 σ68 := hp68
                      have hP : va_P D vwCl (gw cA ad σ68 τ68) H68 := hP
                      clear hp33_1
                      have hF := hF.step f68 (by decide)
                      have gRXp := RXp.fr gRXp (by omega) f68 (by decide)
                      have t69 : (σ68 387 3).toInt = (σ60 387 3).toInt := congrArg Int32.toInt (f68.at 387 3 (by decide))
                      have t70 : (σ68 387 34).toInt = (σ60 387 34).toInt := congrArg Int32.toInt (f68.at 387 34 (by decide))
                      have t71 : (σ68 389 1).toInt = (σ60 389 1).toInt := congrArg Int32.toInt (f68.at 389 1 (by decide))
                      have t72 : (σ68 387 18).toInt = (σ60 387 18).toInt := congrArg Int32.toInt (f68.at 387 18 (by decide))
                      have t73 : (σ68 391 j25).toInt = (σ60 391 j25).toInt := congrArg Int32.toInt (f68.atV 391 j25 (by intro q hq; simp only [L_X12_next, List.mem_cons, List.not_mem_nil, or_false] at hq; rcases hq with rfl | rfl <;> dsimp only <;> omega))
                      have t74 : (σ68 391 j59).toInt = (σ60 391 j59).toInt := congrArg Int32.toInt (f68.atV 391 j59 (by intro q hq; simp only [L_X12_next, List.mem_cons, List.not_mem_nil, or_false] at hq; rcases hq with rfl | rfl <;> dsimp only <;> omega))
                      have hr75 := rg_12_4 hR (k := 387) (by decide) (by decide)
                      refine lv_iload_n hx hb dX12_rollLine_243 rfl (lv_at hl 0 rfl) ?_
                      refine r_iconst hx hb dX12_rollLine_244 (by decide) (fun z76 ez76 => ?_)
                      refine r_icmp_ne (tgt := 261) hx hb dX12_rollLine_245 (by decide) (fun c77 => ?_) (fun c77 => ?_)
                      · refine lv_aload_n hx hb dX12_rollLine_261 rfl (lv_at hl 3 rfl) ?_
                        refine lv_iload_n hx hb dX12_rollLine_262 rfl (lv_at hl 0 rfl) ?_
                        refine r_iconst hx hb dX12_rollLine_263 (by decide) (fun z78 ez78 => ?_)
                        refine r_icmp_ne (tgt := 271) hx hb dX12_rollLine_264 (by decide) (fun c79 => ?_) (fun c79 => ?_)
                        · refine r_bipush hx hb dX12_rollLine_271 (by decide) (fun z80 ez80 => ?_)
                          refine lv_aload_n hx hb dX12_rollLine_273 rfl (lv_at hl 3 rfl) ?_
                          refine fg_12_6 (k := 387) hx hb hts in_X12_rollLine_12 hown hK hP (by decide) (by decide) (hts _ lk_X12_rollLine_33) dX12_rollLine_274 ?_
                          refine lv_iload_n hx hb dX12_rollLine_277 rfl (lv_at hl 0 rfl) ?_
                          refine r_iconst hx hb dX12_rollLine_278 (by decide) (fun z81 ez81 => ?_)
                          refine r_icmp_ne (tgt := 286) hx hb dX12_rollLine_279 (by decide) (fun c82 => ?_) (fun c82 => ?_)
                          · refine r_iconst hx hb dX12_rollLine_286 (by decide) (fun z83 ez83 => ?_)
                            refine ad_ms (k := 389) (j := 1) hx hb hK hP (by decide) (by decide) (by omega) (by omega) dX12_rollLine_287 ?_
                            have hr84 := ra_ms_0 hR (k := 389) (j := 1) (by decide) (by decide) (by decide) (by decide)
                            refine r_cVi (k := 387) (As := [.int z80, .int (σ68 389 1)]) (rest := []) ⟨hx, hb, hml, hown, hts⟩ hK hP hN hS (c_X12_takesName l D cA ad hI σ68 τ68 hR z80 (σ68 389 1) (by omega) (by omega)) (cwV 2 hts gX12_rollLine_X12_takesName rfl rfl rfl (by decide +kernel) ⟨by decide, by decide⟩) (rv_M hK hP (by decide) (by decide)) rfl hl.1 rfl (Nat.le_of_ble_eq_true rfl) dX12_rollLine_288 (Nat.zero_le _) (Nat.zero_le _) (fun r85 u85 H85 locs85 hp85 hP hS => ?_)
                            obtain ⟨σ85, τ85⟩ := u85
                            obtain ⟨hR, f85, hq85, hp85_0, hp85_1, hp85_2, hp85_3⟩ : P_X12_takesName σ68 z80 (σ68 389 1) r85 σ85 := hp85
                            have hP : va_P D vwCl (gw cA ad σ85 τ85) H85 := hP
                            clear hp68_1
                            have hF := hF.step f85 (by decide)
                            have gRXp := RXp.fr gRXp (by omega) f85 (by decide)
                            have t86 : (σ85 387 3).toInt = (σ68 387 3).toInt := congrArg Int32.toInt (f85.at 387 3 (by decide))
                            have t87 : (σ85 387 34).toInt = (σ68 387 34).toInt := congrArg Int32.toInt (f85.at 387 34 (by decide))
                            have t88 : (σ85 389 1).toInt = (σ68 389 1).toInt := congrArg Int32.toInt (f85.at 389 1 (by decide))
                            have t89 : (σ85 391 j25).toInt = (σ68 391 j25).toInt := congrArg Int32.toInt (f85.atV 391 j25 (by intro q hq; simp only [L_X12_takesName, List.mem_cons, List.not_mem_nil, or_false] at hq; rcases hq with rfl | rfl | rfl <;> dsimp only <;> omega))
                            have t90 : (σ85 391 j59).toInt = (σ68 391 j59).toInt := congrArg Int32.toInt (f85.atV 391 j59 (by intro q hq; simp only [L_X12_takesName, List.mem_cons, List.not_mem_nil, or_false] at hq; rcases hq with rfl | rfl | rfl <;> dsimp only <;> omega))
                            have hr91 := rg_12_4 hR (k := 387) (by decide) (by decide)
                            refine r_if_ne (tgt := 296) hx hb dX12_rollLine_291 (by decide) (fun c92 => ?_) (fun c92 => ?_)
                            · replace hp85_1 := hp85_1.resolve_left (by omega)
                              replace hp85_2 := hp85_2.resolve_left (by omega)
                              replace hp85_3 := hp85_3.resolve_left (by omega)
                              refine lv_aload_n hx hb dX12_rollLine_296 rfl (lv_at hl 3 rfl) ?_
                              refine fg_12_8 (k := 387) hx hb hts in_X12_rollLine_12 hown hK hP (by decide) (by decide) (hts _ lk_X12_rollLine_40) dX12_rollLine_297 ?_
                              refine lv_iload_n hx hb dX12_rollLine_300 rfl (lv_at hl 2 rfl) ?_
                              refine r_iconst hx hb dX12_rollLine_301 (by decide) (fun z93 ez93 => ?_)
                              refine r_iadd hx hb dX12_rollLine_302 (by omega) (fun z94 ez94 => ?_)
                              refine lv_aload_n hx hb dX12_rollLine_303 rfl (lv_at hl 3 rfl) ?_
                              refine fg_12_18 (k := 387) hx hb hts in_X12_rollLine_12 hown hK hP (by decide) (by decide) (hts _ lk_X12_rollLine_195) dX12_rollLine_304 ?_
                              obtain ⟨j95, ej95⟩ : ∃ j : Nat, z94.toInt = (j : Int) := ⟨_, ti_nat (by omega)⟩
                              refine as_mread (k := 391) (j := j95) hx hb hK hP hI hR hS (by decide) (by decide) ej95 (by omega) dX12_rollLine_307 (fun σ96 H96 locs96 u96 v96 hR hP hS => ?_)
                              have hF := hF.puts u96 3 rfl (by decide) (by decide) (by omega) (by omega)
                              have gRXp := RXp.st gRXp u96 (by omega)
                              have t97 : (σ96 387 3).toInt = (σ85 387 3).toInt := congrArg Int32.toInt (u96 387 3 (by omega))
                              have t98 : (σ96 387 34).toInt = (σ85 387 34).toInt := congrArg Int32.toInt (u96 387 34 (by omega))
                              have t99 : (σ96 389 1).toInt = (σ85 389 1).toInt := congrArg Int32.toInt (u96 389 1 (by omega))
                              have t100 : (σ96 391 j25).toInt = (σ85 391 j25).toInt := congrArg Int32.toInt (u96 391 j25 (by omega))
                              have t101 : (σ96 391 j59).toInt = (σ85 391 j59).toInt := congrArg Int32.toInt (u96 391 j59 (by omega))
                              have t102 : (σ96 387 4).toInt = (σ85 387 4).toInt := congrArg Int32.toInt (u96 387 4 (by omega))
                              have t103 : (σ96 387 11).toInt = (σ85 387 11).toInt := congrArg Int32.toInt (u96 387 11 (by omega))
                              have t104 : (σ96 387 18).toInt = (σ85 387 18).toInt := congrArg Int32.toInt (u96 387 18 (by omega))
                              refine r_iconst hx hb dX12_rollLine_308 (by decide) (fun z105 ez105 => ?_)
                              exact r_zret hx hb hr hK hP hS hk (by omega) dX12_rollLine_309 (show P_X12_rollLine σ0 z105 σ96 from ⟨hR, hF, by omega, by omega, by omega, by first | exact Or.inl (by omega) | exact Or.inr ⟨by omega, gRXp, fun t ht => OKL.of_w (j := j59) (by omega) (by omega)⟩ | exact Or.inr ⟨by omega, gRXp, fun t ht => OKL.of3 (j1 := j59) (j2 := j25) (j3 := j95) (by omega) (by omega) (by omega) (by omega) (by omega) (by omega)⟩⟩)
                            · clear hp85_1 hp85_2 hp85_3
                              refine r_iconst hx hb dX12_rollLine_294 (by decide) (fun z106 ez106 => ?_)
                              exact r_zret hx hb hr hK hP hS hk (by omega) dX12_rollLine_295 (show P_X12_rollLine σ0 z106 σ85 from ⟨hR, hF, by omega, by omega, by omega, by first | exact Or.inl (by omega) | exact Or.inr ⟨by omega, gRXp, fun t ht => OKL.of_w (j := j59) (by omega) (by omega)⟩ | exact Or.inr ⟨by omega, gRXp, fun t ht => OKL.of3 (j1 := j59) (j2 := j25) (j3 := 0) (by omega) (by omega) (by omega) (by omega) (by omega) (by omega)⟩⟩)
                          · exfalso; omega
                        · exfalso; omega
                      · exfalso; omega
                    · exfalso; omega
                · replace hp42_0 := hp42_0.resolve_left (by omega)
                  refine r_iconst hx hb dX12_rollLine_202 (by decide) (fun z107 ez107 => ?_)
                  refine lv_goto (tgt := 221) hx hb dX12_rollLine_203 (by decide) ?_
                  refine lv_istore_n (lv' := [(3, .int z107), (2, .int z9), (1, .int z2), (0, .ref (ad 387))]) hx hb dX12_rollLine_221 rfl hl (by decide) rfl (fun ls hl => ?_)
                  refine lv_iload_n hx hb dX12_rollLine_222 rfl (lv_at hl 0 rfl) ?_
                  refine r_if_ge (tgt := 232) hx hb dX12_rollLine_223 (by decide) (fun c108 => ?_) (fun c108 => ?_)
                  · refine lv_aload_n hx hb dX12_rollLine_232 rfl (lv_at hl 3 rfl) ?_
                    refine fg_12_8 (k := 387) hx hb hts in_X12_rollLine_12 hown hK hP (by decide) (by decide) (hts _ lk_X12_rollLine_40) dX12_rollLine_233 ?_
                    refine lv_iload_n hx hb dX12_rollLine_236 rfl (lv_at hl 2 rfl) ?_
                    refine lv_iload_n hx hb dX12_rollLine_237 rfl (lv_at hl 0 rfl) ?_
                    obtain ⟨j109, ej109⟩ : ∃ j : Nat, z2.toInt = (j : Int) := ⟨_, ti_nat (by omega)⟩
                    refine as_mread (k := 391) (j := j109) hx hb hK hP hI hR hS (by decide) (by decide) ej109 (by omega) dX12_rollLine_238 (fun σ110 H110 locs110 u110 v110 hR hP hS => ?_)
                    have hF := hF.puts u110 3 rfl (by decide) (by decide) (by omega) (by omega)
                    have gRXp := RXp.st gRXp u110 (by omega)
                    have t111 : (σ110 387 3).toInt = (σ33 387 3).toInt := congrArg Int32.toInt (u110 387 3 (by omega))
                    have t112 : (σ110 387 34).toInt = (σ33 387 34).toInt := congrArg Int32.toInt (u110 387 34 (by omega))
                    have t113 : (σ110 389 1).toInt = (σ33 389 1).toInt := congrArg Int32.toInt (u110 389 1 (by omega))
                    have t114 : (σ110 387 18).toInt = (σ33 387 18).toInt := congrArg Int32.toInt (u110 387 18 (by omega))
                    have t115 : (σ110 391 j25).toInt = (σ33 391 j25).toInt := congrArg Int32.toInt (u110 391 j25 (by omega))
                    have t116 : (σ110 387 4).toInt = (σ33 387 4).toInt := congrArg Int32.toInt (u110 387 4 (by omega))
                    have t117 : (σ110 387 11).toInt = (σ33 387 11).toInt := congrArg Int32.toInt (u110 387 11 (by omega))
                    refine lv_aload_n hx hb dX12_rollLine_239 rfl (lv_at hl 3 rfl) ?_
                    refine r_cVv (k := 387) (As := []) (rest := []) ⟨hx, hb, hml, hown, hts⟩ hK hP hN hS (c_X12_next l D cA ad hI σ110 τ42 hR) (cwV 0 hts gX12_rollLine_X12_next rfl rfl rfl (by decide +kernel) ⟨by decide, by decide⟩) (rv_M hK hP (by decide) (by decide)) rfl hl.1 rfl (Nat.le_of_ble_eq_true rfl) dX12_rollLine_240 (Nat.zero_le _) (Nat.zero_le _) (fun u118 H118 locs118 hp118 hP hS => ?_)
                    obtain ⟨σ118, τ118⟩ := u118
                    obtain ⟨hR, f118, hp118_0, hp118_1, hp118_2⟩ : P_X12_next σ110 σ118 := hp118
                    have hP : va_P D vwCl (gw cA ad σ118 τ118) H118 := hP
                    clear hp33_1
                    have hF := hF.step f118 (by decide)
                    have gRXp := RXp.fr gRXp (by omega) f118 (by decide)
                    have t119 : (σ118 387 3).toInt = (σ110 387 3).toInt := congrArg Int32.toInt (f118.at 387 3 (by decide))
                    have t120 : (σ118 387 34).toInt = (σ110 387 34).toInt := congrArg Int32.toInt (f118.at 387 34 (by decide))
                    have t121 : (σ118 389 1).toInt = (σ110 389 1).toInt := congrArg Int32.toInt (f118.at 389 1 (by decide))
                    have t122 : (σ118 387 18).toInt = (σ110 387 18).toInt := congrArg Int32.toInt (f118.at 387 18 (by decide))
                    have t123 : (σ118 391 j25).toInt = (σ110 391 j25).toInt := congrArg Int32.toInt (f118.atV 391 j25 (by intro q hq; simp only [L_X12_next, List.mem_cons, List.not_mem_nil, or_false] at hq; rcases hq with rfl | rfl <;> dsimp only <;> omega))
                    have t124 : (σ118 391 j109).toInt = (σ110 391 j109).toInt := congrArg Int32.toInt (f118.atV 391 j109 (by intro q hq; simp only [L_X12_next, List.mem_cons, List.not_mem_nil, or_false] at hq; rcases hq with rfl | rfl <;> dsimp only <;> omega))
                    have hr125 := rg_12_4 hR (k := 387) (by decide) (by decide)
                    refine lv_iload_n hx hb dX12_rollLine_243 rfl (lv_at hl 0 rfl) ?_
                    refine r_iconst hx hb dX12_rollLine_244 (by decide) (fun z126 ez126 => ?_)
                    refine r_icmp_ne (tgt := 261) hx hb dX12_rollLine_245 (by decide) (fun c127 => ?_) (fun c127 => ?_)
                    · exfalso; omega
                    · refine lv_aload_n hx hb dX12_rollLine_248 rfl (lv_at hl 3 rfl) ?_
                      refine r_iconst hx hb dX12_rollLine_249 (by decide) (fun z128 ez128 => ?_)
                      refine r_bipush hx hb dX12_rollLine_250 (by decide) (fun z129 ez129 => ?_)
                      refine r_cVi (k := 387) (As := [.int z128, .int z129]) (rest := []) ⟨hx, hb, hml, hown, hts⟩ hK hP hN hS (c_X12_takes l D cA ad hI σ118 τ118 hR z128 z129 (by omega)) (cwV 2 hts gX12_rollLine_X12_takes rfl rfl rfl (by decide +kernel) ⟨by decide, by decide⟩) (rv_M hK hP (by decide) (by decide)) rfl hl.1 rfl (Nat.le_of_ble_eq_true rfl) dX12_rollLine_252 (Nat.zero_le _) (Nat.zero_le _) (fun r130 u130 H130 locs130 hp130 hP hS => ?_)
                      obtain ⟨σ130, τ130⟩ := u130
                      obtain ⟨hR, f130, hq130, hp130_0, hp130_1, hp130_2⟩ : P_X12_takes σ118 z128 z129 r130 σ130 := hp130
                      have hP : va_P D vwCl (gw cA ad σ130 τ130) H130 := hP
                      clear hp118_1
                      have hF := hF.step f130 (by decide)
                      have gRXp := RXp.fr gRXp (by omega) f130 (by decide)
                      have t131 : (σ130 387 3).toInt = (σ118 387 3).toInt := congrArg Int32.toInt (f130.at 387 3 (by decide))
                      have t132 : (σ130 387 34).toInt = (σ118 387 34).toInt := congrArg Int32.toInt (f130.at 387 34 (by decide))
                      have t133 : (σ130 389 1).toInt = (σ118 389 1).toInt := congrArg Int32.toInt (f130.at 389 1 (by decide))
                      have t134 : (σ130 391 j25).toInt = (σ118 391 j25).toInt := congrArg Int32.toInt (f130.atV 391 j25 (by intro q hq; simp only [L_X12_takes, List.mem_cons, List.not_mem_nil, or_false] at hq; rcases hq with rfl | rfl | rfl <;> dsimp only <;> omega))
                      have t135 : (σ130 391 j109).toInt = (σ118 391 j109).toInt := congrArg Int32.toInt (f130.atV 391 j109 (by intro q hq; simp only [L_X12_takes, List.mem_cons, List.not_mem_nil, or_false] at hq; rcases hq with rfl | rfl | rfl <;> dsimp only <;> omega))
                      have hr136 := rg_12_4 hR (k := 387) (by decide) (by decide)
                      refine r_if_ne (tgt := 296) hx hb dX12_rollLine_255 (by decide) (fun c137 => ?_) (fun c137 => ?_)
                      · replace hp130_1 := hp130_1.resolve_left (by omega)
                        replace hp130_2 := hp130_2.resolve_left (by omega)
                        refine lv_aload_n hx hb dX12_rollLine_296 rfl (lv_at hl 3 rfl) ?_
                        refine fg_12_8 (k := 387) hx hb hts in_X12_rollLine_12 hown hK hP (by decide) (by decide) (hts _ lk_X12_rollLine_40) dX12_rollLine_297 ?_
                        refine lv_iload_n hx hb dX12_rollLine_300 rfl (lv_at hl 2 rfl) ?_
                        refine r_iconst hx hb dX12_rollLine_301 (by decide) (fun z138 ez138 => ?_)
                        refine r_iadd hx hb dX12_rollLine_302 (by omega) (fun z139 ez139 => ?_)
                        refine lv_aload_n hx hb dX12_rollLine_303 rfl (lv_at hl 3 rfl) ?_
                        refine fg_12_18 (k := 387) hx hb hts in_X12_rollLine_12 hown hK hP (by decide) (by decide) (hts _ lk_X12_rollLine_195) dX12_rollLine_304 ?_
                        obtain ⟨j140, ej140⟩ : ∃ j : Nat, z139.toInt = (j : Int) := ⟨_, ti_nat (by omega)⟩
                        refine as_mread (k := 391) (j := j140) hx hb hK hP hI hR hS (by decide) (by decide) ej140 (by omega) dX12_rollLine_307 (fun σ141 H141 locs141 u141 v141 hR hP hS => ?_)
                        have hF := hF.puts u141 3 rfl (by decide) (by decide) (by omega) (by omega)
                        have gRXp := RXp.st gRXp u141 (by omega)
                        have t142 : (σ141 387 3).toInt = (σ130 387 3).toInt := congrArg Int32.toInt (u141 387 3 (by omega))
                        have t143 : (σ141 387 34).toInt = (σ130 387 34).toInt := congrArg Int32.toInt (u141 387 34 (by omega))
                        have t144 : (σ141 389 1).toInt = (σ130 389 1).toInt := congrArg Int32.toInt (u141 389 1 (by omega))
                        have t145 : (σ141 391 j25).toInt = (σ130 391 j25).toInt := congrArg Int32.toInt (u141 391 j25 (by omega))
                        have t146 : (σ141 391 j109).toInt = (σ130 391 j109).toInt := congrArg Int32.toInt (u141 391 j109 (by omega))
                        have t147 : (σ141 387 4).toInt = (σ130 387 4).toInt := congrArg Int32.toInt (u141 387 4 (by omega))
                        have t148 : (σ141 387 11).toInt = (σ130 387 11).toInt := congrArg Int32.toInt (u141 387 11 (by omega))
                        have t149 : (σ141 387 18).toInt = (σ130 387 18).toInt := congrArg Int32.toInt (u141 387 18 (by omega))
                        refine r_iconst hx hb dX12_rollLine_308 (by decide) (fun z150 ez150 => ?_)
                        exact r_zret hx hb hr hK hP hS hk (by omega) dX12_rollLine_309 (show P_X12_rollLine σ0 z150 σ141 from ⟨hR, hF, by omega, by omega, by omega, by first | exact Or.inl (by omega) | exact Or.inr ⟨by omega, gRXp, fun t ht => OKL.of_w (j := j109) (by omega) (by omega)⟩ | exact Or.inr ⟨by omega, gRXp, fun t ht => OKL.of3 (j1 := j109) (j2 := j25) (j3 := j140) (by omega) (by omega) (by omega) (by omega) (by omega) (by omega)⟩⟩)
                      · clear hp130_1 hp130_2
                        refine lv_goto (tgt := 294) hx hb dX12_rollLine_258 (by decide) ?_
                        refine r_iconst hx hb dX12_rollLine_294 (by decide) (fun z151 ez151 => ?_)
                        exact r_zret hx hb hr hK hP hS hk (by omega) dX12_rollLine_295 (show P_X12_rollLine σ0 z151 σ130 from ⟨hR, hF, by omega, by omega, by omega, by first | exact Or.inl (by omega) | exact Or.inr ⟨by omega, gRXp, fun t ht => OKL.of_w (j := j109) (by omega) (by omega)⟩ | exact Or.inr ⟨by omega, gRXp, fun t ht => OKL.of3 (j1 := j109) (j2 := j25) (j3 := 0) (by omega) (by omega) (by omega) (by omega) (by omega) (by omega)⟩⟩)
                  · exfalso; omega
              · replace hp40_0 := hp40_0.resolve_left (by omega)
                refine r_iconst hx hb dX12_rollLine_188 (by decide) (fun z152 ez152 => ?_)
                refine lv_goto (tgt := 221) hx hb dX12_rollLine_189 (by decide) ?_
                refine lv_istore_n (lv' := [(3, .int z152), (2, .int z9), (1, .int z2), (0, .ref (ad 387))]) hx hb dX12_rollLine_221 rfl hl (by decide) rfl (fun ls hl => ?_)
                refine lv_iload_n hx hb dX12_rollLine_222 rfl (lv_at hl 0 rfl) ?_
                refine r_if_ge (tgt := 232) hx hb dX12_rollLine_223 (by decide) (fun c153 => ?_) (fun c153 => ?_)
                · refine lv_aload_n hx hb dX12_rollLine_232 rfl (lv_at hl 3 rfl) ?_
                  refine fg_12_8 (k := 387) hx hb hts in_X12_rollLine_12 hown hK hP (by decide) (by decide) (hts _ lk_X12_rollLine_40) dX12_rollLine_233 ?_
                  refine lv_iload_n hx hb dX12_rollLine_236 rfl (lv_at hl 2 rfl) ?_
                  refine lv_iload_n hx hb dX12_rollLine_237 rfl (lv_at hl 0 rfl) ?_
                  obtain ⟨j154, ej154⟩ : ∃ j : Nat, z2.toInt = (j : Int) := ⟨_, ti_nat (by omega)⟩
                  refine as_mread (k := 391) (j := j154) hx hb hK hP hI hR hS (by decide) (by decide) ej154 (by omega) dX12_rollLine_238 (fun σ155 H155 locs155 u155 v155 hR hP hS => ?_)
                  have hF := hF.puts u155 3 rfl (by decide) (by decide) (by omega) (by omega)
                  have gRXp := RXp.st gRXp u155 (by omega)
                  have t156 : (σ155 387 3).toInt = (σ33 387 3).toInt := congrArg Int32.toInt (u155 387 3 (by omega))
                  have t157 : (σ155 387 34).toInt = (σ33 387 34).toInt := congrArg Int32.toInt (u155 387 34 (by omega))
                  have t158 : (σ155 389 1).toInt = (σ33 389 1).toInt := congrArg Int32.toInt (u155 389 1 (by omega))
                  have t159 : (σ155 387 18).toInt = (σ33 387 18).toInt := congrArg Int32.toInt (u155 387 18 (by omega))
                  have t160 : (σ155 391 j25).toInt = (σ33 391 j25).toInt := congrArg Int32.toInt (u155 391 j25 (by omega))
                  have t161 : (σ155 387 4).toInt = (σ33 387 4).toInt := congrArg Int32.toInt (u155 387 4 (by omega))
                  have t162 : (σ155 387 11).toInt = (σ33 387 11).toInt := congrArg Int32.toInt (u155 387 11 (by omega))
                  refine lv_aload_n hx hb dX12_rollLine_239 rfl (lv_at hl 3 rfl) ?_
                  refine r_cVv (k := 387) (As := []) (rest := []) ⟨hx, hb, hml, hown, hts⟩ hK hP hN hS (c_X12_next l D cA ad hI σ155 τ40 hR) (cwV 0 hts gX12_rollLine_X12_next rfl rfl rfl (by decide +kernel) ⟨by decide, by decide⟩) (rv_M hK hP (by decide) (by decide)) rfl hl.1 rfl (Nat.le_of_ble_eq_true rfl) dX12_rollLine_240 (Nat.zero_le _) (Nat.zero_le _) (fun u163 H163 locs163 hp163 hP hS => ?_)
                  obtain ⟨σ163, τ163⟩ := u163
                  obtain ⟨hR, f163, hp163_0, hp163_1, hp163_2⟩ : P_X12_next σ155 σ163 := hp163
                  have hP : va_P D vwCl (gw cA ad σ163 τ163) H163 := hP
                  clear hp33_1
                  have hF := hF.step f163 (by decide)
                  have gRXp := RXp.fr gRXp (by omega) f163 (by decide)
                  have t164 : (σ163 387 3).toInt = (σ155 387 3).toInt := congrArg Int32.toInt (f163.at 387 3 (by decide))
                  have t165 : (σ163 387 34).toInt = (σ155 387 34).toInt := congrArg Int32.toInt (f163.at 387 34 (by decide))
                  have t166 : (σ163 389 1).toInt = (σ155 389 1).toInt := congrArg Int32.toInt (f163.at 389 1 (by decide))
                  have t167 : (σ163 387 18).toInt = (σ155 387 18).toInt := congrArg Int32.toInt (f163.at 387 18 (by decide))
                  have t168 : (σ163 391 j25).toInt = (σ155 391 j25).toInt := congrArg Int32.toInt (f163.atV 391 j25 (by intro q hq; simp only [L_X12_next, List.mem_cons, List.not_mem_nil, or_false] at hq; rcases hq with rfl | rfl <;> dsimp only <;> omega))
                  have t169 : (σ163 391 j154).toInt = (σ155 391 j154).toInt := congrArg Int32.toInt (f163.atV 391 j154 (by intro q hq; simp only [L_X12_next, List.mem_cons, List.not_mem_nil, or_false] at hq; rcases hq with rfl | rfl <;> dsimp only <;> omega))
                  have hr170 := rg_12_4 hR (k := 387) (by decide) (by decide)
                  refine lv_iload_n hx hb dX12_rollLine_243 rfl (lv_at hl 0 rfl) ?_
                  refine r_iconst hx hb dX12_rollLine_244 (by decide) (fun z171 ez171 => ?_)
                  refine r_icmp_ne (tgt := 261) hx hb dX12_rollLine_245 (by decide) (fun c172 => ?_) (fun c172 => ?_)
                  · refine lv_aload_n hx hb dX12_rollLine_261 rfl (lv_at hl 3 rfl) ?_
                    refine lv_iload_n hx hb dX12_rollLine_262 rfl (lv_at hl 0 rfl) ?_
                    refine r_iconst hx hb dX12_rollLine_263 (by decide) (fun z173 ez173 => ?_)
                    refine r_icmp_ne (tgt := 271) hx hb dX12_rollLine_264 (by decide) (fun c174 => ?_) (fun c174 => ?_)
                    · exfalso; omega
                    · refine r_iconst hx hb dX12_rollLine_267 (by decide) (fun z175 ez175 => ?_)
                      refine lv_goto (tgt := 273) hx hb dX12_rollLine_268 (by decide) ?_
                      refine lv_aload_n hx hb dX12_rollLine_273 rfl (lv_at hl 3 rfl) ?_
                      refine fg_12_6 (k := 387) hx hb hts in_X12_rollLine_12 hown hK hP (by decide) (by decide) (hts _ lk_X12_rollLine_33) dX12_rollLine_274 ?_
                      refine lv_iload_n hx hb dX12_rollLine_277 rfl (lv_at hl 0 rfl) ?_
                      refine r_iconst hx hb dX12_rollLine_278 (by decide) (fun z176 ez176 => ?_)
                      refine r_icmp_ne (tgt := 286) hx hb dX12_rollLine_279 (by decide) (fun c177 => ?_) (fun c177 => ?_)
                      · exfalso; omega
                      · refine r_iconst hx hb dX12_rollLine_282 (by decide) (fun z178 ez178 => ?_)
                        refine lv_goto (tgt := 287) hx hb dX12_rollLine_283 (by decide) ?_
                        refine ad_ms (k := 389) (j := 0) hx hb hK hP (by decide) (by decide) (by omega) (by omega) dX12_rollLine_287 ?_
                        have hr179 := ra_ms_0 hR (k := 389) (j := 0) (by decide) (by decide) (by decide) (by decide)
                        refine r_cVi (k := 387) (As := [.int z175, .int (σ163 389 0)]) (rest := []) ⟨hx, hb, hml, hown, hts⟩ hK hP hN hS (c_X12_takesName l D cA ad hI σ163 τ163 hR z175 (σ163 389 0) (by omega) (by omega)) (cwV 2 hts gX12_rollLine_X12_takesName rfl rfl rfl (by decide +kernel) ⟨by decide, by decide⟩) (rv_M hK hP (by decide) (by decide)) rfl hl.1 rfl (Nat.le_of_ble_eq_true rfl) dX12_rollLine_288 (Nat.zero_le _) (Nat.zero_le _) (fun r180 u180 H180 locs180 hp180 hP hS => ?_)
                        obtain ⟨σ180, τ180⟩ := u180
                        obtain ⟨hR, f180, hq180, hp180_0, hp180_1, hp180_2, hp180_3⟩ : P_X12_takesName σ163 z175 (σ163 389 0) r180 σ180 := hp180
                        have hP : va_P D vwCl (gw cA ad σ180 τ180) H180 := hP
                        clear hp163_1
                        have hF := hF.step f180 (by decide)
                        have gRXp := RXp.fr gRXp (by omega) f180 (by decide)
                        have t181 : (σ180 387 3).toInt = (σ163 387 3).toInt := congrArg Int32.toInt (f180.at 387 3 (by decide))
                        have t182 : (σ180 387 34).toInt = (σ163 387 34).toInt := congrArg Int32.toInt (f180.at 387 34 (by decide))
                        have t183 : (σ180 389 1).toInt = (σ163 389 1).toInt := congrArg Int32.toInt (f180.at 389 1 (by decide))
                        have t184 : (σ180 391 j25).toInt = (σ163 391 j25).toInt := congrArg Int32.toInt (f180.atV 391 j25 (by intro q hq; simp only [L_X12_takesName, List.mem_cons, List.not_mem_nil, or_false] at hq; rcases hq with rfl | rfl | rfl <;> dsimp only <;> omega))
                        have t185 : (σ180 391 j154).toInt = (σ163 391 j154).toInt := congrArg Int32.toInt (f180.atV 391 j154 (by intro q hq; simp only [L_X12_takesName, List.mem_cons, List.not_mem_nil, or_false] at hq; rcases hq with rfl | rfl | rfl <;> dsimp only <;> omega))
                        have t186 : (σ180 389 0).toInt = (σ163 389 0).toInt := congrArg Int32.toInt (f180.at 389 0 (by decide))
                        have hr187 := rg_12_4 hR (k := 387) (by decide) (by decide)
                        refine r_if_ne (tgt := 296) hx hb dX12_rollLine_291 (by decide) (fun c188 => ?_) (fun c188 => ?_)
                        · replace hp180_1 := hp180_1.resolve_left (by omega)
                          replace hp180_2 := hp180_2.resolve_left (by omega)
                          replace hp180_3 := hp180_3.resolve_left (by omega)
                          refine lv_aload_n hx hb dX12_rollLine_296 rfl (lv_at hl 3 rfl) ?_
                          refine fg_12_8 (k := 387) hx hb hts in_X12_rollLine_12 hown hK hP (by decide) (by decide) (hts _ lk_X12_rollLine_40) dX12_rollLine_297 ?_
                          refine lv_iload_n hx hb dX12_rollLine_300 rfl (lv_at hl 2 rfl) ?_
                          refine r_iconst hx hb dX12_rollLine_301 (by decide) (fun z189 ez189 => ?_)
                          refine r_iadd hx hb dX12_rollLine_302 (by omega) (fun z190 ez190 => ?_)
                          refine lv_aload_n hx hb dX12_rollLine_303 rfl (lv_at hl 3 rfl) ?_
                          refine fg_12_18 (k := 387) hx hb hts in_X12_rollLine_12 hown hK hP (by decide) (by decide) (hts _ lk_X12_rollLine_195) dX12_rollLine_304 ?_
                          obtain ⟨j191, ej191⟩ : ∃ j : Nat, z190.toInt = (j : Int) := ⟨_, ti_nat (by omega)⟩
                          refine as_mread (k := 391) (j := j191) hx hb hK hP hI hR hS (by decide) (by decide) ej191 (by omega) dX12_rollLine_307 (fun σ192 H192 locs192 u192 v192 hR hP hS => ?_)
                          have hF := hF.puts u192 3 rfl (by decide) (by decide) (by omega) (by omega)
                          have gRXp := RXp.st gRXp u192 (by omega)
                          have t193 : (σ192 387 3).toInt = (σ180 387 3).toInt := congrArg Int32.toInt (u192 387 3 (by omega))
                          have t194 : (σ192 387 34).toInt = (σ180 387 34).toInt := congrArg Int32.toInt (u192 387 34 (by omega))
                          have t195 : (σ192 389 1).toInt = (σ180 389 1).toInt := congrArg Int32.toInt (u192 389 1 (by omega))
                          have t196 : (σ192 391 j25).toInt = (σ180 391 j25).toInt := congrArg Int32.toInt (u192 391 j25 (by omega))
                          have t197 : (σ192 391 j154).toInt = (σ180 391 j154).toInt := congrArg Int32.toInt (u192 391 j154 (by omega))
                          have t198 : (σ192 389 0).toInt = (σ180 389 0).toInt := congrArg Int32.toInt (u192 389 0 (by omega))
                          have t199 : (σ192 387 4).toInt = (σ180 387 4).toInt := congrArg Int32.toInt (u192 387 4 (by omega))
                          have t200 : (σ192 387 11).toInt = (σ180 387 11).toInt := congrArg Int32.toInt (u192 387 11 (by omega))
                          have t201 : (σ192 387 18).toInt = (σ180 387 18).toInt := congrArg Int32.toInt (u192 387 18 (by omega))
                          refine r_iconst hx hb dX12_rollLine_308 (by decide) (fun z202 ez202 => ?_)
                          exact r_zret hx hb hr hK hP hS hk (by omega) dX12_rollLine_309 (show P_X12_rollLine σ0 z202 σ192 from ⟨hR, hF, by omega, by omega, by omega, by first | exact Or.inl (by omega) | exact Or.inr ⟨by omega, gRXp, fun t ht => OKL.of_w (j := j154) (by omega) (by omega)⟩ | exact Or.inr ⟨by omega, gRXp, fun t ht => OKL.of3 (j1 := j154) (j2 := j25) (j3 := j191) (by omega) (by omega) (by omega) (by omega) (by omega) (by omega)⟩⟩)
                        · clear hp180_1 hp180_2 hp180_3
                          refine r_iconst hx hb dX12_rollLine_294 (by decide) (fun z203 ez203 => ?_)
                          exact r_zret hx hb hr hK hP hS hk (by omega) dX12_rollLine_295 (show P_X12_rollLine σ0 z203 σ180 from ⟨hR, hF, by omega, by omega, by omega, by first | exact Or.inl (by omega) | exact Or.inr ⟨by omega, gRXp, fun t ht => OKL.of_w (j := j154) (by omega) (by omega)⟩ | exact Or.inr ⟨by omega, gRXp, fun t ht => OKL.of3 (j1 := j154) (j2 := j25) (j3 := 0) (by omega) (by omega) (by omega) (by omega) (by omega) (by omega)⟩⟩)
                  · exfalso; omega
                · exfalso; omega
            · refine lv_aload_n hx hb dX12_rollLine_156 rfl (lv_at hl 2 rfl) ?_
              refine r_iconst hx hb dX12_rollLine_157 (by decide) (fun z204 ez204 => ?_)
              refine r_cVi (k := 387) (As := [.int z204]) (rest := []) ⟨hx, hb, hml, hown, hts⟩ hK hP hN hS (c_X12_bad l D cA ad hI σ14 τ14 hR z204 (by omega)) (cwV 1 hts gX12_rollLine_X12_bad rfl rfl rfl (by decide +kernel) ⟨by decide, by decide⟩) (rv_M hK hP (by decide) (by decide)) rfl hl.1 rfl (Nat.le_of_ble_eq_true rfl) dX12_rollLine_158 (Nat.zero_le _) (Nat.zero_le _) (fun r205 u205 H205 locs205 hp205 hP hS => ?_)
              obtain ⟨σ205, τ205⟩ := u205
              obtain ⟨hR, f205, hq205⟩ : P_X12_bad σ14 z204 r205 σ205 := hp205
              have hP : va_P D vwCl (gw cA ad σ205 τ205) H205 := hP
              have hF := hF.step f205 (by decide)
              have gRXp := RXp.fr gRXp (by omega) f205 (by decide)
              have t206 : (σ205 387 4).toInt = (σ14 387 4).toInt := congrArg Int32.toInt (f205.at 387 4 (by decide))
              have t207 : (σ205 387 3).toInt = (σ14 387 3).toInt := congrArg Int32.toInt (f205.at 387 3 (by decide))
              have t208 : (σ205 387 11).toInt = (σ14 387 11).toInt := congrArg Int32.toInt (f205.at 387 11 (by decide))
              have t209 : (σ205 387 34).toInt = (σ14 387 34).toInt := congrArg Int32.toInt (f205.at 387 34 (by decide))
              have t210 : (σ205 389 1).toInt = (σ14 389 1).toInt := congrArg Int32.toInt (f205.at 389 1 (by decide))
              have t211 : (σ205 387 18).toInt = (σ14 387 18).toInt := congrArg Int32.toInt (f205.at 387 18 (by decide))
              exact r_zret hx hb hr hK hP hS hk (by omega) dX12_rollLine_161 (show P_X12_rollLine σ0 r205 σ205 from ⟨hR, hF, by omega, by omega, by omega, by first | exact Or.inl (by omega) | exact Or.inr ⟨by omega, gRXp, fun t ht => OKL.of_w (j := 0) (by omega) (by omega)⟩ | exact Or.inr ⟨by omega, gRXp, fun t ht => OKL.of3 (j1 := 0) (j2 := 0) (j3 := 0) (by omega) (by omega) (by omega) (by omega) (by omega) (by omega)⟩⟩)
          · clear hp14_0 hp14_1
            refine r_iconst hx hb dX12_rollLine_145 (by decide) (fun z212 ez212 => ?_)
            exact r_zret hx hb hr hK hP hS hk (by omega) dX12_rollLine_146 (show P_X12_rollLine σ0 z212 σ14 from ⟨hR, hF, by omega, by omega, by omega, by first | exact Or.inl (by omega) | exact Or.inr ⟨by omega, gRXp, fun t ht => OKL.of_w (j := 0) (by omega) (by omega)⟩ | exact Or.inr ⟨by omega, gRXp, fun t ht => OKL.of3 (j1 := 0) (j2 := 0) (j3 := 0) (by omega) (by omega) (by omega) (by omega) (by omega) (by omega)⟩⟩)
        · exfalso; omega
      · replace hp7_0 := hp7_0.resolve_left (by omega)
        refine r_iconst hx hb dX12_rollLine_45 (by decide) (fun z213 ez213 => ?_)
        refine lv_goto (tgt := 50) hx hb dX12_rollLine_46 (by decide) ?_
        refine lv_istore_n (lv' := [(2, .int z213), (1, .int z2), (0, .ref (ad 387))]) hx hb dX12_rollLine_50 rfl hl (by decide) rfl (fun ls hl => ?_)
        refine lv_iload_n hx hb dX12_rollLine_51 rfl (lv_at hl 0 rfl) ?_
        refine r_if_lt (tgt := 130) hx hb dX12_rollLine_52 (by decide) (fun c214 => ?_) (fun c214 => ?_)
        · exfalso; omega
        · refine lv_aload_n hx hb dX12_rollLine_55 rfl (lv_at hl 2 rfl) ?_
          refine fg_12_34 (k := 387) hx hb hts in_X12_rollLine_12 hown hK hP (by decide) (by decide) (hts _ lk_X12_rollLine_416) dX12_rollLine_56 ?_
          refine r_bipush hx hb dX12_rollLine_59 (by decide) (fun z215 ez215 => ?_)
          refine r_icmp_ne (tgt := 70) hx hb dX12_rollLine_61 (by decide) (fun c216 => ?_) (fun c216 => ?_)
          · refine lv_aload_n hx hb dX12_rollLine_70 rfl (lv_at hl 2 rfl) ?_
            refine fg_12_8 (k := 387) hx hb hts in_X12_rollLine_12 hown hK hP (by decide) (by decide) (hts _ lk_X12_rollLine_40) dX12_rollLine_71 ?_
            refine lv_iload_n hx hb dX12_rollLine_74 rfl (lv_at hl 1 rfl) ?_
            refine lv_iload_n hx hb dX12_rollLine_75 rfl (lv_at hl 0 rfl) ?_
            obtain ⟨j217, ej217⟩ : ∃ j : Nat, z2.toInt = (j : Int) := ⟨_, ti_nat (by omega)⟩
            refine as_mread (k := 391) (j := j217) hx hb hK hP hI hR hS (by decide) (by decide) ej217 (by omega) dX12_rollLine_76 (fun σ218 H218 locs218 u218 v218 hR hP hS => ?_)
            have hF := hF.puts u218 3 rfl (by decide) (by decide) (by omega) (by omega)
            have gRXp := RXp.st gRXp u218 (by omega)
            have t219 : (σ218 387 4).toInt = (σ0 387 4).toInt := congrArg Int32.toInt (u218 387 4 (by omega))
            have t220 : (σ218 387 3).toInt = (σ0 387 3).toInt := congrArg Int32.toInt (u218 387 3 (by omega))
            have t221 : (σ218 387 11).toInt = (σ0 387 11).toInt := congrArg Int32.toInt (u218 387 11 (by omega))
            have t222 : (σ218 387 18).toInt = (σ0 387 18).toInt := congrArg Int32.toInt (u218 387 18 (by omega))
            have t223 : (σ218 387 34).toInt = (σ0 387 34).toInt := congrArg Int32.toInt (u218 387 34 (by omega))
            refine lv_aload_n hx hb dX12_rollLine_77 rfl (lv_at hl 2 rfl) ?_
            refine r_cVv (k := 387) (As := []) (rest := []) ⟨hx, hb, hml, hown, hts⟩ hK hP hN hS (c_X12_next l D cA ad hI σ218 τ7 hR) (cwV 0 hts gX12_rollLine_X12_next rfl rfl rfl (by decide +kernel) ⟨by decide, by decide⟩) (rv_M hK hP (by decide) (by decide)) rfl hl.1 rfl (Nat.le_of_ble_eq_true rfl) dX12_rollLine_78 (Nat.zero_le _) (Nat.zero_le _) (fun u224 H224 locs224 hp224 hP hS => ?_)
            obtain ⟨σ224, τ224⟩ := u224
            obtain ⟨hR, f224, hp224_0, hp224_1, hp224_2⟩ : P_X12_next σ218 σ224 := hp224
            have hP : va_P D vwCl (gw cA ad σ224 τ224) H224 := hP
            have hF := hF.step f224 (by decide)
            have gRXp := RXp.fr gRXp (by omega) f224 (by decide)
            have t225 : (σ224 387 3).toInt = (σ218 387 3).toInt := congrArg Int32.toInt (f224.at 387 3 (by decide))
            have t226 : (σ224 387 18).toInt = (σ218 387 18).toInt := congrArg Int32.toInt (f224.at 387 18 (by decide))
            have t227 : (σ224 387 34).toInt = (σ218 387 34).toInt := congrArg Int32.toInt (f224.at 387 34 (by decide))
            have t228 : (σ224 391 j217).toInt = (σ218 391 j217).toInt := congrArg Int32.toInt (f224.atV 391 j217 (by intro q hq; simp only [L_X12_next, List.mem_cons, List.not_mem_nil, or_false] at hq; rcases hq with rfl | rfl <;> dsimp only <;> omega))
            have hr229 := rg_12_4 hR (k := 387) (by decide) (by decide)
            refine lv_iload_n hx hb dX12_rollLine_81 rfl (lv_at hl 0 rfl) ?_
            refine r_iconst hx hb dX12_rollLine_82 (by decide) (fun z230 ez230 => ?_)
            refine r_icmp_ne (tgt := 88) hx hb dX12_rollLine_83 (by decide) (fun c231 => ?_) (fun c231 => ?_)
            · refine lv_aload_n hx hb dX12_rollLine_88 rfl (lv_at hl 2 rfl) ?_
              refine lv_iload_n hx hb dX12_rollLine_89 rfl (lv_at hl 0 rfl) ?_
              refine r_if_ne (tgt := 97) hx hb dX12_rollLine_90 (by decide) (fun c232 => ?_) (fun c232 => ?_)
              · refine r_iconst hx hb dX12_rollLine_97 (by decide) (fun z233 ez233 => ?_)
                refine lv_iload_n hx hb dX12_rollLine_98 rfl (lv_at hl 0 rfl) ?_
                refine r_if_ne (tgt := 106) hx hb dX12_rollLine_99 (by decide) (fun c234 => ?_) (fun c234 => ?_)
                · refine r_bipush hx hb dX12_rollLine_106 (by decide) (fun z235 ez235 => ?_)
                  refine r_cVi (k := 387) (As := [.int z233, .int z235]) (rest := []) ⟨hx, hb, hml, hown, hts⟩ hK hP hN hS (c_X12_takes l D cA ad hI σ224 τ224 hR z233 z235 (by omega)) (cwV 2 hts gX12_rollLine_X12_takes rfl rfl rfl (by decide +kernel) ⟨by decide, by decide⟩) (rv_M hK hP (by decide) (by decide)) rfl hl.1 rfl (Nat.le_of_ble_eq_true rfl) dX12_rollLine_108 (Nat.zero_le _) (Nat.zero_le _) (fun r236 u236 H236 locs236 hp236 hP hS => ?_)
                  obtain ⟨σ236, τ236⟩ := u236
                  obtain ⟨hR, f236, hq236, hp236_0, hp236_1, hp236_2⟩ : P_X12_takes σ224 z233 z235 r236 σ236 := hp236
                  have hP : va_P D vwCl (gw cA ad σ236 τ236) H236 := hP
                  clear hp224_1
                  have hF := hF.step f236 (by decide)
                  have gRXp := RXp.fr gRXp (by omega) f236 (by decide)
                  have t237 : (σ236 387 3).toInt = (σ224 387 3).toInt := congrArg Int32.toInt (f236.at 387 3 (by decide))
                  have t238 : (σ236 387 34).toInt = (σ224 387 34).toInt := congrArg Int32.toInt (f236.at 387 34 (by decide))
                  have t239 : (σ236 391 j217).toInt = (σ224 391 j217).toInt := congrArg Int32.toInt (f236.atV 391 j217 (by intro q hq; simp only [L_X12_takes, List.mem_cons, List.not_mem_nil, or_false] at hq; rcases hq with rfl | rfl | rfl <;> dsimp only <;> omega))
                  have hr240 := rg_12_4 hR (k := 387) (by decide) (by decide)
                  refine r_if_ne (tgt := 116) hx hb dX12_rollLine_111 (by decide) (fun c241 => ?_) (fun c241 => ?_)
                  · replace hp236_1 := hp236_1.resolve_left (by omega)
                    replace hp236_2 := hp236_2.resolve_left (by omega)
                    refine lv_aload_n hx hb dX12_rollLine_116 rfl (lv_at hl 2 rfl) ?_
                    refine fg_12_8 (k := 387) hx hb hts in_X12_rollLine_12 hown hK hP (by decide) (by decide) (hts _ lk_X12_rollLine_40) dX12_rollLine_117 ?_
                    refine lv_iload_n hx hb dX12_rollLine_120 rfl (lv_at hl 1 rfl) ?_
                    refine r_iconst hx hb dX12_rollLine_121 (by decide) (fun z242 ez242 => ?_)
                    refine r_iadd hx hb dX12_rollLine_122 (by omega) (fun z243 ez243 => ?_)
                    refine lv_aload_n hx hb dX12_rollLine_123 rfl (lv_at hl 2 rfl) ?_
                    refine fg_12_18 (k := 387) hx hb hts in_X12_rollLine_12 hown hK hP (by decide) (by decide) (hts _ lk_X12_rollLine_195) dX12_rollLine_124 ?_
                    obtain ⟨j244, ej244⟩ : ∃ j : Nat, z243.toInt = (j : Int) := ⟨_, ti_nat (by omega)⟩
                    refine as_mread (k := 391) (j := j244) hx hb hK hP hI hR hS (by decide) (by decide) ej244 (by omega) dX12_rollLine_127 (fun σ245 H245 locs245 u245 v245 hR hP hS => ?_)
                    have hF := hF.puts u245 3 rfl (by decide) (by decide) (by omega) (by omega)
                    have gRXp := RXp.st gRXp u245 (by omega)
                    have t246 : (σ245 387 3).toInt = (σ236 387 3).toInt := congrArg Int32.toInt (u245 387 3 (by omega))
                    have t247 : (σ245 387 34).toInt = (σ236 387 34).toInt := congrArg Int32.toInt (u245 387 34 (by omega))
                    have t248 : (σ245 391 j217).toInt = (σ236 391 j217).toInt := congrArg Int32.toInt (u245 391 j217 (by omega))
                    have t249 : (σ245 387 4).toInt = (σ236 387 4).toInt := congrArg Int32.toInt (u245 387 4 (by omega))
                    have t250 : (σ245 387 11).toInt = (σ236 387 11).toInt := congrArg Int32.toInt (u245 387 11 (by omega))
                    have t251 : (σ245 387 18).toInt = (σ236 387 18).toInt := congrArg Int32.toInt (u245 387 18 (by omega))
                    refine r_iconst hx hb dX12_rollLine_128 (by decide) (fun z252 ez252 => ?_)
                    exact r_zret hx hb hr hK hP hS hk (by omega) dX12_rollLine_129 (show P_X12_rollLine σ0 z252 σ245 from ⟨hR, hF, by omega, by omega, by omega, by first | exact Or.inl (by omega) | exact Or.inr ⟨by omega, gRXp, fun t ht => OKL.of_w (j := j217) (by omega) (by omega)⟩ | exact Or.inr ⟨by omega, gRXp, fun t ht => OKL.of3 (j1 := j217) (j2 := j244) (j3 := 0) (by omega) (by omega) (by omega) (by omega) (by omega) (by omega)⟩⟩)
                  · clear hp236_1 hp236_2
                    refine r_iconst hx hb dX12_rollLine_114 (by decide) (fun z253 ez253 => ?_)
                    exact r_zret hx hb hr hK hP hS hk (by omega) dX12_rollLine_115 (show P_X12_rollLine σ0 z253 σ236 from ⟨hR, hF, by omega, by omega, by omega, by first | exact Or.inl (by omega) | exact Or.inr ⟨by omega, gRXp, fun t ht => OKL.of_w (j := j217) (by omega) (by omega)⟩ | exact Or.inr ⟨by omega, gRXp, fun t ht => OKL.of3 (j1 := j217) (j2 := 0) (j3 := 0) (by omega) (by omega) (by omega) (by omega) (by omega) (by omega)⟩⟩)
                · exfalso; omega
              · exfalso; omega
            · exfalso; omega
          · refine lv_aload_n hx hb dX12_rollLine_64 rfl (lv_at hl 2 rfl) ?_
            refine r_iconst hx hb dX12_rollLine_65 (by decide) (fun z254 ez254 => ?_)
            refine r_cVi (k := 387) (As := [.int z254]) (rest := []) ⟨hx, hb, hml, hown, hts⟩ hK hP hN hS (c_X12_bad l D cA ad hI σ0 τ7 hR z254 (by omega)) (cwV 1 hts gX12_rollLine_X12_bad rfl rfl rfl (by decide +kernel) ⟨by decide, by decide⟩) (rv_M hK hP (by decide) (by decide)) rfl hl.1 rfl (Nat.le_of_ble_eq_true rfl) dX12_rollLine_66 (Nat.zero_le _) (Nat.zero_le _) (fun r255 u255 H255 locs255 hp255 hP hS => ?_)
            obtain ⟨σ255, τ255⟩ := u255
            obtain ⟨hR, f255, hq255⟩ : P_X12_bad σ0 z254 r255 σ255 := hp255
            have hP : va_P D vwCl (gw cA ad σ255 τ255) H255 := hP
            have hF := hF.step f255 (by decide)
            have gRXp := RXp.fr gRXp (by omega) f255 (by decide)
            have t256 : (σ255 387 4).toInt = (σ0 387 4).toInt := congrArg Int32.toInt (f255.at 387 4 (by decide))
            have t257 : (σ255 387 3).toInt = (σ0 387 3).toInt := congrArg Int32.toInt (f255.at 387 3 (by decide))
            have t258 : (σ255 387 11).toInt = (σ0 387 11).toInt := congrArg Int32.toInt (f255.at 387 11 (by decide))
            have t259 : (σ255 387 18).toInt = (σ0 387 18).toInt := congrArg Int32.toInt (f255.at 387 18 (by decide))
            have t260 : (σ255 387 34).toInt = (σ0 387 34).toInt := congrArg Int32.toInt (f255.at 387 34 (by decide))
            exact r_zret hx hb hr hK hP hS hk (by omega) dX12_rollLine_69 (show P_X12_rollLine σ0 r255 σ255 from ⟨hR, hF, by omega, by omega, by omega, by first | exact Or.inl (by omega) | exact Or.inr ⟨by omega, gRXp, fun t ht => OKL.of_w (j := 0) (by omega) (by omega)⟩ | exact Or.inr ⟨by omega, gRXp, fun t ht => OKL.of3 (j1 := 0) (j2 := 0) (j3 := 0) (by omega) (by omega) (by omega) (by omega) (by omega) (by omega)⟩⟩)
    · replace hp5_0 := hp5_0.resolve_left (by omega)
      refine r_iconst hx hb dX12_rollLine_31 (by decide) (fun z261 ez261 => ?_)
      refine lv_goto (tgt := 50) hx hb dX12_rollLine_32 (by decide) ?_
      refine lv_istore_n (lv' := [(2, .int z261), (1, .int z2), (0, .ref (ad 387))]) hx hb dX12_rollLine_50 rfl hl (by decide) rfl (fun ls hl => ?_)
      refine lv_iload_n hx hb dX12_rollLine_51 rfl (lv_at hl 0 rfl) ?_
      refine r_if_lt (tgt := 130) hx hb dX12_rollLine_52 (by decide) (fun c262 => ?_) (fun c262 => ?_)
      · exfalso; omega
      · refine lv_aload_n hx hb dX12_rollLine_55 rfl (lv_at hl 2 rfl) ?_
        refine fg_12_34 (k := 387) hx hb hts in_X12_rollLine_12 hown hK hP (by decide) (by decide) (hts _ lk_X12_rollLine_416) dX12_rollLine_56 ?_
        refine r_bipush hx hb dX12_rollLine_59 (by decide) (fun z263 ez263 => ?_)
        refine r_icmp_ne (tgt := 70) hx hb dX12_rollLine_61 (by decide) (fun c264 => ?_) (fun c264 => ?_)
        · refine lv_aload_n hx hb dX12_rollLine_70 rfl (lv_at hl 2 rfl) ?_
          refine fg_12_8 (k := 387) hx hb hts in_X12_rollLine_12 hown hK hP (by decide) (by decide) (hts _ lk_X12_rollLine_40) dX12_rollLine_71 ?_
          refine lv_iload_n hx hb dX12_rollLine_74 rfl (lv_at hl 1 rfl) ?_
          refine lv_iload_n hx hb dX12_rollLine_75 rfl (lv_at hl 0 rfl) ?_
          obtain ⟨j265, ej265⟩ : ∃ j : Nat, z2.toInt = (j : Int) := ⟨_, ti_nat (by omega)⟩
          refine as_mread (k := 391) (j := j265) hx hb hK hP hI hR hS (by decide) (by decide) ej265 (by omega) dX12_rollLine_76 (fun σ266 H266 locs266 u266 v266 hR hP hS => ?_)
          have hF := hF.puts u266 3 rfl (by decide) (by decide) (by omega) (by omega)
          have gRXp := RXp.st gRXp u266 (by omega)
          have t267 : (σ266 387 4).toInt = (σ0 387 4).toInt := congrArg Int32.toInt (u266 387 4 (by omega))
          have t268 : (σ266 387 3).toInt = (σ0 387 3).toInt := congrArg Int32.toInt (u266 387 3 (by omega))
          have t269 : (σ266 387 11).toInt = (σ0 387 11).toInt := congrArg Int32.toInt (u266 387 11 (by omega))
          have t270 : (σ266 387 18).toInt = (σ0 387 18).toInt := congrArg Int32.toInt (u266 387 18 (by omega))
          have t271 : (σ266 387 34).toInt = (σ0 387 34).toInt := congrArg Int32.toInt (u266 387 34 (by omega))
          refine lv_aload_n hx hb dX12_rollLine_77 rfl (lv_at hl 2 rfl) ?_
          refine r_cVv (k := 387) (As := []) (rest := []) ⟨hx, hb, hml, hown, hts⟩ hK hP hN hS (c_X12_next l D cA ad hI σ266 τ5 hR) (cwV 0 hts gX12_rollLine_X12_next rfl rfl rfl (by decide +kernel) ⟨by decide, by decide⟩) (rv_M hK hP (by decide) (by decide)) rfl hl.1 rfl (Nat.le_of_ble_eq_true rfl) dX12_rollLine_78 (Nat.zero_le _) (Nat.zero_le _) (fun u272 H272 locs272 hp272 hP hS => ?_)
          obtain ⟨σ272, τ272⟩ := u272
          obtain ⟨hR, f272, hp272_0, hp272_1, hp272_2⟩ : P_X12_next σ266 σ272 := hp272
          have hP : va_P D vwCl (gw cA ad σ272 τ272) H272 := hP
          have hF := hF.step f272 (by decide)
          have gRXp := RXp.fr gRXp (by omega) f272 (by decide)
          have t273 : (σ272 387 3).toInt = (σ266 387 3).toInt := congrArg Int32.toInt (f272.at 387 3 (by decide))
          have t274 : (σ272 387 18).toInt = (σ266 387 18).toInt := congrArg Int32.toInt (f272.at 387 18 (by decide))
          have t275 : (σ272 387 34).toInt = (σ266 387 34).toInt := congrArg Int32.toInt (f272.at 387 34 (by decide))
          have t276 : (σ272 391 j265).toInt = (σ266 391 j265).toInt := congrArg Int32.toInt (f272.atV 391 j265 (by intro q hq; simp only [L_X12_next, List.mem_cons, List.not_mem_nil, or_false] at hq; rcases hq with rfl | rfl <;> dsimp only <;> omega))
          have hr277 := rg_12_4 hR (k := 387) (by decide) (by decide)
          refine lv_iload_n hx hb dX12_rollLine_81 rfl (lv_at hl 0 rfl) ?_
          refine r_iconst hx hb dX12_rollLine_82 (by decide) (fun z278 ez278 => ?_)
          refine r_icmp_ne (tgt := 88) hx hb dX12_rollLine_83 (by decide) (fun c279 => ?_) (fun c279 => ?_)
          · exfalso; omega
          · refine r_iconst hx hb dX12_rollLine_86 (by decide) (fun z280 ez280 => ?_)
            exact r_zret hx hb hr hK hP hS hk (by omega) dX12_rollLine_87 (show P_X12_rollLine σ0 z280 σ272 from ⟨hR, hF, by omega, by omega, by omega, by first | exact Or.inl (by omega) | exact Or.inr ⟨by omega, gRXp, fun t ht => OKL.of_w (j := j265) (by omega) (by omega)⟩ | exact Or.inr ⟨by omega, gRXp, fun t ht => OKL.of3 (j1 := j265) (j2 := 0) (j3 := 0) (by omega) (by omega) (by omega) (by omega) (by omega) (by omega)⟩⟩)
        · refine lv_aload_n hx hb dX12_rollLine_64 rfl (lv_at hl 2 rfl) ?_
          refine r_iconst hx hb dX12_rollLine_65 (by decide) (fun z281 ez281 => ?_)
          refine r_cVi (k := 387) (As := [.int z281]) (rest := []) ⟨hx, hb, hml, hown, hts⟩ hK hP hN hS (c_X12_bad l D cA ad hI σ0 τ5 hR z281 (by omega)) (cwV 1 hts gX12_rollLine_X12_bad rfl rfl rfl (by decide +kernel) ⟨by decide, by decide⟩) (rv_M hK hP (by decide) (by decide)) rfl hl.1 rfl (Nat.le_of_ble_eq_true rfl) dX12_rollLine_66 (Nat.zero_le _) (Nat.zero_le _) (fun r282 u282 H282 locs282 hp282 hP hS => ?_)
          obtain ⟨σ282, τ282⟩ := u282
          obtain ⟨hR, f282, hq282⟩ : P_X12_bad σ0 z281 r282 σ282 := hp282
          have hP : va_P D vwCl (gw cA ad σ282 τ282) H282 := hP
          have hF := hF.step f282 (by decide)
          have gRXp := RXp.fr gRXp (by omega) f282 (by decide)
          have t283 : (σ282 387 4).toInt = (σ0 387 4).toInt := congrArg Int32.toInt (f282.at 387 4 (by decide))
          have t284 : (σ282 387 3).toInt = (σ0 387 3).toInt := congrArg Int32.toInt (f282.at 387 3 (by decide))
          have t285 : (σ282 387 11).toInt = (σ0 387 11).toInt := congrArg Int32.toInt (f282.at 387 11 (by decide))
          have t286 : (σ282 387 18).toInt = (σ0 387 18).toInt := congrArg Int32.toInt (f282.at 387 18 (by decide))
          have t287 : (σ282 387 34).toInt = (σ0 387 34).toInt := congrArg Int32.toInt (f282.at 387 34 (by decide))
          exact r_zret hx hb hr hK hP hS hk (by omega) dX12_rollLine_69 (show P_X12_rollLine σ0 r282 σ282 from ⟨hR, hF, by omega, by omega, by omega, by first | exact Or.inl (by omega) | exact Or.inr ⟨by omega, gRXp, fun t ht => OKL.of_w (j := 0) (by omega) (by omega)⟩ | exact Or.inr ⟨by omega, gRXp, fun t ht => OKL.of3 (j1 := 0) (j2 := 0) (j3 := 0) (by omega) (by omega) (by omega) (by omega) (by omega) (by omega)⟩⟩)
  · replace hp3_0 := hp3_0.resolve_left (by omega)
    refine r_iconst hx hb dX12_rollLine_17 (by decide) (fun z288 ez288 => ?_)
    refine lv_goto (tgt := 50) hx hb dX12_rollLine_18 (by decide) ?_
    refine lv_istore_n (lv' := [(2, .int z288), (1, .int z2), (0, .ref (ad 387))]) hx hb dX12_rollLine_50 rfl hl (by decide) rfl (fun ls hl => ?_)
    refine lv_iload_n hx hb dX12_rollLine_51 rfl (lv_at hl 0 rfl) ?_
    refine r_if_lt (tgt := 130) hx hb dX12_rollLine_52 (by decide) (fun c289 => ?_) (fun c289 => ?_)
    · exfalso; omega
    · refine lv_aload_n hx hb dX12_rollLine_55 rfl (lv_at hl 2 rfl) ?_
      refine fg_12_34 (k := 387) hx hb hts in_X12_rollLine_12 hown hK hP (by decide) (by decide) (hts _ lk_X12_rollLine_416) dX12_rollLine_56 ?_
      refine r_bipush hx hb dX12_rollLine_59 (by decide) (fun z290 ez290 => ?_)
      refine r_icmp_ne (tgt := 70) hx hb dX12_rollLine_61 (by decide) (fun c291 => ?_) (fun c291 => ?_)
      · refine lv_aload_n hx hb dX12_rollLine_70 rfl (lv_at hl 2 rfl) ?_
        refine fg_12_8 (k := 387) hx hb hts in_X12_rollLine_12 hown hK hP (by decide) (by decide) (hts _ lk_X12_rollLine_40) dX12_rollLine_71 ?_
        refine lv_iload_n hx hb dX12_rollLine_74 rfl (lv_at hl 1 rfl) ?_
        refine lv_iload_n hx hb dX12_rollLine_75 rfl (lv_at hl 0 rfl) ?_
        obtain ⟨j292, ej292⟩ : ∃ j : Nat, z2.toInt = (j : Int) := ⟨_, ti_nat (by omega)⟩
        refine as_mread (k := 391) (j := j292) hx hb hK hP hI hR hS (by decide) (by decide) ej292 (by omega) dX12_rollLine_76 (fun σ293 H293 locs293 u293 v293 hR hP hS => ?_)
        have hF := hF.puts u293 3 rfl (by decide) (by decide) (by omega) (by omega)
        have gRXp := RXp.st gRXp u293 (by omega)
        have t294 : (σ293 387 4).toInt = (σ0 387 4).toInt := congrArg Int32.toInt (u293 387 4 (by omega))
        have t295 : (σ293 387 3).toInt = (σ0 387 3).toInt := congrArg Int32.toInt (u293 387 3 (by omega))
        have t296 : (σ293 387 11).toInt = (σ0 387 11).toInt := congrArg Int32.toInt (u293 387 11 (by omega))
        have t297 : (σ293 387 18).toInt = (σ0 387 18).toInt := congrArg Int32.toInt (u293 387 18 (by omega))
        have t298 : (σ293 387 34).toInt = (σ0 387 34).toInt := congrArg Int32.toInt (u293 387 34 (by omega))
        refine lv_aload_n hx hb dX12_rollLine_77 rfl (lv_at hl 2 rfl) ?_
        refine r_cVv (k := 387) (As := []) (rest := []) ⟨hx, hb, hml, hown, hts⟩ hK hP hN hS (c_X12_next l D cA ad hI σ293 τ3 hR) (cwV 0 hts gX12_rollLine_X12_next rfl rfl rfl (by decide +kernel) ⟨by decide, by decide⟩) (rv_M hK hP (by decide) (by decide)) rfl hl.1 rfl (Nat.le_of_ble_eq_true rfl) dX12_rollLine_78 (Nat.zero_le _) (Nat.zero_le _) (fun u299 H299 locs299 hp299 hP hS => ?_)
        obtain ⟨σ299, τ299⟩ := u299
        obtain ⟨hR, f299, hp299_0, hp299_1, hp299_2⟩ : P_X12_next σ293 σ299 := hp299
        have hP : va_P D vwCl (gw cA ad σ299 τ299) H299 := hP
        have hF := hF.step f299 (by decide)
        have gRXp := RXp.fr gRXp (by omega) f299 (by decide)
        have t300 : (σ299 387 3).toInt = (σ293 387 3).toInt := congrArg Int32.toInt (f299.at 387 3 (by decide))
        have t301 : (σ299 387 18).toInt = (σ293 387 18).toInt := congrArg Int32.toInt (f299.at 387 18 (by decide))
        have t302 : (σ299 387 34).toInt = (σ293 387 34).toInt := congrArg Int32.toInt (f299.at 387 34 (by decide))
        have t303 : (σ299 391 j292).toInt = (σ293 391 j292).toInt := congrArg Int32.toInt (f299.atV 391 j292 (by intro q hq; simp only [L_X12_next, List.mem_cons, List.not_mem_nil, or_false] at hq; rcases hq with rfl | rfl <;> dsimp only <;> omega))
        have hr304 := rg_12_4 hR (k := 387) (by decide) (by decide)
        refine lv_iload_n hx hb dX12_rollLine_81 rfl (lv_at hl 0 rfl) ?_
        refine r_iconst hx hb dX12_rollLine_82 (by decide) (fun z305 ez305 => ?_)
        refine r_icmp_ne (tgt := 88) hx hb dX12_rollLine_83 (by decide) (fun c306 => ?_) (fun c306 => ?_)
        · refine lv_aload_n hx hb dX12_rollLine_88 rfl (lv_at hl 2 rfl) ?_
          refine lv_iload_n hx hb dX12_rollLine_89 rfl (lv_at hl 0 rfl) ?_
          refine r_if_ne (tgt := 97) hx hb dX12_rollLine_90 (by decide) (fun c307 => ?_) (fun c307 => ?_)
          · exfalso; omega
          · refine r_iconst hx hb dX12_rollLine_93 (by decide) (fun z308 ez308 => ?_)
            refine lv_goto (tgt := 98) hx hb dX12_rollLine_94 (by decide) ?_
            refine lv_iload_n hx hb dX12_rollLine_98 rfl (lv_at hl 0 rfl) ?_
            refine r_if_ne (tgt := 106) hx hb dX12_rollLine_99 (by decide) (fun c309 => ?_) (fun c309 => ?_)
            · exfalso; omega
            · refine r_iconst hx hb dX12_rollLine_102 (by decide) (fun z310 ez310 => ?_)
              refine lv_goto (tgt := 108) hx hb dX12_rollLine_103 (by decide) ?_
              refine r_cVi (k := 387) (As := [.int z308, .int z310]) (rest := []) ⟨hx, hb, hml, hown, hts⟩ hK hP hN hS (c_X12_takes l D cA ad hI σ299 τ299 hR z308 z310 (by omega)) (cwV 2 hts gX12_rollLine_X12_takes rfl rfl rfl (by decide +kernel) ⟨by decide, by decide⟩) (rv_M hK hP (by decide) (by decide)) rfl hl.1 rfl (Nat.le_of_ble_eq_true rfl) dX12_rollLine_108 (Nat.zero_le _) (Nat.zero_le _) (fun r311 u311 H311 locs311 hp311 hP hS => ?_)
              obtain ⟨σ311, τ311⟩ := u311
              obtain ⟨hR, f311, hq311, hp311_0, hp311_1, hp311_2⟩ : P_X12_takes σ299 z308 z310 r311 σ311 := hp311
              have hP : va_P D vwCl (gw cA ad σ311 τ311) H311 := hP
              clear hp299_1
              have hF := hF.step f311 (by decide)
              have gRXp := RXp.fr gRXp (by omega) f311 (by decide)
              have t312 : (σ311 387 3).toInt = (σ299 387 3).toInt := congrArg Int32.toInt (f311.at 387 3 (by decide))
              have t313 : (σ311 387 34).toInt = (σ299 387 34).toInt := congrArg Int32.toInt (f311.at 387 34 (by decide))
              have t314 : (σ311 391 j292).toInt = (σ299 391 j292).toInt := congrArg Int32.toInt (f311.atV 391 j292 (by intro q hq; simp only [L_X12_takes, List.mem_cons, List.not_mem_nil, or_false] at hq; rcases hq with rfl | rfl | rfl <;> dsimp only <;> omega))
              have hr315 := rg_12_4 hR (k := 387) (by decide) (by decide)
              refine r_if_ne (tgt := 116) hx hb dX12_rollLine_111 (by decide) (fun c316 => ?_) (fun c316 => ?_)
              · replace hp311_1 := hp311_1.resolve_left (by omega)
                replace hp311_2 := hp311_2.resolve_left (by omega)
                refine lv_aload_n hx hb dX12_rollLine_116 rfl (lv_at hl 2 rfl) ?_
                refine fg_12_8 (k := 387) hx hb hts in_X12_rollLine_12 hown hK hP (by decide) (by decide) (hts _ lk_X12_rollLine_40) dX12_rollLine_117 ?_
                refine lv_iload_n hx hb dX12_rollLine_120 rfl (lv_at hl 1 rfl) ?_
                refine r_iconst hx hb dX12_rollLine_121 (by decide) (fun z317 ez317 => ?_)
                refine r_iadd hx hb dX12_rollLine_122 (by omega) (fun z318 ez318 => ?_)
                refine lv_aload_n hx hb dX12_rollLine_123 rfl (lv_at hl 2 rfl) ?_
                refine fg_12_18 (k := 387) hx hb hts in_X12_rollLine_12 hown hK hP (by decide) (by decide) (hts _ lk_X12_rollLine_195) dX12_rollLine_124 ?_
                obtain ⟨j319, ej319⟩ : ∃ j : Nat, z318.toInt = (j : Int) := ⟨_, ti_nat (by omega)⟩
                refine as_mread (k := 391) (j := j319) hx hb hK hP hI hR hS (by decide) (by decide) ej319 (by omega) dX12_rollLine_127 (fun σ320 H320 locs320 u320 v320 hR hP hS => ?_)
                have hF := hF.puts u320 3 rfl (by decide) (by decide) (by omega) (by omega)
                have gRXp := RXp.st gRXp u320 (by omega)
                have t321 : (σ320 387 3).toInt = (σ311 387 3).toInt := congrArg Int32.toInt (u320 387 3 (by omega))
                have t322 : (σ320 387 34).toInt = (σ311 387 34).toInt := congrArg Int32.toInt (u320 387 34 (by omega))
                have t323 : (σ320 391 j292).toInt = (σ311 391 j292).toInt := congrArg Int32.toInt (u320 391 j292 (by omega))
                have t324 : (σ320 387 4).toInt = (σ311 387 4).toInt := congrArg Int32.toInt (u320 387 4 (by omega))
                have t325 : (σ320 387 11).toInt = (σ311 387 11).toInt := congrArg Int32.toInt (u320 387 11 (by omega))
                have t326 : (σ320 387 18).toInt = (σ311 387 18).toInt := congrArg Int32.toInt (u320 387 18 (by omega))
                refine r_iconst hx hb dX12_rollLine_128 (by decide) (fun z327 ez327 => ?_)
                exact r_zret hx hb hr hK hP hS hk (by omega) dX12_rollLine_129 (show P_X12_rollLine σ0 z327 σ320 from ⟨hR, hF, by omega, by omega, by omega, by first | exact Or.inl (by omega) | exact Or.inr ⟨by omega, gRXp, fun t ht => OKL.of_w (j := j292) (by omega) (by omega)⟩ | exact Or.inr ⟨by omega, gRXp, fun t ht => OKL.of3 (j1 := j292) (j2 := j319) (j3 := 0) (by omega) (by omega) (by omega) (by omega) (by omega) (by omega)⟩⟩)
              · clear hp311_1 hp311_2
                refine r_iconst hx hb dX12_rollLine_114 (by decide) (fun z328 ez328 => ?_)
                exact r_zret hx hb hr hK hP hS hk (by omega) dX12_rollLine_115 (show P_X12_rollLine σ0 z328 σ311 from ⟨hR, hF, by omega, by omega, by omega, by first | exact Or.inl (by omega) | exact Or.inr ⟨by omega, gRXp, fun t ht => OKL.of_w (j := j292) (by omega) (by omega)⟩ | exact Or.inr ⟨by omega, gRXp, fun t ht => OKL.of3 (j1 := j292) (j2 := 0) (j3 := 0) (by omega) (by omega) (by omega) (by omega) (by omega) (by omega)⟩⟩)
        · exfalso; omega
      · refine lv_aload_n hx hb dX12_rollLine_64 rfl (lv_at hl 2 rfl) ?_
        refine r_iconst hx hb dX12_rollLine_65 (by decide) (fun z329 ez329 => ?_)
        refine r_cVi (k := 387) (As := [.int z329]) (rest := []) ⟨hx, hb, hml, hown, hts⟩ hK hP hN hS (c_X12_bad l D cA ad hI σ0 τ3 hR z329 (by omega)) (cwV 1 hts gX12_rollLine_X12_bad rfl rfl rfl (by decide +kernel) ⟨by decide, by decide⟩) (rv_M hK hP (by decide) (by decide)) rfl hl.1 rfl (Nat.le_of_ble_eq_true rfl) dX12_rollLine_66 (Nat.zero_le _) (Nat.zero_le _) (fun r330 u330 H330 locs330 hp330 hP hS => ?_)
        obtain ⟨σ330, τ330⟩ := u330
        obtain ⟨hR, f330, hq330⟩ : P_X12_bad σ0 z329 r330 σ330 := hp330
        have hP : va_P D vwCl (gw cA ad σ330 τ330) H330 := hP
        have hF := hF.step f330 (by decide)
        have gRXp := RXp.fr gRXp (by omega) f330 (by decide)
        have t331 : (σ330 387 4).toInt = (σ0 387 4).toInt := congrArg Int32.toInt (f330.at 387 4 (by decide))
        have t332 : (σ330 387 3).toInt = (σ0 387 3).toInt := congrArg Int32.toInt (f330.at 387 3 (by decide))
        have t333 : (σ330 387 11).toInt = (σ0 387 11).toInt := congrArg Int32.toInt (f330.at 387 11 (by decide))
        have t334 : (σ330 387 18).toInt = (σ0 387 18).toInt := congrArg Int32.toInt (f330.at 387 18 (by decide))
        have t335 : (σ330 387 34).toInt = (σ0 387 34).toInt := congrArg Int32.toInt (f330.at 387 34 (by decide))
        exact r_zret hx hb hr hK hP hS hk (by omega) dX12_rollLine_69 (show P_X12_rollLine σ0 r330 σ330 from ⟨hR, hF, by omega, by omega, by omega, by first | exact Or.inl (by omega) | exact Or.inr ⟨by omega, gRXp, fun t ht => OKL.of_w (j := 0) (by omega) (by omega)⟩ | exact Or.inr ⟨by omega, gRXp, fun t ht => OKL.of3 (j1 := 0) (j2 := 0) (j3 := 0) (by omega) (by omega) (by omega) (by omega) (by omega) (by omega)⟩⟩)
