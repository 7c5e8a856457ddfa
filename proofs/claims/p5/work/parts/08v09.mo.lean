theorem in_X12_sharesNone_12 : ∀ w ∈ u_ws RX12 TX12 47, w ∈ wsX12_sharesNone := by decide +kernel
theorem lk_X12_sharesNone_305 : Cond.fieldLink RX12 305 "CuckooSharesModel" "sharers" "I" ∈ wsX12_sharesNone := by decide +kernel
theorem lk_X12_sharesNone_59 : Cond.fieldLink RX12 59 "CuckooSharesModel" "shares" "[I" ∈ wsX12_sharesNone := by decide +kernel
abbrev L_X12_sharesNone : List Rc := [(387, 387, 26, 26), (397, 397, 0, 7)]
abbrev LL_X12_sharesNone : List Rc := []
def P_X12_sharesNone (σ0 : Nat → Nat → Int32) (τ0 : Nat → Nat → Int64)  (σ : Nat → Nat → Int32) (τ : Nat → Nat → Int64) : Prop := Rg σ ∧ Fr L_X12_sharesNone σ0 σ ∧ FrL LL_X12_sharesNone τ0 τ
def J_X12_sharesNone_7 (p : Program) (l : Launch) (e : Env) (s : State) (m : MethodId) (args : Array Value) (below : List Frame) (meth : Method) (c : Code) (D : va_G) (cA : Nat → ClassId) (ad : Nat → Nat) (σ0 : Nat → Nat → Int32) (τ0 : Nat → Nat → Int64)  (n : Nat) : Prop := ∀ (σ : Nat → Nat → Int32) (τ : Nat → Nat → Int64) (H : Heap) (locs : List Loc) (x1 : Int32) (ls : Array Slot), Rg σ → Fr L_X12_sharesNone σ0 σ → FrL LL_X12_sharesNone τ0 τ → va_P D vwCl (gw cA ad σ τ) H → va_S (AA ad) s.heap H locs → (0 ≤ x1.toInt ∧ x1.toInt ≤ 8) → lv_has ls 2 [(0, .ref (ad 387)), (1, .int x1)] → 2 * (8 - x1.toInt) + 1 < (n : Int) → W p l e ({ frames := 0, cells := 0, slots := 0, locals := 0 } : Room) s m args below meth c H locs 0 0 (MQ below (va_Qv (fun u : SS => P_X12_sharesNone σ0 τ0 u.1 u.2) (WB D cA ad) (AA ad)) args s 0 0 (AA ad)) (F0 m 7 ls [])
set_option maxHeartbeats 4000000 in
theorem B_X12_sharesNone_7 (p : Program) (l : Launch) (e : Env) (s : State) (m : MethodId) (args : Array Value) (below : List Frame) (meth : Method) (c : Code) (D : va_G) (cA : Nat → ClassId) (ad : Nat → Nat) (σ0 : Nat → Nat → Int32) (τ0 : Nat → Nat → Int64)  (n : Nat) (C : Cy p s m args meth c cX12_sharesNone 2 wsX12_sharesNone RX12 D cA ad none)  (K7 : J_X12_sharesNone_7 p l e s m args below meth c D cA ad σ0 τ0 n) : J_X12_sharesNone_7 p l e s m args below meth c D cA ad σ0 τ0 (n + 1) := by
  obtain ⟨hx, hb, hml, hown, hts, hK, hk, hr, hI, hN⟩ := C
  intro σ τ H locs x1 ls hR hF hFL hP hS hc0 hl hm
  obtain rfl := FrL.nil hFL
  refine lv_iload_n hx hb dX12_sharesNone_7 rfl (lv_at hl 1 rfl) ?_
  refine r_bipush hx hb dX12_sharesNone_8 (by decide) (fun z1 ez1 => ?_)
  refine r_icmp_ge (tgt := 26) hx hb dX12_sharesNone_10 (by decide) (fun c2 => ?_) (fun c2 => ?_)
  · exact r_vret hx hb hr hK hP hS hk dX12_sharesNone_26 (show P_X12_sharesNone σ0 τ0 σ τ0 from ⟨hR, hF, hFL⟩)
  · refine lv_aload_n hx hb dX12_sharesNone_13 rfl (lv_at hl 0 rfl) ?_
    refine fg_12_25 (k := 387) hx hb hts in_X12_sharesNone_12 hown hK hP (by decide) (by decide) (hts _ lk_X12_sharesNone_59) dX12_sharesNone_14 ?_
    refine lv_iload_n hx hb dX12_sharesNone_17 rfl (lv_at hl 1 rfl) ?_
    refine r_iconst hx hb dX12_sharesNone_18 (by decide) (fun z3 ez3 => ?_)
    obtain ⟨j4, ej4⟩ : ∃ j : Nat, x1.toInt = (j : Int) := ⟨_, ti_nat (by omega)⟩
    refine as_mp8 (k := 397) (j := j4) hx hb hK hP hI hR hS (by decide) (by decide) ej4 (by omega) dX12_sharesNone_19 (fun σ5 H5 locs5 u5 v5 hR hP hS => ?_)
    have hF := hF.puts u5 1 rfl (by decide) (by decide) (by omega) (by omega)
    refine r_iinc (k := 1) (lv1 := fun z6 => [(1, .int z6), (0, .ref (ad 387))]) hx hb dX12_sharesNone_20 hl rfl (by decide) (fun _ => rfl) (by decide) (by omega) (fun z6 ls ez6 hl => ?_)
    refine lv_goto (tgt := 7) hx hb dX12_sharesNone_23 (by decide) ?_
    exact K7 σ5 τ0 H5 locs5 z6 ls hR hF hFL hP hS (by omega) (lv_sub hl [1, 0] rfl) (by omega)
theorem A_X12_sharesNone (p : Program) (l : Launch) (e : Env) (s : State) (m : MethodId) (args : Array Value) (below : List Frame) (meth : Method) (c : Code) (D : va_G) (cA : Nat → ClassId) (ad : Nat → Nat) (σ0 : Nat → Nat → Int32) (τ0 : Nat → Nat → Int64)  (C : Cy p s m args meth c cX12_sharesNone 2 wsX12_sharesNone RX12 D cA ad none)  : ∀ n : Nat, J_X12_sharesNone_7 p l e s m args below meth c D cA ad σ0 τ0 n := by
  intro n
  induction n with
  | zero =>
    exact (by intro σ τ H locs x1 ls hR hF hFL hP hS hc0 hl hm; exfalso; omega)
  | succ n ih =>
    exact B_X12_sharesNone_7 p l e s m args below meth c D cA ad σ0 τ0 n C  ih
set_option maxHeartbeats 4000000 in
theorem c_X12_sharesNone (l : Launch) (D : va_G) (cA : Nat → ClassId) (ad : Nat → Nat) (hI : Inj ad) (σ0 : Nat → Nat → Int32) (τ0 : Nat → Nat → Int64) (hR : Rg σ0)   : Met l yX12_sharesNone wsX12_sharesNone ({ frames := 0, cells := 0, slots := 0, locals := 0 } : Room) (WQc D cA ad [.ref (ad 387)] σ0 τ0) (va_Qv (fun u : SS => P_X12_sharesNone σ0 τ0 u.1 u.2) (WB D cA ad) (AA ad)) 0 0 (AA ad) := by
  refine Met.ofW (cc := cX12_sharesNone) (maxL := 2) (ret := none) (by decide) rfl ?_
  intro p e s m args below meth c s₁ B hml hv
  obtain ⟨rfl, hP, hK, hN⟩ := hv
  have C : Cy p s m _ meth c cX12_sharesNone 2 wsX12_sharesNone RX12 D cA ad none := ⟨B.exec, B.bytes, hml, findClass_of_methodNamed B.named, atoms_spec (ws := wsX12_sharesNone) B.pre, hK, B.notSynchronized, B.returns, hI, hN⟩
  have hl := lv_entry ([.ref (ad 387)]) (n := 2) (Nat.le_of_ble_eq_true rfl)
  rw [lg_entry_eq]
  generalize (lg_sl ([.ref (ad 387)]) ++ List.replicate (2 - (lg_sl ([.ref (ad 387)])).length) Slot.unset).toArray = ls at hl ⊢
  have hl : lv_has ls 2 [(0, .ref (ad 387))] := hl
  have hS : va_S (AA ad) s.heap s.heap [] := va_S.rf
  have hF : Fr L_X12_sharesNone σ0 σ0 := Fr.rf
  have hFL : FrL LL_X12_sharesNone τ0 τ0 := FrL.rf
  have hA := A_X12_sharesNone p l e s m _ below meth c D cA ad σ0 τ0 C  42
  have K7 := hA
  clear hA
  obtain ⟨hx, hb, _, hown, hts, _, hk, hr, _, _⟩ := C
  refine lv_aload_n hx hb dX12_sharesNone_0 rfl (lv_at hl 0 rfl) ?_
  refine r_iconst hx hb dX12_sharesNone_1 (by decide) (fun z1 ez1 => ?_)
  refine fp_12_26 (k := 387) hx hb hts in_X12_sharesNone_12 hown hK hP (by decide) (by decide) (hts _ lk_X12_sharesNone_305) hI hR hS dX12_sharesNone_2 (fun σ2 H2 locs2 u2 v2 hR hP hS => ?_)
  have hF := hF.puts u2 0 rfl (by decide) (by decide) (by decide) (by decide)
  refine r_iconst hx hb dX12_sharesNone_5 (by decide) (fun z3 ez3 => ?_)
  refine lv_istore_n (lv' := [(1, .int z3), (0, .ref (ad 387))]) hx hb dX12_sharesNone_6 rfl hl (by decide) rfl (fun ls hl => ?_)
  exact K7 σ2 τ0 H2 locs2 z3 ls hR hF hFL hP hS (by omega) (lv_sub hl [1, 0] rfl) (by omega)
theorem in_X12_sharesNow_12 : ∀ w ∈ u_ws RX12 TX12 47, w ∈ wsX12_sharesNow := by decide +kernel
theorem lk_X12_sharesNow_33 : Cond.fieldLink RX12 33 "CuckooSharesModel" "s" "[I" ∈ wsX12_sharesNow := by decide +kernel
theorem lk_X12_sharesNow_50 : Cond.fieldLink RX12 50 "CuckooSharesModel" "px" "[I" ∈ wsX12_sharesNow := by decide +kernel
abbrev L_X12_sharesNow : List Rc := [(387, 387, 26, 26), (397, 397, 0, 7), (394, 394, 0, 7), (395, 395, 0, 7), (396, 396, 0, 7)]
abbrev LL_X12_sharesNow : List Rc := []
def P_X12_sharesNow (σ0 : Nat → Nat → Int32) (τ0 : Nat → Nat → Int64)  (σ : Nat → Nat → Int32) (τ : Nat → Nat → Int64) : Prop := Rg σ ∧ Fr L_X12_sharesNow σ0 σ ∧ FrL LL_X12_sharesNow τ0 τ
def J_X12_sharesNow_10 (p : Program) (l : Launch) (e : Env) (s : State) (m : MethodId) (args : Array Value) (below : List Frame) (meth : Method) (c : Code) (D : va_G) (cA : Nat → ClassId) (ad : Nat → Nat) (σ0 : Nat → Nat → Int32) (τ0 : Nat → Nat → Int64)  (n : Nat) : Prop := ∀ (σ : Nat → Nat → Int32) (τ : Nat → Nat → Int64) (H : Heap) (locs : List Loc) (x1 : Int32) (ls : Array Slot), Rg σ → Fr L_X12_sharesNow σ0 σ → FrL LL_X12_sharesNow τ0 τ → va_P D vwCl (gw cA ad σ τ) H → va_S (AA ad) s.heap H locs → (0 ≤ x1.toInt ∧ x1.toInt ≤ 2) → lv_has ls 5 [(0, .ref (ad 387)), (1, .int x1)] → 211 * (2 - x1.toInt) + 210 < (n : Int) → W p l e ({ frames := 2, cells := 0, slots := 0, locals := 46 } : Room) s m args below meth c H locs 0 0 (MQ below (va_Qv (fun u : SS => P_X12_sharesNow σ0 τ0 u.1 u.2) (WB D cA ad) (AA ad)) args s 0 0 (AA ad)) (F0 m 10 ls [])
def J_X12_sharesNow_19 (p : Program) (l : Launch) (e : Env) (s : State) (m : MethodId) (args : Array Value) (below : List Frame) (meth : Method) (c : Code) (D : va_G) (cA : Nat → ClassId) (ad : Nat → Nat) (σ0 : Nat → Nat → Int32) (τ0 : Nat → Nat → Int64)  (n : Nat) : Prop := ∀ (σ : Nat → Nat → Int32) (τ : Nat → Nat → Int64) (H : Heap) (locs : List Loc) (x1 : Int32) (x2 : Int32) (x3 : Int32) (ls : Array Slot), Rg σ → Fr L_X12_sharesNow σ0 σ → FrL LL_X12_sharesNow τ0 τ → va_P D vwCl (gw cA ad σ τ) H → va_S (AA ad) s.heap H locs → (0 ≤ x1.toInt ∧ x1.toInt ≤ 1) → (-1 ≤ x2.toInt ∧ x2.toInt ≤ 9) → (0 ≤ x3.toInt ∧ x3.toInt ≤ 8) → lv_has ls 5 [(0, .ref (ad 387)), (1, .int x1), (2, .int x2), (3, .int x3)] → 211 * (2 - x1.toInt) + 21 * (8 - x3.toInt) + 20 < (n : Int) → W p l e ({ frames := 2, cells := 0, slots := 0, locals := 46 } : Room) s m args below meth c H locs 0 0 (MQ below (va_Qv (fun u : SS => P_X12_sharesNow σ0 τ0 u.1 u.2) (WB D cA ad) (AA ad)) args s 0 0 (AA ad)) (F0 m 19 ls [])
def J_X12_sharesNow_100 (p : Program) (l : Launch) (e : Env) (s : State) (m : MethodId) (args : Array Value) (below : List Frame) (meth : Method) (c : Code) (D : va_G) (cA : Nat → ClassId) (ad : Nat → Nat) (σ0 : Nat → Nat → Int32) (τ0 : Nat → Nat → Int64)  (n : Nat) : Prop := ∀ (σ : Nat → Nat → Int32) (τ : Nat → Nat → Int64) (H : Heap) (locs : List Loc) (x1 : Int32) (x2 : Int32) (x3 : Int32) (x4 : Int32) (ls : Array Slot), Rg σ → Fr L_X12_sharesNow σ0 σ → FrL LL_X12_sharesNow τ0 τ → va_P D vwCl (gw cA ad σ τ) H → va_S (AA ad) s.heap H locs → (0 ≤ x1.toInt ∧ x1.toInt ≤ 1) → (-1 ≤ x2.toInt ∧ x2.toInt ≤ 9) → (0 ≤ x4.toInt ∧ x4.toInt ≤ 8) → lv_has ls 5 [(0, .ref (ad 387)), (1, .int x1), (2, .int x2), (3, .int x3), (4, .int x4)] → 211 * (2 - x1.toInt) + 2 * (8 - x4.toInt) + 1 < (n : Int) → W p l e ({ frames := 2, cells := 0, slots := 0, locals := 46 } : Room) s m args below meth c H locs 0 0 (MQ below (va_Qv (fun u : SS => P_X12_sharesNow σ0 τ0 u.1 u.2) (WB D cA ad) (AA ad)) args s 0 0 (AA ad)) (F0 m 100 ls [])
set_option maxHeartbeats 4000000 in
theorem B_X12_sharesNow_10 (p : Program) (l : Launch) (e : Env) (s : State) (m : MethodId) (args : Array Value) (below : List Frame) (meth : Method) (c : Code) (D : va_G) (cA : Nat → ClassId) (ad : Nat → Nat) (σ0 : Nat → Nat → Int32) (τ0 : Nat → Nat → Int64)  (n : Nat) (C : Cy p s m args meth c cX12_sharesNow 5 wsX12_sharesNow RX12 D cA ad none)  (K10 : J_X12_sharesNow_10 p l e s m args below meth c D cA ad σ0 τ0 n) (K19 : J_X12_sharesNow_19 p l e s m args below meth c D cA ad σ0 τ0 n) (K100 : J_X12_sharesNow_100 p l e s m args below meth c D cA ad σ0 τ0 n) : J_X12_sharesNow_10 p l e s m args below meth c D cA ad σ0 τ0 (n + 1) := by
  obtain ⟨hx, hb, hml, hown, hts, hK, hk, hr, hI, hN⟩ := C
  intro σ τ H locs x1 ls hR hF hFL hP hS hc0 hl hm
  obtain rfl := FrL.nil hFL
  refine lv_iload_n hx hb dX12_sharesNow_10 rfl (lv_at hl 1 rfl) ?_
  refine r_iconst hx hb dX12_sharesNow_11 (by decide) (fun z1 ez1 => ?_)
  refine r_icmp_ge (tgt := 186) hx hb dX12_sharesNow_12 (by decide) (fun c2 => ?_) (fun c2 => ?_)
  · exact r_vret hx hb hr hK hP hS hk dX12_sharesNow_186 (show P_X12_sharesNow σ0 τ0 σ τ0 from ⟨hR, hF, hFL⟩)
  · refine r_iconst hx hb dX12_sharesNow_15 (by decide) (fun z3 ez3 => ?_)
    refine lv_istore_n (lv' := [(2, .int z3), (0, .ref (ad 387)), (1, .int x1)]) hx hb dX12_sharesNow_16 rfl hl (by decide) rfl (fun ls hl => ?_)
    refine r_iconst hx hb dX12_sharesNow_17 (by decide) (fun z4 ez4 => ?_)
    refine lv_istore_n (lv' := [(3, .int z4), (2, .int z3), (0, .ref (ad 387)), (1, .int x1)]) hx hb dX12_sharesNow_18 rfl hl (by decide) rfl (fun ls hl => ?_)
    exact K19 σ τ0 H locs x1 z3 z4 ls hR hF hFL hP hS (by omega) (by omega) (by omega) (lv_sub hl [2, 3, 1, 0] rfl) (by omega)
set_option maxHeartbeats 4000000 in
theorem B_X12_sharesNow_19 (p : Program) (l : Launch) (e : Env) (s : State) (m : MethodId) (args : Array Value) (below : List Frame) (meth : Method) (c : Code) (D : va_G) (cA : Nat → ClassId) (ad : Nat → Nat) (σ0 : Nat → Nat → Int32) (τ0 : Nat → Nat → Int64)  (n : Nat) (C : Cy p s m args meth c cX12_sharesNow 5 wsX12_sharesNow RX12 D cA ad none)  (K10 : J_X12_sharesNow_10 p l e s m args below meth c D cA ad σ0 τ0 n) (K19 : J_X12_sharesNow_19 p l e s m args below meth c D cA ad σ0 τ0 n) (K100 : J_X12_sharesNow_100 p l e s m args below meth c D cA ad σ0 τ0 n) : J_X12_sharesNow_19 p l e s m args below meth c D cA ad σ0 τ0 (n + 1) := by
  obtain ⟨hx, hb, hml, hown, hts, hK, hk, hr, hI, hN⟩ := C
  intro σ τ H locs x1 x2 x3 ls hR hF hFL hP hS hc0 hc1 hc2 hl hm
  obtain rfl := FrL.nil hFL
  refine lv_iload_n hx hb dX12_sharesNow_19 rfl (lv_at hl 3 rfl) ?_
  refine lv_aload_n hx hb dX12_sharesNow_20 rfl (lv_at hl 0 rfl) ?_
  refine fg_12_6 (k := 387) hx hb hts in_X12_sharesNow_12 hown hK hP (by decide) (by decide) (hts _ lk_X12_sharesNow_33) dX12_sharesNow_21 ?_
  refine r_iconst hx hb dX12_sharesNow_24 (by decide) (fun z1 ez1 => ?_)
  refine ad_ms (k := 389) (j := 1) hx hb hK hP (by decide) (by decide) (by omega) (by omega) dX12_sharesNow_25 ?_
  have hr2 := ra_ms_0 hR (k := 389) (j := 1) (by decide) (by decide) (by decide) (by decide)
  refine r_icmp_ge (tgt := 95) hx hb dX12_sharesNow_26 (by decide) (fun c3 => ?_) (fun c3 => ?_)
  · refine r_iconst hx hb dX12_sharesNow_95 (by decide) (fun z4 ez4 => ?_)
    refine lv_istore_n (lv' := [(3, .int z4), (0, .ref (ad 387)), (1, .int x1), (2, .int x2)]) hx hb dX12_sharesNow_96 rfl hl (by decide) rfl (fun ls hl => ?_)
    refine r_iconst hx hb dX12_sharesNow_97 (by decide) (fun z5 ez5 => ?_)
    refine lv_istore (lv' := [(4, .int z5), (3, .int z4), (0, .ref (ad 387)), (1, .int x1), (2, .int x2)]) hx hb dX12_sharesNow_98 hl (by decide) rfl (fun ls hl => ?_)
    exact K100 σ τ0 H locs x1 x2 z4 z5 ls hR hF hFL hP hS (by omega) (by omega) (by omega) (lv_sub hl [2, 3, 4, 1, 0] rfl) (by omega)
  · refine lv_aload_n hx hb dX12_sharesNow_29 rfl (lv_at hl 0 rfl) ?_
    refine fg_12_6 (k := 387) hx hb hts in_X12_sharesNow_12 hown hK hP (by decide) (by decide) (hts _ lk_X12_sharesNow_33) dX12_sharesNow_30 ?_
    refine r_sipush hx hb dX12_sharesNow_33 (by decide) (fun z6 ez6 => ?_)
    refine lv_iload_n hx hb dX12_sharesNow_36 rfl (lv_at hl 3 rfl) ?_
    refine r_iadd hx hb dX12_sharesNow_37 (by omega) (fun z7 ez7 => ?_)
    obtain ⟨j8, ej8⟩ : ∃ j : Nat, z7.toInt = (j : Int) := ⟨_, ti_nat (by omega)⟩
    refine ad_ms (k := 389) (j := j8) hx hb hK hP (by decide) (by decide) ej8 (by omega) dX12_sharesNow_38 ?_
    have hr9 := ra_ms_7 hR (k := 389) (j := j8) (by decide) (by decide) (by omega) (by omega)
    refine r_if_le (tgt := 89) hx hb dX12_sharesNow_39 (by decide) (fun c10 => ?_) (fun c10 => ?_)
    · refine r_iinc (k := 3) (lv1 := fun z11 => [(3, .int z11), (0, .ref (ad 387)), (1, .int x1), (2, .int x2)]) hx hb dX12_sharesNow_89 hl rfl (by decide) (fun _ => rfl) (by decide) (by omega) (fun z11 ls ez11 hl => ?_)
      refine lv_goto (tgt := 19) hx hb dX12_sharesNow_92 (by decide) ?_
      exact K19 σ τ0 H locs x1 x2 z11 ls hR hF hFL hP hS (by omega) (by omega) (by omega) (lv_sub hl [1, 2, 3, 0] rfl) (by omega)
    · refine lv_aload_n hx hb dX12_sharesNow_42 rfl (lv_at hl 0 rfl) ?_
      refine lv_aload_n hx hb dX12_sharesNow_43 rfl (lv_at hl 0 rfl) ?_
      refine fg_12_22 (k := 387) hx hb hts in_X12_sharesNow_12 hown hK hP (by decide) (by decide) (hts _ lk_X12_sharesNow_50) dX12_sharesNow_44 ?_
      refine lv_iload_n hx hb dX12_sharesNow_47 rfl (lv_at hl 3 rfl) ?_
      obtain ⟨j12, ej12⟩ : ∃ j : Nat, x3.toInt = (j : Int) := ⟨_, ti_nat (by omega)⟩
      refine ad_mp8 (k := 394) (j := j12) hx hb hK hP (by decide) (by decide) ej12 (by omega) dX12_sharesNow_48 ?_
      refine r_cVi (k := 387) (As := [.int (σ 394 j12)]) (rest := []) ⟨hx, hb, hml, hown, hts⟩ hK hP hN hS (c_X12_valleyOf l D cA ad hI σ τ0 hR (σ 394 j12)) (cwV 1 hts gX12_sharesNow_X12_valleyOf rfl rfl rfl (by decide +kernel) ⟨by decide, by decide⟩) (rv_M hK hP (by decide) (by decide)) rfl hl.1 rfl (Nat.le_of_ble_eq_true rfl) dX12_sharesNow_49 (Nat.zero_le _) (Nat.zero_le _) (fun r13 u13 H13 locs13 hp13 hP hS => ?_)
      obtain ⟨σ13, τ13⟩ := u13
      obtain ⟨hR, f13, fL13, hq13, hp13_0⟩ : P_X12_valleyOf σ τ0 (σ 394 j12) r13 σ13 τ13 := hp13
      have hP : va_P D vwCl (gw cA ad σ13 τ13) H13 := hP
      obtain rfl := FrL.nil fL13
      obtain rfl := Fr.nil f13
      refine lv_iload_n hx hb dX12_sharesNow_52 rfl (lv_at hl 1 rfl) ?_
      refine r_icmp_ne (tgt := 89) hx hb dX12_sharesNow_53 (by decide) (fun c14 => ?_) (fun c14 => ?_)
      · refine r_iinc (k := 3) (lv1 := fun z15 => [(3, .int z15), (0, .ref (ad 387)), (1, .int x1), (2, .int x2)]) hx hb dX12_sharesNow_89 hl rfl (by decide) (fun _ => rfl) (by decide) (by omega) (fun z15 ls ez15 hl => ?_)
        refine lv_goto (tgt := 19) hx hb dX12_sharesNow_92 (by decide) ?_
        exact K19 σ τ0 H13 locs13 x1 x2 z15 ls hR hF hFL hP hS (by omega) (by omega) (by omega) (lv_sub hl [1, 2, 3, 0] rfl) (by omega)
      · refine lv_iload_n hx hb dX12_sharesNow_56 rfl (lv_at hl 2 rfl) ?_
        refine r_if_lt (tgt := 76) hx hb dX12_sharesNow_57 (by decide) (fun c16 => ?_) (fun c16 => ?_)
        · refine lv_aload_n hx hb dX12_sharesNow_76 rfl (lv_at hl 0 rfl) ?_
          refine fg_12_6 (k := 387) hx hb hts in_X12_sharesNow_12 hown hK hP (by decide) (by decide) (hts _ lk_X12_sharesNow_33) dX12_sharesNow_77 ?_
          refine r_sipush hx hb dX12_sharesNow_80 (by decide) (fun z17 ez17 => ?_)
          refine lv_iload_n hx hb dX12_sharesNow_83 rfl (lv_at hl 3 rfl) ?_
          refine r_iadd hx hb dX12_sharesNow_84 (by omega) (fun z18 ez18 => ?_)
          refine ad_ms (k := 389) (j := j8) hx hb hK hP (by decide) (by decide) (by omega) (by omega) dX12_sharesNow_85 ?_
          have hr19 := ra_ms_7 hR (k := 389) (j := j8) (by decide) (by decide) (by omega) (by omega)
          refine r_iconst hx hb dX12_sharesNow_86 (by decide) (fun z20 ez20 => ?_)
          refine r_isub hx hb dX12_sharesNow_87 (by omega) (fun z21 ez21 => ?_)
          refine lv_istore_n (lv' := [(2, .int z21), (0, .ref (ad 387)), (1, .int x1), (3, .int x3)]) hx hb dX12_sharesNow_88 rfl hl (by decide) rfl (fun ls hl => ?_)
          refine r_iinc (k := 3) (lv1 := fun z22 => [(3, .int z22), (2, .int z21), (0, .ref (ad 387)), (1, .int x1)]) hx hb dX12_sharesNow_89 hl rfl (by decide) (fun _ => rfl) (by decide) (by omega) (fun z22 ls ez22 hl => ?_)
          refine lv_goto (tgt := 19) hx hb dX12_sharesNow_92 (by decide) ?_
          exact K19 σ τ0 H13 locs13 x1 z21 z22 ls hR hF hFL hP hS (by omega) (by omega) (by omega) (lv_sub hl [2, 3, 1, 0] rfl) (by omega)
        · refine lv_aload_n hx hb dX12_sharesNow_60 rfl (lv_at hl 0 rfl) ?_
          refine fg_12_6 (k := 387) hx hb hts in_X12_sharesNow_12 hown hK hP (by decide) (by decide) (hts _ lk_X12_sharesNow_33) dX12_sharesNow_61 ?_
          refine r_sipush hx hb dX12_sharesNow_64 (by decide) (fun z23 ez23 => ?_)
          refine lv_iload_n hx hb dX12_sharesNow_67 rfl (lv_at hl 3 rfl) ?_
          refine r_iadd hx hb dX12_sharesNow_68 (by omega) (fun z24 ez24 => ?_)
          refine ad_ms (k := 389) (j := j8) hx hb hK hP (by decide) (by decide) (by omega) (by omega) dX12_sharesNow_69 ?_
          have hr25 := ra_ms_7 hR (k := 389) (j := j8) (by decide) (by decide) (by omega) (by omega)
          refine r_iconst hx hb dX12_sharesNow_70 (by decide) (fun z26 ez26 => ?_)
          refine r_isub hx hb dX12_sharesNow_71 (by omega) (fun z27 ez27 => ?_)
          refine lv_iload_n hx hb dX12_sharesNow_72 rfl (lv_at hl 2 rfl) ?_
          refine r_icmp_ge (tgt := 89) hx hb dX12_sharesNow_73 (by decide) (fun c28 => ?_) (fun c28 => ?_)
          · refine r_iinc (k := 3) (lv1 := fun z29 => [(3, .int z29), (0, .ref (ad 387)), (1, .int x1), (2, .int x2)]) hx hb dX12_sharesNow_89 hl rfl (by decide) (fun _ => rfl) (by decide) (by omega) (fun z29 ls ez29 hl => ?_)
            refine lv_goto (tgt := 19) hx hb dX12_sharesNow_92 (by decide) ?_
            exact K19 σ τ0 H13 locs13 x1 x2 z29 ls hR hF hFL hP hS (by omega) (by omega) (by omega) (lv_sub hl [1, 2, 3, 0] rfl) (by omega)
          · refine lv_aload_n hx hb dX12_sharesNow_76 rfl (lv_at hl 0 rfl) ?_
            refine fg_12_6 (k := 387) hx hb hts in_X12_sharesNow_12 hown hK hP (by decide) (by decide) (hts _ lk_X12_sharesNow_33) dX12_sharesNow_77 ?_
            refine r_sipush hx hb dX12_sharesNow_80 (by decide) (fun z30 ez30 => ?_)
            refine lv_iload_n hx hb dX12_sharesNow_83 rfl (lv_at hl 3 rfl) ?_
            refine r_iadd hx hb dX12_sharesNow_84 (by omega) (fun z31 ez31 => ?_)
            refine ad_ms (k := 389) (j := j8) hx hb hK hP (by decide) (by decide) (by omega) (by omega) dX12_sharesNow_85 ?_
            have hr32 := ra_ms_7 hR (k := 389) (j := j8) (by decide) (by decide) (by omega) (by omega)
            refine r_iconst hx hb dX12_sharesNow_86 (by decide) (fun z33 ez33 => ?_)
            refine r_isub hx hb dX12_sharesNow_87 (by omega) (fun z34 ez34 => ?_)
            refine lv_istore_n (lv' := [(2, .int z34), (0, .ref (ad 387)), (1, .int x1), (3, .int x3)]) hx hb dX12_sharesNow_88 rfl hl (by decide) rfl (fun ls hl => ?_)
            refine r_iinc (k := 3) (lv1 := fun z35 => [(3, .int z35), (2, .int z34), (0, .ref (ad 387)), (1, .int x1)]) hx hb dX12_sharesNow_89 hl rfl (by decide) (fun _ => rfl) (by decide) (by omega) (fun z35 ls ez35 hl => ?_)
            refine lv_goto (tgt := 19) hx hb dX12_sharesNow_92 (by decide) ?_
            exact K19 σ τ0 H13 locs13 x1 z34 z35 ls hR hF hFL hP hS (by omega) (by omega) (by omega) (lv_sub hl [2, 3, 1, 0] rfl) (by omega)
set_option maxHeartbeats 4000000 in
theorem B_X12_sharesNow_100 (p : Program) (l : Launch) (e : Env) (s : State) (m : MethodId) (args : Array Value) (below : List Frame) (meth : Method) (c : Code) (D : va_G) (cA : Nat → ClassId) (ad : Nat → Nat) (σ0 : Nat → Nat → Int32) (τ0 : Nat → Nat → Int64)  (n : Nat) (C : Cy p s m args meth c cX12_sharesNow 5 wsX12_sharesNow RX12 D cA ad none)  (K10 : J_X12_sharesNow_10 p l e s m args below meth c D cA ad σ0 τ0 n) (K19 : J_X12_sharesNow_19 p l e s m args below meth c D cA ad σ0 τ0 n) (K100 : J_X12_sharesNow_100 p l e s m args below meth c D cA ad σ0 τ0 n) : J_X12_sharesNow_100 p l e s m args below meth c D cA ad σ0 τ0 (n + 1) := by
  obtain ⟨hx, hb, hml, hown, hts, hK, hk, hr, hI, hN⟩ := C
  intro σ τ H locs x1 x2 x3 x4 ls hR hF hFL hP hS hc0 hc1 hc2 hl hm
  obtain rfl := FrL.nil hFL
  refine lv_iload hx hb dX12_sharesNow_100 (lv_at hl 4 rfl) ?_
  refine lv_aload_n hx hb dX12_sharesNow_102 rfl (lv_at hl 0 rfl) ?_
  refine fg_12_6 (k := 387) hx hb hts in_X12_sharesNow_12 hown hK hP (by decide) (by decide) (hts _ lk_X12_sharesNow_33) dX12_sharesNow_103 ?_
  refine r_iconst hx hb dX12_sharesNow_106 (by decide) (fun z1 ez1 => ?_)
  refine ad_ms (k := 389) (j := 1) hx hb hK hP (by decide) (by decide) (by omega) (by omega) dX12_sharesNow_107 ?_
  have hr2 := ra_ms_0 hR (k := 389) (j := 1) (by decide) (by decide) (by decide) (by decide)
  refine r_icmp_ge (tgt := 164) hx hb dX12_sharesNow_108 (by decide) (fun c3 => ?_) (fun c3 => ?_)
  · refine lv_iload_n hx hb dX12_sharesNow_164 rfl (lv_at hl 3 rfl) ?_
    refine r_if_eq (tgt := 180) hx hb dX12_sharesNow_165 (by decide) (fun c4 => ?_) (fun c4 => ?_)
    · refine r_iinc (k := 1) (lv1 := fun z5 => [(1, .int z5), (0, .ref (ad 387)), (2, .int x2), (3, .int x3), (4, .int x4)]) hx hb dX12_sharesNow_180 hl rfl (by decide) (fun _ => rfl) (by decide) (by omega) (fun z5 ls ez5 hl => ?_)
      refine lv_goto (tgt := 10) hx hb dX12_sharesNow_183 (by decide) ?_
      exact K10 σ τ0 H locs z5 ls hR hF hFL hP hS (by omega) (lv_sub hl [1, 0] rfl) (by omega)
    · refine lv_aload_n hx hb dX12_sharesNow_168 rfl (lv_at hl 0 rfl) ?_
      refine lv_iload_n hx hb dX12_sharesNow_169 rfl (lv_at hl 3 rfl) ?_
      refine lv_iload_n hx hb dX12_sharesNow_170 rfl (lv_at hl 2 rfl) ?_
      refine lv_aload_n hx hb dX12_sharesNow_171 rfl (lv_at hl 0 rfl) ?_
      refine fg_12_6 (k := 387) hx hb hts in_X12_sharesNow_12 hown hK hP (by decide) (by decide) (hts _ lk_X12_sharesNow_33) dX12_sharesNow_172 ?_
      refine r_iconst hx hb dX12_sharesNow_175 (by decide) (fun z6 ez6 => ?_)
      refine ad_ms (k := 389) (j := 4) hx hb hK hP (by decide) (by decide) (by omega) (by omega) dX12_sharesNow_176 ?_
      refine r_cVv (k := 387) (As := [.int x3, .int x2, .int (σ 389 4)]) (rest := []) ⟨hx, hb, hml, hown, hts⟩ hK hP hN hS (c_X12_gives l D cA ad hI σ τ0 hR x3 x2 (σ 389 4) (by omega)) (cwV 3 hts gX12_sharesNow_X12_gives rfl rfl rfl (by decide +kernel) ⟨by decide, by decide⟩) (rv_M hK hP (by decide) (by decide)) rfl hl.1 rfl (Nat.le_of_ble_eq_true rfl) dX12_sharesNow_177 (Nat.zero_le _) (Nat.zero_le _) (fun u7 H7 locs7 hp7 hP hS => ?_)
      obtain ⟨σ7, τ7⟩ := u7
      obtain ⟨hR, f7, fL7⟩ : P_X12_gives σ τ0 x3 x2 (σ 389 4) σ7 τ7 := hp7
      have hP : va_P D vwCl (gw cA ad σ7 τ7) H7 := hP
      obtain rfl := FrL.nil fL7
      have hF := hF.step f7 (by decide)
      refine r_iinc (k := 1) (lv1 := fun z8 => [(1, .int z8), (0, .ref (ad 387)), (2, .int x2), (3, .int x3), (4, .int x4)]) hx hb dX12_sharesNow_180 hl rfl (by decide) (fun _ => rfl) (by decide) (by omega) (fun z8 ls ez8 hl => ?_)
      refine lv_goto (tgt := 10) hx hb dX12_sharesNow_183 (by decide) ?_
      exact K10 σ7 τ0 H7 locs7 z8 ls hR hF hFL hP hS (by omega) (lv_sub hl [1, 0] rfl) (by omega)
  · refine lv_iload_n hx hb dX12_sharesNow_111 rfl (lv_at hl 3 rfl) ?_
    refine lv_iload_n hx hb dX12_sharesNow_112 rfl (lv_at hl 2 rfl) ?_
    refine r_if_lt (tgt := 155) hx hb dX12_sharesNow_113 (by decide) (fun c9 => ?_) (fun c9 => ?_)
    · refine r_iconst hx hb dX12_sharesNow_155 (by decide) (fun z10 ez10 => ?_)
      refine r_iorU hx hb dX12_sharesNow_156 (fun z11 => ?_)
      refine lv_istore_n (lv' := [(3, .int z11), (0, .ref (ad 387)), (1, .int x1), (2, .int x2), (4, .int x4)]) hx hb dX12_sharesNow_157 rfl hl (by decide) rfl (fun ls hl => ?_)
      refine r_iinc (k := 4) (lv1 := fun z12 => [(4, .int z12), (3, .int z11), (0, .ref (ad 387)), (1, .int x1), (2, .int x2)]) hx hb dX12_sharesNow_158 hl rfl (by decide) (fun _ => rfl) (by decide) (by omega) (fun z12 ls ez12 hl => ?_)
      refine lv_goto (tgt := 100) hx hb dX12_sharesNow_161 (by decide) ?_
      exact K100 σ τ0 H locs x1 x2 z11 z12 ls hR hF hFL hP hS (by omega) (by omega) (by omega) (lv_sub hl [2, 3, 4, 1, 0] rfl) (by omega)
    · refine lv_aload_n hx hb dX12_sharesNow_116 rfl (lv_at hl 0 rfl) ?_
      refine fg_12_6 (k := 387) hx hb hts in_X12_sharesNow_12 hown hK hP (by decide) (by decide) (hts _ lk_X12_sharesNow_33) dX12_sharesNow_117 ?_
      refine r_sipush hx hb dX12_sharesNow_120 (by decide) (fun z13 ez13 => ?_)
      refine lv_iload hx hb dX12_sharesNow_123 (lv_at hl 4 rfl) ?_
      refine r_iadd hx hb dX12_sharesNow_125 (by omega) (fun z14 ez14 => ?_)
      obtain ⟨j15, ej15⟩ : ∃ j : Nat, z14.toInt = (j : Int) := ⟨_, ti_nat (by omega)⟩
      refine ad_ms (k := 389) (j := j15) hx hb hK hP (by decide) (by decide) ej15 (by omega) dX12_sharesNow_126 ?_
      have hr16 := ra_ms_7 hR (k := 389) (j := j15) (by decide) (by decide) (by omega) (by omega)
      refine lv_iload_n hx hb dX12_sharesNow_127 rfl (lv_at hl 2 rfl) ?_
      refine r_iconst hx hb dX12_sharesNow_128 (by decide) (fun z17 ez17 => ?_)
      refine r_iadd hx hb dX12_sharesNow_129 (by omega) (fun z18 ez18 => ?_)
      refine r_icmp_ne (tgt := 155) hx hb dX12_sharesNow_130 (by decide) (fun c19 => ?_) (fun c19 => ?_)
      · refine r_iconst hx hb dX12_sharesNow_155 (by decide) (fun z20 ez20 => ?_)
        refine r_iorU hx hb dX12_sharesNow_156 (fun z21 => ?_)
        refine lv_istore_n (lv' := [(3, .int z21), (0, .ref (ad 387)), (1, .int x1), (2, .int x2), (4, .int x4)]) hx hb dX12_sharesNow_157 rfl hl (by decide) rfl (fun ls hl => ?_)
        refine r_iinc (k := 4) (lv1 := fun z22 => [(4, .int z22), (3, .int z21), (0, .ref (ad 387)), (1, .int x1), (2, .int x2)]) hx hb dX12_sharesNow_158 hl rfl (by decide) (fun _ => rfl) (by decide) (by omega) (fun z22 ls ez22 hl => ?_)
        refine lv_goto (tgt := 100) hx hb dX12_sharesNow_161 (by decide) ?_
        exact K100 σ τ0 H locs x1 x2 z21 z22 ls hR hF hFL hP hS (by omega) (by omega) (by omega) (lv_sub hl [2, 3, 4, 1, 0] rfl) (by omega)
      · refine lv_aload_n hx hb dX12_sharesNow_133 rfl (lv_at hl 0 rfl) ?_
        refine lv_aload_n hx hb dX12_sharesNow_134 rfl (lv_at hl 0 rfl) ?_
        refine fg_12_22 (k := 387) hx hb hts in_X12_sharesNow_12 hown hK hP (by decide) (by decide) (hts _ lk_X12_sharesNow_50) dX12_sharesNow_135 ?_
        refine lv_iload hx hb dX12_sharesNow_138 (lv_at hl 4 rfl) ?_
        obtain ⟨j23, ej23⟩ : ∃ j : Nat, x4.toInt = (j : Int) := ⟨_, ti_nat (by omega)⟩
        refine ad_mp8 (k := 394) (j := j23) hx hb hK hP (by decide) (by decide) ej23 (by omega) dX12_sharesNow_140 ?_
        refine r_cVi (k := 387) (As := [.int (σ 394 j23)]) (rest := [.int x3]) ⟨hx, hb, hml, hown, hts⟩ hK hP hN hS (c_X12_valleyOf l D cA ad hI σ τ0 hR (σ 394 j23)) (cwV 1 hts gX12_sharesNow_X12_valleyOf rfl rfl rfl (by decide +kernel) ⟨by decide, by decide⟩) (rv_M hK hP (by decide) (by decide)) rfl hl.1 rfl (Nat.le_of_ble_eq_true rfl) dX12_sharesNow_141 (Nat.zero_le _) (Nat.zero_le _) (fun r24 u24 H24 locs24 hp24 hP hS => ?_)
        obtain ⟨σ24, τ24⟩ := u24
        obtain ⟨hR, f24, fL24, hq24, hp24_0⟩ : P_X12_valleyOf σ τ0 (σ 394 j23) r24 σ24 τ24 := hp24
        have hP : va_P D vwCl (gw cA ad σ24 τ24) H24 := hP
        obtain rfl := FrL.nil fL24
        obtain rfl := Fr.nil f24
        refine lv_iload_n hx hb dX12_sharesNow_144 rfl (lv_at hl 1 rfl) ?_
        refine r_icmp_ne (tgt := 155) hx hb dX12_sharesNow_145 (by decide) (fun c25 => ?_) (fun c25 => ?_)
        · refine r_iconst hx hb dX12_sharesNow_155 (by decide) (fun z26 ez26 => ?_)
          refine r_iorU hx hb dX12_sharesNow_156 (fun z27 => ?_)
          refine lv_istore_n (lv' := [(3, .int z27), (0, .ref (ad 387)), (1, .int x1), (2, .int x2), (4, .int x4)]) hx hb dX12_sharesNow_157 rfl hl (by decide) rfl (fun ls hl => ?_)
          refine r_iinc (k := 4) (lv1 := fun z28 => [(4, .int z28), (3, .int z27), (0, .ref (ad 387)), (1, .int x1), (2, .int x2)]) hx hb dX12_sharesNow_158 hl rfl (by decide) (fun _ => rfl) (by decide) (by omega) (fun z28 ls ez28 hl => ?_)
          refine lv_goto (tgt := 100) hx hb dX12_sharesNow_161 (by decide) ?_
          exact K100 σ τ0 H24 locs24 x1 x2 z27 z28 ls hR hF hFL hP hS (by omega) (by omega) (by omega) (lv_sub hl [2, 3, 4, 1, 0] rfl) (by omega)
        · refine r_iconst hx hb dX12_sharesNow_148 (by decide) (fun z29 ez29 => ?_)
          refine lv_iload hx hb dX12_sharesNow_149 (lv_at hl 4 rfl) ?_
          refine r_ishlU hx hb dX12_sharesNow_151 (fun z30 => ?_)
          refine lv_goto (tgt := 156) hx hb dX12_sharesNow_152 (by decide) ?_
          refine r_iorU hx hb dX12_sharesNow_156 (fun z31 => ?_)
          refine lv_istore_n (lv' := [(3, .int z31), (0, .ref (ad 387)), (1, .int x1), (2, .int x2), (4, .int x4)]) hx hb dX12_sharesNow_157 rfl hl (by decide) rfl (fun ls hl => ?_)
          refine r_iinc (k := 4) (lv1 := fun z32 => [(4, .int z32), (3, .int z31), (0, .ref (ad 387)), (1, .int x1), (2, .int x2)]) hx hb dX12_sharesNow_158 hl rfl (by decide) (fun _ => rfl) (by decide) (by omega) (fun z32 ls ez32 hl => ?_)
          refine lv_goto (tgt := 100) hx hb dX12_sharesNow_161 (by decide) ?_
          exact K100 σ τ0 H24 locs24 x1 x2 z31 z32 ls hR hF hFL hP hS (by omega) (by omega) (by omega) (lv_sub hl [2, 3, 4, 1, 0] rfl) (by omega)
theorem A_X12_sharesNow (p : Program) (l : Launch) (e : Env) (s : State) (m : MethodId) (args : Array Value) (below : List Frame) (meth : Method) (c : Code) (D : va_G) (cA : Nat → ClassId) (ad : Nat → Nat) (σ0 : Nat → Nat → Int32) (τ0 : Nat → Nat → Int64)  (C : Cy p s m args meth c cX12_sharesNow 5 wsX12_sharesNow RX12 D cA ad none)  : ∀ n : Nat, J_X12_sharesNow_10 p l e s m args below meth c D cA ad σ0 τ0 n ∧ J_X12_sharesNow_19 p l e s m args below meth c D cA ad σ0 τ0 n ∧ J_X12_sharesNow_100 p l e s m args below meth c D cA ad σ0 τ0 n := by
  intro n
  induction n with
  | zero =>
    exact ⟨(by intro σ τ H locs x1 ls hR hF hFL hP hS hc0 hl hm; exfalso; omega), (by intro σ τ H locs x1 x2 x3 ls hR hF hFL hP hS hc0 hc1 hc2 hl hm; exfalso; omega), (by intro σ τ H locs x1 x2 x3 x4 ls hR hF hFL hP hS hc0 hc1 hc2 hl hm; exfalso; omega)⟩
  | succ n ih =>
    exact ⟨B_X12_sharesNow_10 p l e s m args below meth c D cA ad σ0 τ0 n C  ih.1 ih.2.1 ih.2.2, B_X12_sharesNow_19 p l e s m args below meth c D cA ad σ0 τ0 n C  ih.1 ih.2.1 ih.2.2, B_X12_sharesNow_100 p l e s m args below meth c D cA ad σ0 τ0 n C  ih.1 ih.2.1 ih.2.2⟩
set_option maxHeartbeats 4000000 in
theorem c_X12_sharesNow (l : Launch) (D : va_G) (cA : Nat → ClassId) (ad : Nat → Nat) (hI : Inj ad) (σ0 : Nat → Nat → Int32) (τ0 : Nat → Nat → Int64) (hR : Rg σ0)   : Met l yX12_sharesNow wsX12_sharesNow ({ frames := 2, cells := 0, slots := 0, locals := 46 } : Room) (WQc D cA ad [.ref (ad 387)] σ0 τ0) (va_Qv (fun u : SS => P_X12_sharesNow σ0 τ0 u.1 u.2) (WB D cA ad) (AA ad)) 0 0 (AA ad) := by
  refine Met.ofW (cc := cX12_sharesNow) (maxL := 5) (ret := none) (by decide) rfl ?_
  intro p e s m args below meth c s₁ B hml hv
  obtain ⟨rfl, hP, hK, hN⟩ := hv
  have C : Cy p s m _ meth c cX12_sharesNow 5 wsX12_sharesNow RX12 D cA ad none := ⟨B.exec, B.bytes, hml, findClass_of_methodNamed B.named, atoms_spec (ws := wsX12_sharesNow) B.pre, hK, B.notSynchronized, B.returns, hI, hN⟩
  have hl := lv_entry ([.ref (ad 387)]) (n := 5) (Nat.le_of_ble_eq_true rfl)
  rw [lg_entry_eq]
  generalize (lg_sl ([.ref (ad 387)]) ++ List.replicate (5 - (lg_sl ([.ref (ad 387)])).length) Slot.unset).toArray = ls at hl ⊢
  have hl : lv_has ls 5 [(0, .ref (ad 387))] := hl
  have hS : va_S (AA ad) s.heap s.heap [] := va_S.rf
  have hF : Fr L_X12_sharesNow σ0 σ0 := Fr.rf
  have hFL : FrL LL_X12_sharesNow τ0 τ0 := FrL.rf
  have hA := A_X12_sharesNow p l e s m _ below meth c D cA ad σ0 τ0 C  1688
  have K10 := hA.1
  have K19 := hA.2.1
  have K100 := hA.2.2
  clear hA
  obtain ⟨hx, hb, _, hown, hts, _, hk, hr, _, _⟩ := C
  refine lv_aload_n hx hb dX12_sharesNow_0 rfl (lv_at hl 0 rfl) ?_
  refine r_cVv (k := 387) (As := []) (rest := []) ⟨hx, hb, hml, hown, hts⟩ hK hP hN hS (c_X12_sharesNone l D cA ad hI σ0 τ0 hR) (cwV 0 hts gX12_sharesNow_X12_sharesNone rfl rfl rfl (by decide +kernel) ⟨by decide, by decide⟩) (rv_M hK hP (by decide) (by decide)) rfl hl.1 rfl (Nat.le_of_ble_eq_true rfl) dX12_sharesNow_1 (Nat.zero_le _) (Nat.zero_le _) (fun u1 H1 locs1 hp1 hP hS => ?_)
  obtain ⟨σ1, τ1⟩ := u1
  obtain ⟨hR, f1, fL1⟩ : P_X12_sharesNone σ0 τ0 σ1 τ1 := hp1
  have hP : va_P D vwCl (gw cA ad σ1 τ1) H1 := hP
  obtain rfl := FrL.nil fL1
  have hF := hF.step f1 (by decide)
  refine lv_aload_n hx hb dX12_sharesNow_4 rfl (lv_at hl 0 rfl) ?_
  refine r_cVv (k := 387) (As := []) (rest := []) ⟨hx, hb, hml, hown, hts⟩ hK hP hN hS (c_X12_asNow l D cA ad hI σ1 τ0 hR) (cwV 0 hts gX12_sharesNow_X12_asNow rfl rfl rfl (by decide +kernel) ⟨by decide, by decide⟩) (rv_M hK hP (by decide) (by decide)) rfl hl.1 rfl (Nat.le_of_ble_eq_true rfl) dX12_sharesNow_5 (Nat.zero_le _) (Nat.zero_le _) (fun u2 H2 locs2 hp2 hP hS => ?_)
  obtain ⟨σ2, τ2⟩ := u2
  obtain ⟨hR, f2, fL2⟩ : P_X12_asNow σ1 τ0 σ2 τ2 := hp2
  have hP : va_P D vwCl (gw cA ad σ2 τ2) H2 := hP
  obtain rfl := FrL.nil fL2
  have hF := hF.step f2 (by decide)
  refine r_iconst hx hb dX12_sharesNow_8 (by decide) (fun z3 ez3 => ?_)
  refine lv_istore_n (lv' := [(1, .int z3), (0, .ref (ad 387))]) hx hb dX12_sharesNow_9 rfl hl (by decide) rfl (fun ls hl => ?_)
  exact K10 σ2 τ0 H2 locs2 z3 ls hR hF hFL hP hS (by omega) (lv_sub hl [1, 0] rfl) (by omega)
theorem in_X12_whyShare_12 : ∀ w ∈ u_ws RX12 TX12 47, w ∈ wsX12_whyShare := by decide +kernel
theorem lk_X12_whyShare_33 : Cond.fieldLink RX12 33 "CuckooSharesModel" "s" "[I" ∈ wsX12_whyShare := by decide +kernel
abbrev L_X12_whyShare : List Rc := []
abbrev LL_X12_whyShare : List Rc := []
def P_X12_whyShare (σ0 : Nat → Nat → Int32) (τ0 : Nat → Nat → Int64)  (r : Int32) (σ : Nat → Nat → Int32) (τ : Nat → Nat → Int64) : Prop := Rg σ ∧ Fr L_X12_whyShare σ0 σ ∧ FrL LL_X12_whyShare τ0 τ ∧ (0 ≤ r.toInt ∧ r.toInt ≤ 2)
set_option maxHeartbeats 4000000 in
theorem c_X12_whyShare (l : Launch) (D : va_G) (cA : Nat → ClassId) (ad : Nat → Nat) (hI : Inj ad) (σ0 : Nat → Nat → Int32) (τ0 : Nat → Nat → Int64) (hR : Rg σ0)   : Met l yX12_whyShare wsX12_whyShare ({ frames := 0, cells := 0, slots := 0, locals := 0 } : Room) (WQc D cA ad [.ref (ad 387)] σ0 τ0) (va_Qi (fun (r : Int32) (u : SS) => P_X12_whyShare σ0 τ0 r u.1 u.2) (WB D cA ad) (AA ad)) 0 0 (AA ad) := by
  refine Met.ofW (cc := cX12_whyShare) (maxL := 1) (ret := (some .int)) (by decide) rfl ?_
  intro p e s m args below meth c s₁ B hml hv
  obtain ⟨rfl, hP, hK, hN⟩ := hv
  have C : Cy p s m _ meth c cX12_whyShare 1 wsX12_whyShare RX12 D cA ad (some .int) := ⟨B.exec, B.bytes, hml, findClass_of_methodNamed B.named, atoms_spec (ws := wsX12_whyShare) B.pre, hK, B.notSynchronized, B.returns, hI, hN⟩
  have hl := lv_entry ([.ref (ad 387)]) (n := 1) (Nat.le_of_ble_eq_true rfl)
  rw [lg_entry_eq]
  generalize (lg_sl ([.ref (ad 387)]) ++ List.replicate (1 - (lg_sl ([.ref (ad 387)])).length) Slot.unset).toArray = ls at hl ⊢
  have hl : lv_has ls 1 [(0, .ref (ad 387))] := hl
  have hS : va_S (AA ad) s.heap s.heap [] := va_S.rf
  have hF : Fr L_X12_whyShare σ0 σ0 := Fr.rf
  have hFL : FrL LL_X12_whyShare τ0 τ0 := FrL.rf
  obtain ⟨hx, hb, _, hown, hts, _, hk, hr, _, _⟩ := C
  refine lv_aload_n hx hb dX12_whyShare_0 rfl (lv_at hl 0 rfl) ?_
  refine fg_12_6 (k := 387) hx hb hts in_X12_whyShare_12 hown hK hP (by decide) (by decide) (hts _ lk_X12_whyShare_33) dX12_whyShare_1 ?_
  refine r_sipush hx hb dX12_whyShare_4 (by decide) (fun z1 ez1 => ?_)
  refine ad_ms (k := 389) (j := 212) hx hb hK hP (by decide) (by decide) (by omega) (by omega) dX12_whyShare_7 ?_
  have hr2 := ra_ms_5 hR (k := 389) (j := 212) (by decide) (by decide) (by decide) (by decide)
  refine r_if_ne (tgt := 15) hx hb dX12_whyShare_8 (by decide) (fun c3 => ?_) (fun c3 => ?_)
  · refine lv_aload_n hx hb dX12_whyShare_15 rfl (lv_at hl 0 rfl) ?_
    refine fg_12_6 (k := 387) hx hb hts in_X12_whyShare_12 hown hK hP (by decide) (by decide) (hts _ lk_X12_whyShare_33) dX12_whyShare_16 ?_
    refine r_sipush hx hb dX12_whyShare_19 (by decide) (fun z4 ez4 => ?_)
    refine ad_ms (k := 389) (j := 211) hx hb hK hP (by decide) (by decide) (by omega) (by omega) dX12_whyShare_22 ?_
    refine r_bipush hx hb dX12_whyShare_23 (by decide) (fun z5 ez5 => ?_)
    refine r_icmp_ne (tgt := 32) hx hb dX12_whyShare_25 (by decide) (fun c6 => ?_) (fun c6 => ?_)
    · refine r_iconst hx hb dX12_whyShare_32 (by decide) (fun z7 ez7 => ?_)
      exact r_iret hx hb hr hK hP hS hk dX12_whyShare_33 (show P_X12_whyShare σ0 τ0 z7 σ0 τ0 from ⟨hR, hF, hFL, by omega⟩)
    · refine r_iconst hx hb dX12_whyShare_28 (by decide) (fun z8 ez8 => ?_)
      refine lv_goto (tgt := 33) hx hb dX12_whyShare_29 (by decide) ?_
      exact r_iret hx hb hr hK hP hS hk dX12_whyShare_33 (show P_X12_whyShare σ0 τ0 z8 σ0 τ0 from ⟨hR, hF, hFL, by omega⟩)
  · refine r_iconst hx hb dX12_whyShare_11 (by decide) (fun z9 ez9 => ?_)
    refine lv_goto (tgt := 33) hx hb dX12_whyShare_12 (by decide) ?_
    exact r_iret hx hb hr hK hP hS hk dX12_whyShare_33 (show P_X12_whyShare σ0 τ0 z9 σ0 τ0 from ⟨hR, hF, hFL, by omega⟩)
theorem in_X12_share_12 : ∀ w ∈ u_ws RX12 TX12 47, w ∈ wsX12_share := by decide +kernel
theorem lk_X12_share_1 : Cond.fieldLink RX12 1 "CuckooSharesModel" "thrown" "I" ∈ wsX12_share := by decide +kernel
abbrev L_X12_share : List Rc := [(387, 387, 0, 0), (387, 387, 29, 29), (398, 398, 0, 279), (387, 387, 26, 26), (397, 397, 0, 7), (394, 394, 0, 7), (395, 395, 0, 7), (396, 396, 0, 7), (389, 389, 211, 213), (389, 389, 230, 245)]
abbrev LL_X12_share : List Rc := []
def P_X12_share (σ0 : Nat → Nat → Int32) (τ0 : Nat → Nat → Int64)  (r : Int32) (σ : Nat → Nat → Int32) (τ : Nat → Nat → Int64) : Prop := Rg σ ∧ Fr L_X12_share σ0 σ ∧ FrL LL_X12_share τ0 τ ∧ (0 ≤ r.toInt ∧ r.toInt ≤ 2)
set_option maxHeartbeats 4000000 in
theorem c_X12_share (l : Launch) (D : va_G) (cA : Nat → ClassId) (ad : Nat → Nat) (hI : Inj ad) (σ0 : Nat → Nat → Int32) (τ0 : Nat → Nat → Int64) (hR : Rg σ0)   : Met l yX12_share wsX12_share ({ frames := 3, cells := 0, slots := 0, locals := 70 } : Room) (WQc D cA ad [.ref (ad 387)] σ0 τ0) (va_Qi (fun (r : Int32) (u : SS) => P_X12_share σ0 τ0 r u.1 u.2) (WB D cA ad) (AA ad)) 0 0 (AA ad) := by
  refine Met.ofW (cc := cX12_share) (maxL := 2) (ret := (some .int)) (by decide) rfl ?_
  intro p e s m args below meth c s₁ B hml hv
  obtain ⟨rfl, hP, hK, hN⟩ := hv
  have C : Cy p s m _ meth c cX12_share 2 wsX12_share RX12 D cA ad (some .int) := ⟨B.exec, B.bytes, hml, findClass_of_methodNamed B.named, atoms_spec (ws := wsX12_share) B.pre, hK, B.notSynchronized, B.returns, hI, hN⟩
  have hl := lv_entry ([.ref (ad 387)]) (n := 2) (Nat.le_of_ble_eq_true rfl)
  rw [lg_entry_eq]
  generalize (lg_sl ([.ref (ad 387)]) ++ List.replicate (2 - (lg_sl ([.ref (ad 387)])).length) Slot.unset).toArray = ls at hl ⊢
  have hl : lv_has ls 2 [(0, .ref (ad 387))] := hl
  have hS : va_S (AA ad) s.heap s.heap [] := va_S.rf
  have hF : Fr L_X12_share σ0 σ0 := Fr.rf
  have hFL : FrL LL_X12_share τ0 τ0 := FrL.rf
  obtain ⟨hx, hb, _, hown, hts, _, hk, hr, _, _⟩ := C
  refine lv_aload_n hx hb dX12_share_0 rfl (lv_at hl 0 rfl) ?_
  refine r_iconst hx hb dX12_share_1 (by decide) (fun z1 ez1 => ?_)
  refine fp_12_0 (k := 387) hx hb hts in_X12_share_12 hown hK hP (by decide) (by decide) (hts _ lk_X12_share_1) hI hR hS (by omega) dX12_share_2 (fun σ2 H2 locs2 u2 v2 hR hP hS => ?_)
  have hF := hF.puts u2 0 rfl (by decide) (by decide) (by decide) (by decide)
  refine lv_aload_n hx hb dX12_share_5 rfl (lv_at hl 0 rfl) ?_
  refine r_cVi (k := 387) (As := []) (rest := []) ⟨hx, hb, hml, hown, hts⟩ hK hP hN hS (c_X12_whyShare l D cA ad hI σ2 τ0 hR) (cwV 0 hts gX12_share_X12_whyShare rfl rfl rfl (by decide +kernel) ⟨by decide, by decide⟩) (rv_M hK hP (by decide) (by decide)) rfl hl.1 rfl (Nat.le_of_ble_eq_true rfl) dX12_share_6 (Nat.zero_le _) (Nat.zero_le _) (fun r3 u3 H3 locs3 hp3 hP hS => ?_)
  obtain ⟨σ3, τ3⟩ := u3
  obtain ⟨hR, f3, fL3, hq3⟩ : P_X12_whyShare σ2 τ0 r3 σ3 τ3 := hp3
  have hP : va_P D vwCl (gw cA ad σ3 τ3) H3 := hP
  obtain rfl := FrL.nil fL3
  obtain rfl := Fr.nil f3
  refine lv_istore_n (lv' := [(1, .int r3), (0, .ref (ad 387))]) hx hb dX12_share_9 rfl hl (by decide) rfl (fun ls hl => ?_)
  refine lv_iload_n hx hb dX12_share_10 rfl (lv_at hl 0 rfl) ?_
  refine r_if_le (tgt := 16) hx hb dX12_share_11 (by decide) (fun c4 => ?_) (fun c4 => ?_)
  · refine lv_aload_n hx hb dX12_share_16 rfl (lv_at hl 1 rfl) ?_
    refine r_cVv (k := 387) (As := []) (rest := []) ⟨hx, hb, hml, hown, hts⟩ hK hP hN hS (c_X12_keep l D cA ad hI σ2 τ0 hR) (cwV 0 hts gX12_share_X12_keep rfl rfl rfl (by decide +kernel) ⟨by decide, by decide⟩) (rv_M hK hP (by decide) (by decide)) rfl hl.1 rfl (Nat.le_of_ble_eq_true rfl) dX12_share_17 (Nat.zero_le _) (Nat.zero_le _) (fun u5 H5 locs5 hp5 hP hS => ?_)
    obtain ⟨σ5, τ5⟩ := u5
    obtain ⟨hR, f5, fL5, hp5_0⟩ : P_X12_keep σ2 τ0 σ5 τ5 := hp5
    have hP : va_P D vwCl (gw cA ad σ5 τ5) H5 := hP
    obtain rfl := FrL.nil fL5
    have hF := hF.step f5 (by decide)
    refine lv_aload_n hx hb dX12_share_20 rfl (lv_at hl 1 rfl) ?_
    refine r_cVv (k := 387) (As := []) (rest := []) ⟨hx, hb, hml, hown, hts⟩ hK hP hN hS (c_X12_sharesNow l D cA ad hI σ5 τ0 hR) (cwV 0 hts gX12_share_X12_sharesNow rfl rfl rfl (by decide +kernel) ⟨by decide, by decide⟩) (rv_M hK hP (by decide) (by decide)) rfl hl.1 rfl (Nat.le_of_ble_eq_true rfl) dX12_share_21 (Nat.zero_le _) (Nat.zero_le _) (fun u6 H6 locs6 hp6 hP hS => ?_)
    obtain ⟨σ6, τ6⟩ := u6
    obtain ⟨hR, f6, fL6⟩ : P_X12_sharesNow σ5 τ0 σ6 τ6 := hp6
    have hP : va_P D vwCl (gw cA ad σ6 τ6) H6 := hP
    obtain rfl := FrL.nil fL6
    have hF := hF.step f6 (by decide)
    have t7 : (σ6 387 29).toInt = (σ5 387 29).toInt := congrArg Int32.toInt (f6.at 387 29 (by decide))
    refine lv_aload_n hx hb dX12_share_24 rfl (lv_at hl 1 rfl) ?_
    refine r_cVv (k := 387) (As := []) (rest := []) ⟨hx, hb, hml, hown, hts⟩ hK hP hN hS (c_X12_ends l D cA ad hI σ6 τ0 hR) (cwV 0 hts gX12_share_X12_ends rfl rfl rfl (by decide +kernel) ⟨by decide, by decide⟩) (rv_M hK hP (by decide) (by decide)) rfl hl.1 rfl (Nat.le_of_ble_eq_true rfl) dX12_share_25 (Nat.zero_le _) (Nat.zero_le _) (fun u8 H8 locs8 hp8 hP hS => ?_)
    obtain ⟨σ8, τ8⟩ := u8
    obtain ⟨hR, f8, fL8⟩ : P_X12_ends σ6 τ0 σ8 τ8 := hp8
    have hP : va_P D vwCl (gw cA ad σ8 τ8) H8 := hP
    obtain rfl := FrL.nil fL8
    have hF := hF.step f8 (by decide)
    have t9 : (σ8 387 29).toInt = (σ6 387 29).toInt := congrArg Int32.toInt (f8.at 387 29 (by decide))
    refine r_iconst hx hb dX12_share_28 (by decide) (fun z10 ez10 => ?_)
    exact r_iret hx hb hr hK hP hS hk dX12_share_29 (show P_X12_share σ0 τ0 z10 σ8 τ0 from ⟨hR, hF, hFL, by omega⟩)
  · refine lv_iload_n hx hb dX12_share_14 rfl (lv_at hl 0 rfl) ?_
    exact r_iret hx hb hr hK hP hS hk dX12_share_15 (show P_X12_share σ0 τ0 r3 σ2 τ0 from ⟨hR, hF, hFL, by omega⟩)
theorem in_X12_undo_12 : ∀ w ∈ u_ws RX12 TX12 47, w ∈ wsX12_undo := by decide +kernel
theorem lk_X12_undo_1 : Cond.fieldLink RX12 1 "CuckooSharesModel" "thrown" "I" ∈ wsX12_undo := by decide +kernel
theorem lk_X12_undo_256 : Cond.fieldLink RX12 256 "CuckooSharesModel" "undoMany" "I" ∈ wsX12_undo := by decide +kernel
theorem lk_X12_undo_33 : Cond.fieldLink RX12 33 "CuckooSharesModel" "s" "[I" ∈ wsX12_undo := by decide +kernel
theorem lk_X12_undo_62 : Cond.fieldLink RX12 62 "CuckooSharesModel" "undone" "[I" ∈ wsX12_undo := by decide +kernel
abbrev L_X12_undo : List Rc := [(387, 387, 0, 0), (387, 387, 29, 29), (389, 389, 211, 245)]
abbrev LL_X12_undo : List Rc := []
def P_X12_undo (σ0 : Nat → Nat → Int32) (τ0 : Nat → Nat → Int64)  (r : Int32) (σ : Nat → Nat → Int32) (τ : Nat → Nat → Int64) : Prop := Rg σ ∧ Fr L_X12_undo σ0 σ ∧ FrL LL_X12_undo τ0 τ ∧ (-1 ≤ r.toInt ∧ r.toInt ≤ 7)
def J_X12_undo_26 (p : Program) (l : Launch) (e : Env) (s : State) (m : MethodId) (args : Array Value) (below : List Frame) (meth : Method) (c : Code) (D : va_G) (cA : Nat → ClassId) (ad : Nat → Nat) (σ0 : Nat → Nat → Int32) (τ0 : Nat → Nat → Int64)  (n : Nat) : Prop := ∀ (σ : Nat → Nat → Int32) (τ : Nat → Nat → Int64) (H : Heap) (locs : List Loc) (x1 : Int32) (ls : Array Slot), Rg σ → Fr L_X12_undo σ0 σ → FrL LL_X12_undo τ0 τ → va_P D vwCl (gw cA ad σ τ) H → va_S (AA ad) s.heap H locs → (0 ≤ x1.toInt ∧ x1.toInt ≤ 39) → (0 ≤ (σ 387 29).toInt ∧ (σ 387 29).toInt ≤ 7) → lv_has ls 2 [(0, .ref (ad 387)), (1, .int x1)] → 2 * (39 - x1.toInt) + 1 < (n : Int) → W p l e ({ frames := 0, cells := 0, slots := 0, locals := 0 } : Room) s m args below meth c H locs 0 0 (MQ below (va_Qi (fun (r : Int32) (u : SS) => P_X12_undo σ0 τ0 r u.1 u.2) (WB D cA ad) (AA ad)) args s 0 0 (AA ad)) (F0 m 26 ls [])
set_option maxHeartbeats 4000000 in
theorem B_X12_undo_26 (p : Program) (l : Launch) (e : Env) (s : State) (m : MethodId) (args : Array Value) (below : List Frame) (meth : Method) (c : Code) (D : va_G) (cA : Nat → ClassId) (ad : Nat → Nat) (σ0 : Nat → Nat → Int32) (τ0 : Nat → Nat → Int64)  (n : Nat) (C : Cy p s m args meth c cX12_undo 2 wsX12_undo RX12 D cA ad (some .int))  (K26 : J_X12_undo_26 p l e s m args below meth c D cA ad σ0 τ0 n) : J_X12_undo_26 p l e s m args below meth c D cA ad σ0 τ0 (n + 1) := by
  obtain ⟨hx, hb, hml, hown, hts, hK, hk, hr, hI, hN⟩ := C
  intro σ τ H locs x1 ls hR hF hFL hP hS hc0 hc1 hl hm
  obtain rfl := FrL.nil hFL
  refine lv_iload_n hx hb dX12_undo_26 rfl (lv_at hl 1 rfl) ?_
  refine r_bipush hx hb dX12_undo_27 (by decide) (fun z1 ez1 => ?_)
  refine r_icmp_ge (tgt := 62) hx hb dX12_undo_29 (by decide) (fun c2 => ?_) (fun c2 => ?_)
  · refine lv_aload_n hx hb dX12_undo_62 rfl (lv_at hl 0 rfl) ?_
    refine fg_12_29 (k := 387) hx hb hts in_X12_undo_12 hown hK hP (by decide) (by decide) (hts _ lk_X12_undo_256) dX12_undo_63 ?_
    exact r_iret hx hb hr hK hP hS hk dX12_undo_66 (show P_X12_undo σ0 τ0 (σ 387 29) σ τ0 from ⟨hR, hF, hFL, by omega⟩)
  · refine lv_aload_n hx hb dX12_undo_32 rfl (lv_at hl 0 rfl) ?_
    refine fg_12_6 (k := 387) hx hb hts in_X12_undo_12 hown hK hP (by decide) (by decide) (hts _ lk_X12_undo_33) dX12_undo_33 ?_
    refine r_sipush hx hb dX12_undo_36 (by decide) (fun z3 ez3 => ?_)
    refine lv_iload_n hx hb dX12_undo_39 rfl (lv_at hl 1 rfl) ?_
    refine r_iadd hx hb dX12_undo_40 (by omega) (fun z4 ez4 => ?_)
    refine lv_aload_n hx hb dX12_undo_41 rfl (lv_at hl 0 rfl) ?_
    refine fg_12_27 (k := 387) hx hb hts in_X12_undo_12 hown hK hP (by decide) (by decide) (hts _ lk_X12_undo_62) dX12_undo_42 ?_
    refine r_bipush hx hb dX12_undo_45 (by decide) (fun z5 ez5 => ?_)
    refine lv_aload_n hx hb dX12_undo_47 rfl (lv_at hl 0 rfl) ?_
    refine fg_12_29 (k := 387) hx hb hts in_X12_undo_12 hown hK hP (by decide) (by decide) (hts _ lk_X12_undo_256) dX12_undo_48 ?_
    refine r_imulL (n := 35) hx hb dX12_undo_51 (by omega) (by omega) (fun z6 ez6 => ?_)
    refine lv_iload_n hx hb dX12_undo_52 rfl (lv_at hl 1 rfl) ?_
    refine r_iadd hx hb dX12_undo_53 (by omega) (fun z7 ez7 => ?_)
    obtain ⟨j8, ej8⟩ : ∃ j : Nat, z7.toInt = (j : Int) := ⟨_, ti_nat (by omega)⟩
    refine ad_mundone (k := 398) (j := j8) hx hb hK hP (by decide) (by decide) ej8 (by omega) dX12_undo_54 ?_
    obtain ⟨j9, ej9⟩ : ∃ j : Nat, z4.toInt = (j : Int) := ⟨_, ti_nat (by omega)⟩
    refine as_ms (k := 389) (j := j9) hx hb hK hP hI hR hS (by decide) (by decide) ej9 (by omega) (mc_su hR ((σ 387 29).toInt.toNat) (x1.toInt.toNat) (by omega) (by omega) (by omega) (by omega)) dX12_undo_55 (fun σ10 H10 locs10 u10 v10 hR hP hS => ?_)
    have hF := hF.puts u10 2 rfl (by decide) (by decide) (by omega) (by omega)
    have t11 : (σ10 387 29).toInt = (σ 387 29).toInt := congrArg Int32.toInt (u10 387 29 (by omega))
    refine r_iinc (k := 1) (lv1 := fun z12 => [(1, .int z12), (0, .ref (ad 387))]) hx hb dX12_undo_56 hl rfl (by decide) (fun _ => rfl) (by decide) (by omega) (fun z12 ls ez12 hl => ?_)
    refine lv_goto (tgt := 26) hx hb dX12_undo_59 (by decide) ?_
    exact K26 σ10 τ0 H10 locs10 z12 ls hR hF hFL hP hS (by omega) (by omega) (lv_sub hl [1, 0] rfl) (by omega)
theorem A_X12_undo (p : Program) (l : Launch) (e : Env) (s : State) (m : MethodId) (args : Array Value) (below : List Frame) (meth : Method) (c : Code) (D : va_G) (cA : Nat → ClassId) (ad : Nat → Nat) (σ0 : Nat → Nat → Int32) (τ0 : Nat → Nat → Int64)  (C : Cy p s m args meth c cX12_undo 2 wsX12_undo RX12 D cA ad (some .int))  : ∀ n : Nat, J_X12_undo_26 p l e s m args below meth c D cA ad σ0 τ0 n := by
  intro n
  induction n with
  | zero =>
    exact (by intro σ τ H locs x1 ls hR hF hFL hP hS hc0 hc1 hl hm; exfalso; omega)
  | succ n ih =>
    exact B_X12_undo_26 p l e s m args below meth c D cA ad σ0 τ0 n C  ih
set_option maxHeartbeats 4000000 in
theorem c_X12_undo (l : Launch) (D : va_G) (cA : Nat → ClassId) (ad : Nat → Nat) (hI : Inj ad) (σ0 : Nat → Nat → Int32) (τ0 : Nat → Nat → Int64) (hR : Rg σ0)   : Met l yX12_undo wsX12_undo ({ frames := 0, cells := 0, slots := 0, locals := 0 } : Room) (WQc D cA ad [.ref (ad 387)] σ0 τ0) (va_Qi (fun (r : Int32) (u : SS) => P_X12_undo σ0 τ0 r u.1 u.2) (WB D cA ad) (AA ad)) 0 0 (AA ad) := by
  refine Met.ofW (cc := cX12_undo) (maxL := 2) (ret := (some .int)) (by decide) rfl ?_
  intro p e s m args below meth c s₁ B hml hv
  obtain ⟨rfl, hP, hK, hN⟩ := hv
  have C : Cy p s m _ meth c cX12_undo 2 wsX12_undo RX12 D cA ad (some .int) := ⟨B.exec, B.bytes, hml, findClass_of_methodNamed B.named, atoms_spec (ws := wsX12_undo) B.pre, hK, B.notSynchronized, B.returns, hI, hN⟩
  have hl := lv_entry ([.ref (ad 387)]) (n := 2) (Nat.le_of_ble_eq_true rfl)
  rw [lg_entry_eq]
  generalize (lg_sl ([.ref (ad 387)]) ++ List.replicate (2 - (lg_sl ([.ref (ad 387)])).length) Slot.unset).toArray = ls at hl ⊢
  have hl : lv_has ls 2 [(0, .ref (ad 387))] := hl
  have hS : va_S (AA ad) s.heap s.heap [] := va_S.rf
  have hF : Fr L_X12_undo σ0 σ0 := Fr.rf
  have hFL : FrL LL_X12_undo τ0 τ0 := FrL.rf
  have hA := A_X12_undo p l e s m _ below meth c D cA ad σ0 τ0 C  166
  have K26 := hA
  clear hA
  obtain ⟨hx, hb, _, hown, hts, _, hk, hr, _, _⟩ := C
  have hrt29 := rg_12_29 hR (k := 387) (by decide) (by decide)
  refine lv_aload_n hx hb dX12_undo_0 rfl (lv_at hl 0 rfl) ?_
  refine r_iconst hx hb dX12_undo_1 (by decide) (fun z1 ez1 => ?_)
  refine fp_12_0 (k := 387) hx hb hts in_X12_undo_12 hown hK hP (by decide) (by decide) (hts _ lk_X12_undo_1) hI hR hS (by omega) dX12_undo_2 (fun σ2 H2 locs2 u2 v2 hR hP hS => ?_)
  have hF := hF.puts u2 0 rfl (by decide) (by decide) (by decide) (by decide)
  have t3 : (σ2 387 29).toInt = (σ0 387 29).toInt := congrArg Int32.toInt (u2 387 29 (by omega))
  refine lv_aload_n hx hb dX12_undo_5 rfl (lv_at hl 0 rfl) ?_
  refine fg_12_29 (k := 387) hx hb hts in_X12_undo_12 hown hK hP (by decide) (by decide) (hts _ lk_X12_undo_256) dX12_undo_6 ?_
  refine r_if_ne (tgt := 14) hx hb dX12_undo_9 (by decide) (fun c4 => ?_) (fun c4 => ?_)
  · refine lv_aload_n hx hb dX12_undo_14 rfl (lv_at hl 0 rfl) ?_
    refine lv_dup hx hb dX12_undo_15 rfl ?_
    refine fg_12_29 (k := 387) hx hb hts in_X12_undo_12 hown hK hP (by decide) (by decide) (hts _ lk_X12_undo_256) dX12_undo_16 ?_
    refine r_iconst hx hb dX12_undo_19 (by decide) (fun z5 ez5 => ?_)
    refine r_isub hx hb dX12_undo_20 (by omega) (fun z6 ez6 => ?_)
    refine fp_12_29 (k := 387) hx hb hts in_X12_undo_12 hown hK hP (by decide) (by decide) (hts _ lk_X12_undo_256) hI hR hS (by omega) dX12_undo_21 (fun σ7 H7 locs7 u7 v7 hR hP hS => ?_)
    have hF := hF.puts u7 1 rfl (by decide) (by decide) (by decide) (by decide)
    refine r_iconst hx hb dX12_undo_24 (by decide) (fun z8 ez8 => ?_)
    refine lv_istore_n (lv' := [(1, .int z8), (0, .ref (ad 387))]) hx hb dX12_undo_25 rfl hl (by decide) rfl (fun ls hl => ?_)
    exact K26 σ7 τ0 H7 locs7 z8 ls hR hF hFL hP hS (by omega) (by omega) (lv_sub hl [1, 0] rfl) (by omega)
  · refine r_iconst hx hb dX12_undo_12 (by decide) (fun z9 ez9 => ?_)
    exact r_iret hx hb hr hK hP hS hk dX12_undo_13 (show P_X12_undo σ0 τ0 z9 σ2 τ0 from ⟨hR, hF, hFL, by omega⟩)
theorem in_X12_far_12 : ∀ w ∈ u_ws RX12 TX12 47, w ∈ wsX12_far := by decide +kernel
theorem lk_X12_far_1 : Cond.fieldLink RX12 1 "CuckooSharesModel" "thrown" "I" ∈ wsX12_far := by decide +kernel
abbrev L_X12_far : List Rc := [(387, 387, 0, 0), (394, 394, 0, 7), (395, 395, 0, 7), (396, 396, 0, 7)]
abbrev LL_X12_far : List Rc := []
def P_X12_far (σ0 : Nat → Nat → Int32) (τ0 : Nat → Nat → Int64) (a1 : Int32) (a2 : Int32) (a3 : Int32) (r : Int32) (σ : Nat → Nat → Int32) (τ : Nat → Nat → Int64) : Prop := Rg σ ∧ Fr L_X12_far σ0 σ ∧ FrL LL_X12_far τ0 τ
set_option maxHeartbeats 4000000 in
theorem c_X12_far (l : Launch) (D : va_G) (cA : Nat → ClassId) (ad : Nat → Nat) (hI : Inj ad) (σ0 : Nat → Nat → Int32) (τ0 : Nat → Nat → Int64) (hR : Rg σ0) (a1 : Int32) (a2 : Int32) (a3 : Int32)  : Met l yX12_far wsX12_far ({ frames := 3, cells := 0, slots := 0, locals := 65 } : Room) (WQc D cA ad [.ref (ad 387), .int a1, .int a2, .int a3] σ0 τ0) (va_Qi (fun (r : Int32) (u : SS) => P_X12_far σ0 τ0 a1 a2 a3 r u.1 u.2) (WB D cA ad) (AA ad)) 0 0 (AA ad) := by
  refine Met.ofW (cc := cX12_far) (maxL := 4) (ret := (some .int)) (by decide) rfl ?_
  intro p e s m args below meth c s₁ B hml hv
  obtain ⟨rfl, hP, hK, hN⟩ := hv
  have C : Cy p s m _ meth c cX12_far 4 wsX12_far RX12 D cA ad (some .int) := ⟨B.exec, B.bytes, hml, findClass_of_methodNamed B.named, atoms_spec (ws := wsX12_far) B.pre, hK, B.notSynchronized, B.returns, hI, hN⟩
  have hl := lv_entry ([.ref (ad 387), .int a1, .int a2, .int a3]) (n := 4) (Nat.le_of_ble_eq_true rfl)
  rw [lg_entry_eq]
  generalize (lg_sl ([.ref (ad 387), .int a1, .int a2, .int a3]) ++ List.replicate (4 - (lg_sl ([.ref (ad 387), .int a1, .int a2, .int a3])).length) Slot.unset).toArray = ls at hl ⊢
  have hl : lv_has ls 4 [(0, .ref (ad 387)), (1, .int a1), (2, .int a2), (3, .int a3)] := hl
  have hS : va_S (AA ad) s.heap s.heap [] := va_S.rf
  have hF : Fr L_X12_far σ0 σ0 := Fr.rf
  have hFL : FrL LL_X12_far τ0 τ0 := FrL.rf
  obtain ⟨hx, hb, _, hown, hts, _, hk, hr, _, _⟩ := C
  refine lv_aload_n hx hb dX12_far_0 rfl (lv_at hl 0 rfl) ?_
  refine r_iconst hx hb dX12_far_1 (by decide) (fun z1 ez1 => ?_)
  refine fp_12_0 (k := 387) hx hb hts in_X12_far_12 hown hK hP (by decide) (by decide) (hts _ lk_X12_far_1) hI hR hS (by omega) dX12_far_2 (fun σ2 H2 locs2 u2 v2 hR hP hS => ?_)
  have hF := hF.puts u2 0 rfl (by decide) (by decide) (by decide) (by decide)
  refine lv_aload_n hx hb dX12_far_5 rfl (lv_at hl 0 rfl) ?_
  refine lv_iload_n hx hb dX12_far_6 rfl (lv_at hl 1 rfl) ?_
  refine r_cVi (k := 387) (As := [.int a1]) (rest := []) ⟨hx, hb, hml, hown, hts⟩ hK hP hN hS (c_X12_isMan l D cA ad hI σ2 τ0 hR a1) (cwV 1 hts gX12_far_X12_isMan rfl rfl rfl (by decide +kernel) ⟨by decide, by decide⟩) (rv_M hK hP (by decide) (by decide)) rfl hl.1 rfl (Nat.le_of_ble_eq_true rfl) dX12_far_7 (Nat.zero_le _) (Nat.zero_le _) (fun r3 u3 H3 locs3 hp3 hP hS => ?_)
  obtain ⟨σ3, τ3⟩ := u3
  obtain ⟨hR, f3, fL3, hq3, hp3_0⟩ : P_X12_isMan σ2 τ0 a1 r3 σ3 τ3 := hp3
  have hP : va_P D vwCl (gw cA ad σ3 τ3) H3 := hP
  obtain rfl := FrL.nil fL3
  obtain rfl := Fr.nil f3
  refine r_if_eq (tgt := 22) hx hb dX12_far_10 (by decide) (fun c4 => ?_) (fun c4 => ?_)
  · clear hp3_0
    refine r_iconst hx hb dX12_far_22 (by decide) (fun z5 ez5 => ?_)
    exact r_iret hx hb hr hK hP hS hk dX12_far_23 (show P_X12_far σ0 τ0 a1 a2 a3 z5 σ2 τ0 from ⟨hR, hF, hFL⟩)
  · replace hp3_0 := hp3_0.resolve_left (by omega)
    refine lv_aload_n hx hb dX12_far_13 rfl (lv_at hl 0 rfl) ?_
    refine lv_iload_n hx hb dX12_far_14 rfl (lv_at hl 2 rfl) ?_
    refine lv_iload_n hx hb dX12_far_15 rfl (lv_at hl 3 rfl) ?_
    refine r_cVi (k := 387) (As := [.int a2, .int a3]) (rest := []) ⟨hx, hb, hml, hown, hts⟩ hK hP hN hS (c_X12_isCall l D cA ad hI σ2 τ0 hR a2 a3) (cwV 2 hts gX12_far_X12_isCall rfl rfl rfl (by decide +kernel) ⟨by decide, by decide⟩) (rv_M hK hP (by decide) (by decide)) rfl hl.1 rfl (Nat.le_of_ble_eq_true rfl) dX12_far_16 (Nat.zero_le _) (Nat.zero_le _) (fun r6 u6 H6 locs6 hp6 hP hS => ?_)
    obtain ⟨σ6, τ6⟩ := u6
    obtain ⟨hR, f6, fL6, hq6, hp6_0, hp6_1⟩ : P_X12_isCall σ2 τ0 a2 a3 r6 σ6 τ6 := hp6
    have hP : va_P D vwCl (gw cA ad σ6 τ6) H6 := hP
    obtain rfl := FrL.nil fL6
    obtain rfl := Fr.nil f6
    refine r_if_ne (tgt := 24) hx hb dX12_far_19 (by decide) (fun c7 => ?_) (fun c7 => ?_)
    · replace hp6_0 := hp6_0.resolve_left (by omega)
      refine lv_aload_n hx hb dX12_far_24 rfl (lv_at hl 0 rfl) ?_
      refine r_cVv (k := 387) (As := []) (rest := []) ⟨hx, hb, hml, hown, hts⟩ hK hP hN hS (c_X12_asNow l D cA ad hI σ2 τ0 hR) (cwV 0 hts gX12_far_X12_asNow rfl rfl rfl (by decide +kernel) ⟨by decide, by decide⟩) (rv_M hK hP (by decide) (by decide)) rfl hl.1 rfl (Nat.le_of_ble_eq_true rfl) dX12_far_25 (Nat.zero_le _) (Nat.zero_le _) (fun u8 H8 locs8 hp8 hP hS => ?_)
      obtain ⟨σ8, τ8⟩ := u8
      obtain ⟨hR, f8, fL8⟩ : P_X12_asNow σ2 τ0 σ8 τ8 := hp8
      have hP : va_P D vwCl (gw cA ad σ8 τ8) H8 := hP
      obtain rfl := FrL.nil fL8
      have hF := hF.step f8 (by decide)
      refine lv_aload_n hx hb dX12_far_28 rfl (lv_at hl 0 rfl) ?_
      refine lv_iload_n hx hb dX12_far_29 rfl (lv_at hl 1 rfl) ?_
      refine lv_iload_n hx hb dX12_far_30 rfl (lv_at hl 2 rfl) ?_
      refine lv_iload_n hx hb dX12_far_31 rfl (lv_at hl 3 rfl) ?_
      refine r_cVi (k := 387) (As := [.int a1, .int a2, .int a3]) (rest := []) ⟨hx, hb, hml, hown, hts⟩ hK hP hN hS (c_X12_farOf l D cA ad hI σ8 τ0 hR a1 a2 a3 (by omega) (by omega) (by omega)) (cwV 3 hts gX12_far_X12_farOf rfl rfl rfl (by decide +kernel) ⟨by decide, by decide⟩) (rv_M hK hP (by decide) (by decide)) rfl hl.1 rfl (Nat.le_of_ble_eq_true rfl) dX12_far_32 (Nat.zero_le _) (Nat.zero_le _) (fun r9 u9 H9 locs9 hp9 hP hS => ?_)
      obtain ⟨σ9, τ9⟩ := u9
      obtain ⟨hR, f9, fL9⟩ : P_X12_farOf σ8 τ0 a1 a2 a3 r9 σ9 τ9 := hp9
      have hP : va_P D vwCl (gw cA ad σ9 τ9) H9 := hP
      obtain rfl := FrL.nil fL9
      obtain rfl := Fr.nil f9
      exact r_iret hx hb hr hK hP hS hk dX12_far_35 (show P_X12_far σ0 τ0 a1 a2 a3 r9 σ8 τ0 from ⟨hR, hF, hFL⟩)
    · clear hp6_0
      refine r_iconst hx hb dX12_far_22 (by decide) (fun z10 ez10 => ?_)
      exact r_iret hx hb hr hK hP hS hk dX12_far_23 (show P_X12_far σ0 τ0 a1 a2 a3 z10 σ2 τ0 from ⟨hR, hF, hFL⟩)
