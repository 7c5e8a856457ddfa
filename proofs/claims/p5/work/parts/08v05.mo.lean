theorem in_X12_isPast_12 : ∀ w ∈ u_ws RX12 TX12 47, w ∈ wsX12_isPast := by decide +kernel
theorem lk_X12_isPast_33 : Cond.fieldLink RX12 33 "CuckooSharesModel" "s" "[I" ∈ wsX12_isPast := by decide +kernel
abbrev L_X12_isPast : List Rc := []
abbrev LL_X12_isPast : List Rc := []
def P_X12_isPast (σ0 : Nat → Nat → Int32) (τ0 : Nat → Nat → Int64) (a1 : Int32) (r : Int32) (σ : Nat → Nat → Int32) (τ : Nat → Nat → Int64) : Prop := Rg σ ∧ Fr L_X12_isPast σ0 σ ∧ FrL LL_X12_isPast τ0 τ ∧ (0 ≤ r.toInt ∧ r.toInt ≤ 1)
set_option maxHeartbeats 4000000 in
theorem c_X12_isPast (l : Launch) (D : va_G) (cA : Nat → ClassId) (ad : Nat → Nat) (hI : Inj ad) (σ0 : Nat → Nat → Int32) (τ0 : Nat → Nat → Int64) (hR : Rg σ0) (a1 : Int32) (ha1 : 0 ≤ a1.toInt ∧ a1.toInt ≤ 9) : Met l yX12_isPast wsX12_isPast ({ frames := 0, cells := 0, slots := 0, locals := 0 } : Room) (WQc D cA ad [.ref (ad 387), .int a1] σ0 τ0) (va_Qi (fun (r : Int32) (u : SS) => P_X12_isPast σ0 τ0 a1 r u.1 u.2) (WB D cA ad) (AA ad)) 0 0 (AA ad) := by
  refine Met.ofW (cc := cX12_isPast) (maxL := 3) (ret := (some .boolean)) (by decide) rfl ?_
  intro p e s m args below meth c s₁ B hml hv
  obtain ⟨rfl, hP, hK, hN⟩ := hv
  have C : Cy p s m _ meth c cX12_isPast 3 wsX12_isPast RX12 D cA ad (some .boolean) := ⟨B.exec, B.bytes, hml, findClass_of_methodNamed B.named, atoms_spec (ws := wsX12_isPast) B.pre, hK, B.notSynchronized, B.returns, hI, hN⟩
  have hl := lv_entry ([.ref (ad 387), .int a1]) (n := 3) (Nat.le_of_ble_eq_true rfl)
  rw [lg_entry_eq]
  generalize (lg_sl ([.ref (ad 387), .int a1]) ++ List.replicate (3 - (lg_sl ([.ref (ad 387), .int a1])).length) Slot.unset).toArray = ls at hl ⊢
  have hl : lv_has ls 3 [(0, .ref (ad 387)), (1, .int a1)] := hl
  have hS : va_S (AA ad) s.heap s.heap [] := va_S.rf
  have hF : Fr L_X12_isPast σ0 σ0 := Fr.rf
  have hFL : FrL LL_X12_isPast τ0 τ0 := FrL.rf
  obtain ⟨hx, hb, _, hown, hts, _, hk, hr, _, _⟩ := C
  refine lv_aload_n hx hb dX12_isPast_0 rfl (lv_at hl 0 rfl) ?_
  refine fg_12_6 (k := 387) hx hb hts in_X12_isPast_12 hown hK hP (by decide) (by decide) (hts _ lk_X12_isPast_33) dX12_isPast_1 ?_
  refine r_sipush hx hb dX12_isPast_4 (by decide) (fun z1 ez1 => ?_)
  refine ad_ms (k := 389) (j := 212) hx hb hK hP (by decide) (by decide) (by omega) (by omega) dX12_isPast_7 ?_
  have hr2 := ra_ms_5 hR (k := 389) (j := 212) (by decide) (by decide) (by decide) (by decide)
  refine r_iconst hx hb dX12_isPast_8 (by decide) (fun z3 ez3 => ?_)
  refine r_isub hx hb dX12_isPast_9 (by omega) (fun z4 ez4 => ?_)
  refine lv_istore_n (lv' := [(2, .int z4), (0, .ref (ad 387)), (1, .int a1)]) hx hb dX12_isPast_10 rfl hl (by decide) rfl (fun ls hl => ?_)
  refine lv_iload_n hx hb dX12_isPast_11 rfl (lv_at hl 0 rfl) ?_
  refine r_if_lt (tgt := 57) hx hb dX12_isPast_12 (by decide) (fun c5 => ?_) (fun c5 => ?_)
  · refine r_iconst hx hb dX12_isPast_57 (by decide) (fun z6 ez6 => ?_)
    exact r_zret hx hb hr hK hP hS hk (by omega) dX12_isPast_58 (show P_X12_isPast σ0 τ0 a1 z6 σ0 τ0 from ⟨hR, hF, hFL, by omega⟩)
  · refine lv_iload_n hx hb dX12_isPast_15 rfl (lv_at hl 2 rfl) ?_
    refine lv_aload_n hx hb dX12_isPast_16 rfl (lv_at hl 1 rfl) ?_
    refine fg_12_6 (k := 387) hx hb hts in_X12_isPast_12 hown hK hP (by decide) (by decide) (hts _ lk_X12_isPast_33) dX12_isPast_17 ?_
    refine r_bipush hx hb dX12_isPast_20 (by decide) (fun z7 ez7 => ?_)
    refine lv_iload_n hx hb dX12_isPast_22 rfl (lv_at hl 0 rfl) ?_
    refine r_iadd hx hb dX12_isPast_23 (by omega) (fun z8 ez8 => ?_)
    obtain ⟨j9, ej9⟩ : ∃ j : Nat, z8.toInt = (j : Int) := ⟨_, ti_nat (by omega)⟩
    refine ad_ms (k := 389) (j := j9) hx hb hK hP (by decide) (by decide) ej9 (by omega) dX12_isPast_24 ?_
    have hr10 := ra_ms_4 hR (k := 389) (j := j9) (by decide) (by decide) (by omega) (by omega)
    refine r_icmp_ge (tgt := 57) hx hb dX12_isPast_25 (by decide) (fun c11 => ?_) (fun c11 => ?_)
    · refine r_iconst hx hb dX12_isPast_57 (by decide) (fun z12 ez12 => ?_)
      exact r_zret hx hb hr hK hP hS hk (by omega) dX12_isPast_58 (show P_X12_isPast σ0 τ0 a1 z12 σ0 τ0 from ⟨hR, hF, hFL, by omega⟩)
    · refine lv_aload_n hx hb dX12_isPast_28 rfl (lv_at hl 1 rfl) ?_
      refine fg_12_6 (k := 387) hx hb hts in_X12_isPast_12 hown hK hP (by decide) (by decide) (hts _ lk_X12_isPast_33) dX12_isPast_29 ?_
      refine r_bipush hx hb dX12_isPast_32 (by decide) (fun z13 ez13 => ?_)
      refine r_bipush hx hb dX12_isPast_34 (by decide) (fun z14 ez14 => ?_)
      refine lv_iload_n hx hb dX12_isPast_36 rfl (lv_at hl 0 rfl) ?_
      refine r_imulL (n := 10) hx hb dX12_isPast_37 (by omega) (by omega) (fun z15 ez15 => ?_)
      refine r_iadd hx hb dX12_isPast_38 (by omega) (fun z16 ez16 => ?_)
      refine lv_iload_n hx hb dX12_isPast_39 rfl (lv_at hl 2 rfl) ?_
      refine r_iadd hx hb dX12_isPast_40 (by omega) (fun z17 ez17 => ?_)
      obtain ⟨j18, ej18⟩ : ∃ j : Nat, z17.toInt = (j : Int) := ⟨_, ti_nat (by omega)⟩
      refine ad_ms (k := 389) (j := j18) hx hb hK hP (by decide) (by decide) ej18 (by omega) dX12_isPast_41 ?_
      refine lv_aload_n hx hb dX12_isPast_42 rfl (lv_at hl 1 rfl) ?_
      refine fg_12_6 (k := 387) hx hb hts in_X12_isPast_12 hown hK hP (by decide) (by decide) (hts _ lk_X12_isPast_33) dX12_isPast_43 ?_
      refine r_sipush hx hb dX12_isPast_46 (by decide) (fun z19 ez19 => ?_)
      refine ad_ms (k := 389) (j := 213) hx hb hK hP (by decide) (by decide) (by omega) (by omega) dX12_isPast_49 ?_
      refine r_icmp_gt (tgt := 57) hx hb dX12_isPast_50 (by decide) (fun c20 => ?_) (fun c20 => ?_)
      · refine r_iconst hx hb dX12_isPast_57 (by decide) (fun z21 ez21 => ?_)
        exact r_zret hx hb hr hK hP hS hk (by omega) dX12_isPast_58 (show P_X12_isPast σ0 τ0 a1 z21 σ0 τ0 from ⟨hR, hF, hFL, by omega⟩)
      · refine r_iconst hx hb dX12_isPast_53 (by decide) (fun z22 ez22 => ?_)
        refine lv_goto (tgt := 58) hx hb dX12_isPast_54 (by decide) ?_
        exact r_zret hx hb hr hK hP hS hk (by omega) dX12_isPast_58 (show P_X12_isPast σ0 τ0 a1 z22 σ0 τ0 from ⟨hR, hF, hFL, by omega⟩)
abbrev L_X12_pastOf : List Rc := []
abbrev LL_X12_pastOf : List Rc := []
def P_X12_pastOf (σ0 : Nat → Nat → Int32) (τ0 : Nat → Nat → Int64)  (r : Int32) (σ : Nat → Nat → Int32) (τ : Nat → Nat → Int64) : Prop := Rg σ ∧ Fr L_X12_pastOf σ0 σ ∧ FrL LL_X12_pastOf τ0 τ ∧ (0 ≤ r.toInt ∧ r.toInt ≤ 10)
def J_X12_pastOf_2 (p : Program) (l : Launch) (e : Env) (s : State) (m : MethodId) (args : Array Value) (below : List Frame) (meth : Method) (c : Code) (D : va_G) (cA : Nat → ClassId) (ad : Nat → Nat) (σ0 : Nat → Nat → Int32) (τ0 : Nat → Nat → Int64)  (n : Nat) : Prop := ∀ (σ : Nat → Nat → Int32) (τ : Nat → Nat → Int64) (H : Heap) (locs : List Loc) (x1 : Int32) (ls : Array Slot), Rg σ → Fr L_X12_pastOf σ0 σ → FrL LL_X12_pastOf τ0 τ → va_P D vwCl (gw cA ad σ τ) H → va_S (AA ad) s.heap H locs → (0 ≤ x1.toInt ∧ x1.toInt ≤ 10) → lv_has ls 2 [(0, .ref (ad 387)), (1, .int x1)] → 2 * (10 - x1.toInt) + 1 < (n : Int) → W p l e ({ frames := 1, cells := 0, slots := 0, locals := 22 } : Room) s m args below meth c H locs 0 0 (MQ below (va_Qi (fun (r : Int32) (u : SS) => P_X12_pastOf σ0 τ0 r u.1 u.2) (WB D cA ad) (AA ad)) args s 0 0 (AA ad)) (F0 m 2 ls [])
set_option maxHeartbeats 4000000 in
theorem B_X12_pastOf_2 (p : Program) (l : Launch) (e : Env) (s : State) (m : MethodId) (args : Array Value) (below : List Frame) (meth : Method) (c : Code) (D : va_G) (cA : Nat → ClassId) (ad : Nat → Nat) (σ0 : Nat → Nat → Int32) (τ0 : Nat → Nat → Int64)  (n : Nat) (C : Cy p s m args meth c cX12_pastOf 2 wsX12_pastOf RX12 D cA ad (some .int))  (K2 : J_X12_pastOf_2 p l e s m args below meth c D cA ad σ0 τ0 n) : J_X12_pastOf_2 p l e s m args below meth c D cA ad σ0 τ0 (n + 1) := by
  obtain ⟨hx, hb, hml, hown, hts, hK, hk, hr, hI, hN⟩ := C
  intro σ τ H locs x1 ls hR hF hFL hP hS hc0 hl hm
  obtain rfl := Fr.nil hF
  obtain rfl := FrL.nil hFL
  refine lv_iload_n hx hb dX12_pastOf_2 rfl (lv_at hl 1 rfl) ?_
  refine r_bipush hx hb dX12_pastOf_3 (by decide) (fun z1 ez1 => ?_)
  refine r_icmp_ge (tgt := 22) hx hb dX12_pastOf_5 (by decide) (fun c2 => ?_) (fun c2 => ?_)
  · refine lv_iload_n hx hb dX12_pastOf_22 rfl (lv_at hl 1 rfl) ?_
    exact r_iret hx hb hr hK hP hS hk dX12_pastOf_23 (show P_X12_pastOf σ0 τ0 x1 σ0 τ0 from ⟨hR, hF, hFL, by omega⟩)
  · refine lv_aload_n hx hb dX12_pastOf_8 rfl (lv_at hl 0 rfl) ?_
    refine lv_iload_n hx hb dX12_pastOf_9 rfl (lv_at hl 1 rfl) ?_
    refine r_cVi (k := 387) (As := [.int x1]) (rest := []) ⟨hx, hb, hml, hown, hts⟩ hK hP hN hS (c_X12_isPast l D cA ad hI σ0 τ0 hR x1 (by omega)) (cwV 1 hts gX12_pastOf_X12_isPast rfl rfl rfl (by decide +kernel) ⟨by decide, by decide⟩) (rv_M hK hP (by decide) (by decide)) rfl hl.1 rfl (Nat.le_of_ble_eq_true rfl) dX12_pastOf_10 (Nat.zero_le _) (Nat.zero_le _) (fun r3 u3 H3 locs3 hp3 hP hS => ?_)
    obtain ⟨σ3, τ3⟩ := u3
    obtain ⟨hR, f3, fL3, hq3⟩ : P_X12_isPast σ0 τ0 x1 r3 σ3 τ3 := hp3
    have hP : va_P D vwCl (gw cA ad σ3 τ3) H3 := hP
    obtain rfl := FrL.nil fL3
    obtain rfl := Fr.nil f3
    refine r_if_eq (tgt := 22) hx hb dX12_pastOf_13 (by decide) (fun c4 => ?_) (fun c4 => ?_)
    · refine lv_iload_n hx hb dX12_pastOf_22 rfl (lv_at hl 1 rfl) ?_
      exact r_iret hx hb hr hK hP hS hk dX12_pastOf_23 (show P_X12_pastOf σ0 τ0 x1 σ0 τ0 from ⟨hR, hF, hFL, by omega⟩)
    · refine r_iinc (k := 1) (lv1 := fun z5 => [(1, .int z5), (0, .ref (ad 387))]) hx hb dX12_pastOf_16 hl rfl (by decide) (fun _ => rfl) (by decide) (by omega) (fun z5 ls ez5 hl => ?_)
      refine lv_goto (tgt := 2) hx hb dX12_pastOf_19 (by decide) ?_
      exact K2 σ0 τ0 H3 locs3 z5 ls hR hF hFL hP hS (by omega) (lv_sub hl [1, 0] rfl) (by omega)
theorem A_X12_pastOf (p : Program) (l : Launch) (e : Env) (s : State) (m : MethodId) (args : Array Value) (below : List Frame) (meth : Method) (c : Code) (D : va_G) (cA : Nat → ClassId) (ad : Nat → Nat) (σ0 : Nat → Nat → Int32) (τ0 : Nat → Nat → Int64)  (C : Cy p s m args meth c cX12_pastOf 2 wsX12_pastOf RX12 D cA ad (some .int))  : ∀ n : Nat, J_X12_pastOf_2 p l e s m args below meth c D cA ad σ0 τ0 n := by
  intro n
  induction n with
  | zero =>
    exact (by intro σ τ H locs x1 ls hR hF hFL hP hS hc0 hl hm; exfalso; omega)
  | succ n ih =>
    exact B_X12_pastOf_2 p l e s m args below meth c D cA ad σ0 τ0 n C  ih
set_option maxHeartbeats 4000000 in
theorem c_X12_pastOf (l : Launch) (D : va_G) (cA : Nat → ClassId) (ad : Nat → Nat) (hI : Inj ad) (σ0 : Nat → Nat → Int32) (τ0 : Nat → Nat → Int64) (hR : Rg σ0)   : Met l yX12_pastOf wsX12_pastOf ({ frames := 1, cells := 0, slots := 0, locals := 22 } : Room) (WQc D cA ad [.ref (ad 387)] σ0 τ0) (va_Qi (fun (r : Int32) (u : SS) => P_X12_pastOf σ0 τ0 r u.1 u.2) (WB D cA ad) (AA ad)) 0 0 (AA ad) := by
  refine Met.ofW (cc := cX12_pastOf) (maxL := 2) (ret := (some .int)) (by decide) rfl ?_
  intro p e s m args below meth c s₁ B hml hv
  obtain ⟨rfl, hP, hK, hN⟩ := hv
  have C : Cy p s m _ meth c cX12_pastOf 2 wsX12_pastOf RX12 D cA ad (some .int) := ⟨B.exec, B.bytes, hml, findClass_of_methodNamed B.named, atoms_spec (ws := wsX12_pastOf) B.pre, hK, B.notSynchronized, B.returns, hI, hN⟩
  have hl := lv_entry ([.ref (ad 387)]) (n := 2) (Nat.le_of_ble_eq_true rfl)
  rw [lg_entry_eq]
  generalize (lg_sl ([.ref (ad 387)]) ++ List.replicate (2 - (lg_sl ([.ref (ad 387)])).length) Slot.unset).toArray = ls at hl ⊢
  have hl : lv_has ls 2 [(0, .ref (ad 387))] := hl
  have hS : va_S (AA ad) s.heap s.heap [] := va_S.rf
  have hF : Fr L_X12_pastOf σ0 σ0 := Fr.rf
  have hFL : FrL LL_X12_pastOf τ0 τ0 := FrL.rf
  have hA := A_X12_pastOf p l e s m _ below meth c D cA ad σ0 τ0 C  50
  have K2 := hA
  clear hA
  obtain ⟨hx, hb, _, hown, hts, _, hk, hr, _, _⟩ := C
  refine r_iconst hx hb dX12_pastOf_0 (by decide) (fun z1 ez1 => ?_)
  refine lv_istore_n (lv' := [(1, .int z1), (0, .ref (ad 387))]) hx hb dX12_pastOf_1 rfl hl (by decide) rfl (fun ls hl => ?_)
  exact K2 σ0 τ0 s.heap [] z1 ls hR hF hFL hP hS (by omega) (lv_sub hl [1, 0] rfl) (by omega)
theorem in_X12_sum_12 : ∀ w ∈ u_ws RX12 TX12 47, w ∈ wsX12_sum := by decide +kernel
theorem lk_X12_sum_33 : Cond.fieldLink RX12 33 "CuckooSharesModel" "s" "[I" ∈ wsX12_sum := by decide +kernel
abbrev L_X12_sum : List Rc := []
abbrev LL_X12_sum : List Rc := []
def P_X12_sum (σ0 : Nat → Nat → Int32) (τ0 : Nat → Nat → Int64) (a1 : Int32) (r : Int32) (σ : Nat → Nat → Int32) (τ : Nat → Nat → Int64) : Prop := Rg σ ∧ Fr L_X12_sum σ0 σ ∧ FrL LL_X12_sum τ0 τ
def J_X12_sum_4 (p : Program) (l : Launch) (e : Env) (s : State) (m : MethodId) (args : Array Value) (below : List Frame) (meth : Method) (c : Code) (D : va_G) (cA : Nat → ClassId) (ad : Nat → Nat) (σ0 : Nat → Nat → Int32) (τ0 : Nat → Nat → Int64) (a1 : Int32) (n : Nat) : Prop := ∀ (σ : Nat → Nat → Int32) (τ : Nat → Nat → Int64) (H : Heap) (locs : List Loc) (x2 : Int32) (x3 : Int32) (ls : Array Slot), Rg σ → Fr L_X12_sum σ0 σ → FrL LL_X12_sum τ0 τ → va_P D vwCl (gw cA ad σ τ) H → va_S (AA ad) s.heap H locs → (0 ≤ x3.toInt ∧ x3.toInt ≤ 8) → lv_has ls 4 [(0, .ref (ad 387)), (1, .int a1), (2, .int x2), (3, .int x3)] → 2 * (8 - x3.toInt) + 1 < (n : Int) → W p l e ({ frames := 0, cells := 0, slots := 0, locals := 0 } : Room) s m args below meth c H locs 0 0 (MQ below (va_Qi (fun (r : Int32) (u : SS) => P_X12_sum σ0 τ0 a1 r u.1 u.2) (WB D cA ad) (AA ad)) args s 0 0 (AA ad)) (F0 m 4 ls [])
set_option maxHeartbeats 4000000 in
theorem B_X12_sum_4 (p : Program) (l : Launch) (e : Env) (s : State) (m : MethodId) (args : Array Value) (below : List Frame) (meth : Method) (c : Code) (D : va_G) (cA : Nat → ClassId) (ad : Nat → Nat) (σ0 : Nat → Nat → Int32) (τ0 : Nat → Nat → Int64) (a1 : Int32) (n : Nat) (C : Cy p s m args meth c cX12_sum 4 wsX12_sum RX12 D cA ad (some .int)) (ha1 : 222 ≤ a1.toInt ∧ a1.toInt ≤ 238) (K4 : J_X12_sum_4 p l e s m args below meth c D cA ad σ0 τ0 a1 n) : J_X12_sum_4 p l e s m args below meth c D cA ad σ0 τ0 a1 (n + 1) := by
  obtain ⟨hx, hb, hml, hown, hts, hK, hk, hr, hI, hN⟩ := C
  intro σ τ H locs x2 x3 ls hR hF hFL hP hS hc0 hl hm
  obtain rfl := Fr.nil hF
  obtain rfl := FrL.nil hFL
  refine lv_iload_n hx hb dX12_sum_4 rfl (lv_at hl 3 rfl) ?_
  refine r_bipush hx hb dX12_sum_5 (by decide) (fun z1 ez1 => ?_)
  refine r_icmp_ge (tgt := 27) hx hb dX12_sum_7 (by decide) (fun c2 => ?_) (fun c2 => ?_)
  · refine lv_iload_n hx hb dX12_sum_27 rfl (lv_at hl 2 rfl) ?_
    exact r_iret hx hb hr hK hP hS hk dX12_sum_28 (show P_X12_sum σ0 τ0 a1 x2 σ0 τ0 from ⟨hR, hF, hFL⟩)
  · refine lv_iload_n hx hb dX12_sum_10 rfl (lv_at hl 2 rfl) ?_
    refine lv_aload_n hx hb dX12_sum_11 rfl (lv_at hl 0 rfl) ?_
    refine fg_12_6 (k := 387) hx hb hts in_X12_sum_12 hown hK hP (by decide) (by decide) (hts _ lk_X12_sum_33) dX12_sum_12 ?_
    refine lv_iload_n hx hb dX12_sum_15 rfl (lv_at hl 1 rfl) ?_
    refine lv_iload_n hx hb dX12_sum_16 rfl (lv_at hl 3 rfl) ?_
    refine r_iadd hx hb dX12_sum_17 (by omega) (fun z3 ez3 => ?_)
    obtain ⟨j4, ej4⟩ : ∃ j : Nat, z3.toInt = (j : Int) := ⟨_, ti_nat (by omega)⟩
    refine ad_ms (k := 389) (j := j4) hx hb hK hP (by decide) (by decide) ej4 (by omega) dX12_sum_18 ?_
    refine r_iaddU hx hb dX12_sum_19 (fun z5 => ?_)
    refine lv_istore_n (lv' := [(2, .int z5), (0, .ref (ad 387)), (1, .int a1), (3, .int x3)]) hx hb dX12_sum_20 rfl hl (by decide) rfl (fun ls hl => ?_)
    refine r_iinc (k := 3) (lv1 := fun z6 => [(3, .int z6), (2, .int z5), (0, .ref (ad 387)), (1, .int a1)]) hx hb dX12_sum_21 hl rfl (by decide) (fun _ => rfl) (by decide) (by omega) (fun z6 ls ez6 hl => ?_)
    refine lv_goto (tgt := 4) hx hb dX12_sum_24 (by decide) ?_
    exact K4 σ0 τ0 H locs z5 z6 ls hR hF hFL hP hS (by omega) (lv_sub hl [2, 3, 1, 0] rfl) (by omega)
theorem A_X12_sum (p : Program) (l : Launch) (e : Env) (s : State) (m : MethodId) (args : Array Value) (below : List Frame) (meth : Method) (c : Code) (D : va_G) (cA : Nat → ClassId) (ad : Nat → Nat) (σ0 : Nat → Nat → Int32) (τ0 : Nat → Nat → Int64) (a1 : Int32) (C : Cy p s m args meth c cX12_sum 4 wsX12_sum RX12 D cA ad (some .int)) (ha1 : 222 ≤ a1.toInt ∧ a1.toInt ≤ 238) : ∀ n : Nat, J_X12_sum_4 p l e s m args below meth c D cA ad σ0 τ0 a1 n := by
  intro n
  induction n with
  | zero =>
    exact (by intro σ τ H locs x2 x3 ls hR hF hFL hP hS hc0 hl hm; exfalso; omega)
  | succ n ih =>
    exact B_X12_sum_4 p l e s m args below meth c D cA ad σ0 τ0 a1 n C ha1 ih
set_option maxHeartbeats 4000000 in
theorem c_X12_sum (l : Launch) (D : va_G) (cA : Nat → ClassId) (ad : Nat → Nat) (hI : Inj ad) (σ0 : Nat → Nat → Int32) (τ0 : Nat → Nat → Int64) (hR : Rg σ0) (a1 : Int32) (ha1 : 222 ≤ a1.toInt ∧ a1.toInt ≤ 238) : Met l yX12_sum wsX12_sum ({ frames := 0, cells := 0, slots := 0, locals := 0 } : Room) (WQc D cA ad [.ref (ad 387), .int a1] σ0 τ0) (va_Qi (fun (r : Int32) (u : SS) => P_X12_sum σ0 τ0 a1 r u.1 u.2) (WB D cA ad) (AA ad)) 0 0 (AA ad) := by
  refine Met.ofW (cc := cX12_sum) (maxL := 4) (ret := (some .int)) (by decide) rfl ?_
  intro p e s m args below meth c s₁ B hml hv
  obtain ⟨rfl, hP, hK, hN⟩ := hv
  have C : Cy p s m _ meth c cX12_sum 4 wsX12_sum RX12 D cA ad (some .int) := ⟨B.exec, B.bytes, hml, findClass_of_methodNamed B.named, atoms_spec (ws := wsX12_sum) B.pre, hK, B.notSynchronized, B.returns, hI, hN⟩
  have hl := lv_entry ([.ref (ad 387), .int a1]) (n := 4) (Nat.le_of_ble_eq_true rfl)
  rw [lg_entry_eq]
  generalize (lg_sl ([.ref (ad 387), .int a1]) ++ List.replicate (4 - (lg_sl ([.ref (ad 387), .int a1])).length) Slot.unset).toArray = ls at hl ⊢
  have hl : lv_has ls 4 [(0, .ref (ad 387)), (1, .int a1)] := hl
  have hS : va_S (AA ad) s.heap s.heap [] := va_S.rf
  have hF : Fr L_X12_sum σ0 σ0 := Fr.rf
  have hFL : FrL LL_X12_sum τ0 τ0 := FrL.rf
  have hA := A_X12_sum p l e s m _ below meth c D cA ad σ0 τ0 a1 C ha1 42
  have K4 := hA
  clear hA
  obtain ⟨hx, hb, _, hown, hts, _, hk, hr, _, _⟩ := C
  refine r_iconst hx hb dX12_sum_0 (by decide) (fun z1 ez1 => ?_)
  refine lv_istore_n (lv' := [(2, .int z1), (0, .ref (ad 387)), (1, .int a1)]) hx hb dX12_sum_1 rfl hl (by decide) rfl (fun ls hl => ?_)
  refine r_iconst hx hb dX12_sum_2 (by decide) (fun z2 ez2 => ?_)
  refine lv_istore_n (lv' := [(3, .int z2), (2, .int z1), (0, .ref (ad 387)), (1, .int a1)]) hx hb dX12_sum_3 rfl hl (by decide) rfl (fun ls hl => ?_)
  exact K4 σ0 τ0 s.heap [] z1 z2 ls hR hF hFL hP hS (by omega) (lv_sub hl [2, 3, 1, 0] rfl) (by omega)
theorem in_X12_swornSet_12 : ∀ w ∈ u_ws RX12 TX12 47, w ∈ wsX12_swornSet := by decide +kernel
theorem lk_X12_swornSet_33 : Cond.fieldLink RX12 33 "CuckooSharesModel" "s" "[I" ∈ wsX12_swornSet := by decide +kernel
abbrev L_X12_swornSet : List Rc := []
abbrev LL_X12_swornSet : List Rc := []
def P_X12_swornSet (σ0 : Nat → Nat → Int32) (τ0 : Nat → Nat → Int64)  (r : Int32) (σ : Nat → Nat → Int32) (τ : Nat → Nat → Int64) : Prop := Rg σ ∧ Fr L_X12_swornSet σ0 σ ∧ FrL LL_X12_swornSet τ0 τ
def J_X12_swornSet_4 (p : Program) (l : Launch) (e : Env) (s : State) (m : MethodId) (args : Array Value) (below : List Frame) (meth : Method) (c : Code) (D : va_G) (cA : Nat → ClassId) (ad : Nat → Nat) (σ0 : Nat → Nat → Int32) (τ0 : Nat → Nat → Int64)  (n : Nat) : Prop := ∀ (σ : Nat → Nat → Int32) (τ : Nat → Nat → Int64) (H : Heap) (locs : List Loc) (x1 : Int32) (x2 : Int32) (ls : Array Slot), Rg σ → Fr L_X12_swornSet σ0 σ → FrL LL_X12_swornSet τ0 τ → va_P D vwCl (gw cA ad σ τ) H → va_S (AA ad) s.heap H locs → (0 ≤ x2.toInt ∧ x2.toInt ≤ 8) → lv_has ls 3 [(0, .ref (ad 387)), (1, .int x1), (2, .int x2)] → 2 * (8 - x2.toInt) + 1 < (n : Int) → W p l e ({ frames := 0, cells := 0, slots := 0, locals := 0 } : Room) s m args below meth c H locs 0 0 (MQ below (va_Qi (fun (r : Int32) (u : SS) => P_X12_swornSet σ0 τ0 r u.1 u.2) (WB D cA ad) (AA ad)) args s 0 0 (AA ad)) (F0 m 4 ls [])
set_option maxHeartbeats 4000000 in
theorem B_X12_swornSet_4 (p : Program) (l : Launch) (e : Env) (s : State) (m : MethodId) (args : Array Value) (below : List Frame) (meth : Method) (c : Code) (D : va_G) (cA : Nat → ClassId) (ad : Nat → Nat) (σ0 : Nat → Nat → Int32) (τ0 : Nat → Nat → Int64)  (n : Nat) (C : Cy p s m args meth c cX12_swornSet 3 wsX12_swornSet RX12 D cA ad (some .int))  (K4 : J_X12_swornSet_4 p l e s m args below meth c D cA ad σ0 τ0 n) : J_X12_swornSet_4 p l e s m args below meth c D cA ad σ0 τ0 (n + 1) := by
  obtain ⟨hx, hb, hml, hown, hts, hK, hk, hr, hI, hN⟩ := C
  intro σ τ H locs x1 x2 ls hR hF hFL hP hS hc0 hl hm
  obtain rfl := Fr.nil hF
  obtain rfl := FrL.nil hFL
  refine lv_iload_n hx hb dX12_swornSet_4 rfl (lv_at hl 2 rfl) ?_
  refine lv_aload_n hx hb dX12_swornSet_5 rfl (lv_at hl 0 rfl) ?_
  refine fg_12_6 (k := 387) hx hb hts in_X12_swornSet_12 hown hK hP (by decide) (by decide) (hts _ lk_X12_swornSet_33) dX12_swornSet_6 ?_
  refine r_iconst hx hb dX12_swornSet_9 (by decide) (fun z1 ez1 => ?_)
  refine ad_ms (k := 389) (j := 1) hx hb hK hP (by decide) (by decide) (by omega) (by omega) dX12_swornSet_10 ?_
  have hr2 := ra_ms_0 hR (k := 389) (j := 1) (by decide) (by decide) (by decide) (by decide)
  refine r_icmp_ge (tgt := 43) hx hb dX12_swornSet_11 (by decide) (fun c3 => ?_) (fun c3 => ?_)
  · refine lv_iload_n hx hb dX12_swornSet_43 rfl (lv_at hl 1 rfl) ?_
    exact r_iret hx hb hr hK hP hS hk dX12_swornSet_44 (show P_X12_swornSet σ0 τ0 x1 σ0 τ0 from ⟨hR, hF, hFL⟩)
  · refine lv_iload_n hx hb dX12_swornSet_14 rfl (lv_at hl 1 rfl) ?_
    refine lv_aload_n hx hb dX12_swornSet_15 rfl (lv_at hl 0 rfl) ?_
    refine fg_12_6 (k := 387) hx hb hts in_X12_swornSet_12 hown hK hP (by decide) (by decide) (hts _ lk_X12_swornSet_33) dX12_swornSet_16 ?_
    refine r_sipush hx hb dX12_swornSet_19 (by decide) (fun z4 ez4 => ?_)
    refine lv_iload_n hx hb dX12_swornSet_22 rfl (lv_at hl 2 rfl) ?_
    refine r_iadd hx hb dX12_swornSet_23 (by omega) (fun z5 ez5 => ?_)
    obtain ⟨j6, ej6⟩ : ∃ j : Nat, z5.toInt = (j : Int) := ⟨_, ti_nat (by omega)⟩
    refine ad_ms (k := 389) (j := j6) hx hb hK hP (by decide) (by decide) ej6 (by omega) dX12_swornSet_24 ?_
    have hr7 := ra_ms_7 hR (k := 389) (j := j6) (by decide) (by decide) (by omega) (by omega)
    refine r_if_le (tgt := 34) hx hb dX12_swornSet_25 (by decide) (fun c8 => ?_) (fun c8 => ?_)
    · refine r_iconst hx hb dX12_swornSet_34 (by decide) (fun z9 ez9 => ?_)
      refine r_iorU hx hb dX12_swornSet_35 (fun z10 => ?_)
      refine lv_istore_n (lv' := [(1, .int z10), (0, .ref (ad 387)), (2, .int x2)]) hx hb dX12_swornSet_36 rfl hl (by decide) rfl (fun ls hl => ?_)
      refine r_iinc (k := 2) (lv1 := fun z11 => [(2, .int z11), (1, .int z10), (0, .ref (ad 387))]) hx hb dX12_swornSet_37 hl rfl (by decide) (fun _ => rfl) (by decide) (by omega) (fun z11 ls ez11 hl => ?_)
      refine lv_goto (tgt := 4) hx hb dX12_swornSet_40 (by decide) ?_
      exact K4 σ0 τ0 H locs z10 z11 ls hR hF hFL hP hS (by omega) (lv_sub hl [2, 1, 0] rfl) (by omega)
    · refine r_iconst hx hb dX12_swornSet_28 (by decide) (fun z12 ez12 => ?_)
      refine lv_iload_n hx hb dX12_swornSet_29 rfl (lv_at hl 2 rfl) ?_
      refine r_ishlU hx hb dX12_swornSet_30 (fun z13 => ?_)
      refine lv_goto (tgt := 35) hx hb dX12_swornSet_31 (by decide) ?_
      refine r_iorU hx hb dX12_swornSet_35 (fun z14 => ?_)
      refine lv_istore_n (lv' := [(1, .int z14), (0, .ref (ad 387)), (2, .int x2)]) hx hb dX12_swornSet_36 rfl hl (by decide) rfl (fun ls hl => ?_)
      refine r_iinc (k := 2) (lv1 := fun z15 => [(2, .int z15), (1, .int z14), (0, .ref (ad 387))]) hx hb dX12_swornSet_37 hl rfl (by decide) (fun _ => rfl) (by decide) (by omega) (fun z15 ls ez15 hl => ?_)
      refine lv_goto (tgt := 4) hx hb dX12_swornSet_40 (by decide) ?_
      exact K4 σ0 τ0 H locs z14 z15 ls hR hF hFL hP hS (by omega) (lv_sub hl [2, 1, 0] rfl) (by omega)
theorem A_X12_swornSet (p : Program) (l : Launch) (e : Env) (s : State) (m : MethodId) (args : Array Value) (below : List Frame) (meth : Method) (c : Code) (D : va_G) (cA : Nat → ClassId) (ad : Nat → Nat) (σ0 : Nat → Nat → Int32) (τ0 : Nat → Nat → Int64)  (C : Cy p s m args meth c cX12_swornSet 3 wsX12_swornSet RX12 D cA ad (some .int))  : ∀ n : Nat, J_X12_swornSet_4 p l e s m args below meth c D cA ad σ0 τ0 n := by
  intro n
  induction n with
  | zero =>
    exact (by intro σ τ H locs x1 x2 ls hR hF hFL hP hS hc0 hl hm; exfalso; omega)
  | succ n ih =>
    exact B_X12_swornSet_4 p l e s m args below meth c D cA ad σ0 τ0 n C  ih
set_option maxHeartbeats 4000000 in
theorem c_X12_swornSet (l : Launch) (D : va_G) (cA : Nat → ClassId) (ad : Nat → Nat) (hI : Inj ad) (σ0 : Nat → Nat → Int32) (τ0 : Nat → Nat → Int64) (hR : Rg σ0)   : Met l yX12_swornSet wsX12_swornSet ({ frames := 0, cells := 0, slots := 0, locals := 0 } : Room) (WQc D cA ad [.ref (ad 387)] σ0 τ0) (va_Qi (fun (r : Int32) (u : SS) => P_X12_swornSet σ0 τ0 r u.1 u.2) (WB D cA ad) (AA ad)) 0 0 (AA ad) := by
  refine Met.ofW (cc := cX12_swornSet) (maxL := 3) (ret := (some .int)) (by decide) rfl ?_
  intro p e s m args below meth c s₁ B hml hv
  obtain ⟨rfl, hP, hK, hN⟩ := hv
  have C : Cy p s m _ meth c cX12_swornSet 3 wsX12_swornSet RX12 D cA ad (some .int) := ⟨B.exec, B.bytes, hml, findClass_of_methodNamed B.named, atoms_spec (ws := wsX12_swornSet) B.pre, hK, B.notSynchronized, B.returns, hI, hN⟩
  have hl := lv_entry ([.ref (ad 387)]) (n := 3) (Nat.le_of_ble_eq_true rfl)
  rw [lg_entry_eq]
  generalize (lg_sl ([.ref (ad 387)]) ++ List.replicate (3 - (lg_sl ([.ref (ad 387)])).length) Slot.unset).toArray = ls at hl ⊢
  have hl : lv_has ls 3 [(0, .ref (ad 387))] := hl
  have hS : va_S (AA ad) s.heap s.heap [] := va_S.rf
  have hF : Fr L_X12_swornSet σ0 σ0 := Fr.rf
  have hFL : FrL LL_X12_swornSet τ0 τ0 := FrL.rf
  have hA := A_X12_swornSet p l e s m _ below meth c D cA ad σ0 τ0 C  42
  have K4 := hA
  clear hA
  obtain ⟨hx, hb, _, hown, hts, _, hk, hr, _, _⟩ := C
  refine r_iconst hx hb dX12_swornSet_0 (by decide) (fun z1 ez1 => ?_)
  refine lv_istore_n (lv' := [(1, .int z1), (0, .ref (ad 387))]) hx hb dX12_swornSet_1 rfl hl (by decide) rfl (fun ls hl => ?_)
  refine r_iconst hx hb dX12_swornSet_2 (by decide) (fun z2 ez2 => ?_)
  refine lv_istore_n (lv' := [(2, .int z2), (1, .int z1), (0, .ref (ad 387))]) hx hb dX12_swornSet_3 rfl hl (by decide) rfl (fun ls hl => ?_)
  exact K4 σ0 τ0 s.heap [] z1 z2 ls hR hF hFL hP hS (by omega) (lv_sub hl [2, 1, 0] rfl) (by omega)
theorem in_X12_now_12 : ∀ w ∈ u_ws RX12 TX12 47, w ∈ wsX12_now := by decide +kernel
theorem lk_X12_now_1 : Cond.fieldLink RX12 1 "CuckooSharesModel" "thrown" "I" ∈ wsX12_now := by decide +kernel
theorem lk_X12_now_33 : Cond.fieldLink RX12 33 "CuckooSharesModel" "s" "[I" ∈ wsX12_now := by decide +kernel
abbrev L_X12_now : List Rc := [(387, 387, 0, 0)]
abbrev LL_X12_now : List Rc := []
def P_X12_now (σ0 : Nat → Nat → Int32) (τ0 : Nat → Nat → Int64) (a1 : Int32) (r : Int32) (σ : Nat → Nat → Int32) (τ : Nat → Nat → Int64) : Prop := Rg σ ∧ Fr L_X12_now σ0 σ ∧ FrL LL_X12_now τ0 τ
set_option maxHeartbeats 4000000 in
theorem c_X12_now (l : Launch) (D : va_G) (cA : Nat → ClassId) (ad : Nat → Nat) (hI : Inj ad) (σ0 : Nat → Nat → Int32) (τ0 : Nat → Nat → Int64) (hR : Rg σ0) (a1 : Int32)  : Met l yX12_now wsX12_now ({ frames := 2, cells := 0, slots := 0, locals := 43 } : Room) (WQc D cA ad [.ref (ad 387), .int a1] σ0 τ0) (va_Qi (fun (r : Int32) (u : SS) => P_X12_now σ0 τ0 a1 r u.1 u.2) (WB D cA ad) (AA ad)) 0 0 (AA ad) := by
  refine Met.ofW (cc := cX12_now) (maxL := 2) (ret := (some .int)) (by decide) rfl ?_
  intro p e s m args below meth c s₁ B hml hv
  obtain ⟨rfl, hP, hK, hN⟩ := hv
  have C : Cy p s m _ meth c cX12_now 2 wsX12_now RX12 D cA ad (some .int) := ⟨B.exec, B.bytes, hml, findClass_of_methodNamed B.named, atoms_spec (ws := wsX12_now) B.pre, hK, B.notSynchronized, B.returns, hI, hN⟩
  have hl := lv_entry ([.ref (ad 387), .int a1]) (n := 2) (Nat.le_of_ble_eq_true rfl)
  rw [lg_entry_eq]
  generalize (lg_sl ([.ref (ad 387), .int a1]) ++ List.replicate (2 - (lg_sl ([.ref (ad 387), .int a1])).length) Slot.unset).toArray = ls at hl ⊢
  have hl : lv_has ls 2 [(0, .ref (ad 387)), (1, .int a1)] := hl
  have hS : va_S (AA ad) s.heap s.heap [] := va_S.rf
  have hF : Fr L_X12_now σ0 σ0 := Fr.rf
  have hFL : FrL LL_X12_now τ0 τ0 := FrL.rf
  obtain ⟨hx, hb, _, hown, hts, _, hk, hr, _, _⟩ := C
  refine lv_aload_n hx hb dX12_now_0 rfl (lv_at hl 0 rfl) ?_
  refine r_iconst hx hb dX12_now_1 (by decide) (fun z1 ez1 => ?_)
  refine fp_12_0 (k := 387) hx hb hts in_X12_now_12 hown hK hP (by decide) (by decide) (hts _ lk_X12_now_1) hI hR hS (by omega) dX12_now_2 (fun σ2 H2 locs2 u2 v2 hR hP hS => ?_)
  have hF := hF.puts u2 0 rfl (by decide) (by decide) (by decide) (by decide)
  refine lv_iload_n hx hb dX12_now_5 rfl (lv_at hl 1 rfl) ?_
  by_cases c3 : a1.toInt = 0
  · refine lv_tableIn (off := 42) (tgt := 48) hx hb dX12_now_6 (by omega) (by omega) (by rw [c3]; rfl) (by decide) ?_
    refine lv_aload_n hx hb dX12_now_48 rfl (lv_at hl 0 rfl) ?_
    refine fg_12_6 (k := 387) hx hb hts in_X12_now_12 hown hK hP (by decide) (by decide) (hts _ lk_X12_now_33) dX12_now_49 ?_
    refine r_sipush hx hb dX12_now_52 (by decide) (fun z4 ez4 => ?_)
    refine ad_ms (k := 389) (j := 211) hx hb hK hP (by decide) (by decide) (by omega) (by omega) dX12_now_55 ?_
    exact r_iret hx hb hr hK hP hS hk dX12_now_56 (show P_X12_now σ0 τ0 a1 (σ2 389 211) σ2 τ0 from ⟨hR, hF, hFL⟩)
  by_cases c5 : a1.toInt = 1
  · refine lv_tableIn (off := 51) (tgt := 57) hx hb dX12_now_6 (by omega) (by omega) (by rw [c5]; rfl) (by decide) ?_
    refine lv_aload_n hx hb dX12_now_57 rfl (lv_at hl 0 rfl) ?_
    refine fg_12_6 (k := 387) hx hb hts in_X12_now_12 hown hK hP (by decide) (by decide) (hts _ lk_X12_now_33) dX12_now_58 ?_
    refine r_sipush hx hb dX12_now_61 (by decide) (fun z6 ez6 => ?_)
    refine ad_ms (k := 389) (j := 212) hx hb hK hP (by decide) (by decide) (by omega) (by omega) dX12_now_64 ?_
    have hr7 := ra_ms_5 hR (k := 389) (j := 212) (by decide) (by decide) (by decide) (by decide)
    refine r_iconst hx hb dX12_now_65 (by decide) (fun z8 ez8 => ?_)
    refine r_isub hx hb dX12_now_66 (by omega) (fun z9 ez9 => ?_)
    exact r_iret hx hb hr hK hP hS hk dX12_now_67 (show P_X12_now σ0 τ0 a1 z9 σ2 τ0 from ⟨hR, hF, hFL⟩)
  by_cases c10 : a1.toInt = 2
  · refine lv_tableIn (off := 62) (tgt := 68) hx hb dX12_now_6 (by omega) (by omega) (by rw [c10]; rfl) (by decide) ?_
    refine lv_aload_n hx hb dX12_now_68 rfl (lv_at hl 0 rfl) ?_
    refine fg_12_6 (k := 387) hx hb hts in_X12_now_12 hown hK hP (by decide) (by decide) (hts _ lk_X12_now_33) dX12_now_69 ?_
    refine r_sipush hx hb dX12_now_72 (by decide) (fun z11 ez11 => ?_)
    refine ad_ms (k := 389) (j := 213) hx hb hK hP (by decide) (by decide) (by omega) (by omega) dX12_now_75 ?_
    exact r_iret hx hb hr hK hP hS hk dX12_now_76 (show P_X12_now σ0 τ0 a1 (σ2 389 213) σ2 τ0 from ⟨hR, hF, hFL⟩)
  by_cases c12 : a1.toInt = 3
  · refine lv_tableIn (off := 71) (tgt := 77) hx hb dX12_now_6 (by omega) (by omega) (by rw [c12]; rfl) (by decide) ?_
    refine lv_aload_n hx hb dX12_now_77 rfl (lv_at hl 0 rfl) ?_
    refine r_cVi (k := 387) (As := []) (rest := []) ⟨hx, hb, hml, hown, hts⟩ hK hP hN hS (c_X12_pastOf l D cA ad hI σ2 τ0 hR) (cwV 0 hts gX12_now_X12_pastOf rfl rfl rfl (by decide +kernel) ⟨by decide, by decide⟩) (rv_M hK hP (by decide) (by decide)) rfl hl.1 rfl (Nat.le_of_ble_eq_true rfl) dX12_now_78 (Nat.zero_le _) (Nat.zero_le _) (fun r13 u13 H13 locs13 hp13 hP hS => ?_)
    obtain ⟨σ13, τ13⟩ := u13
    obtain ⟨hR, f13, fL13, hq13⟩ : P_X12_pastOf σ2 τ0 r13 σ13 τ13 := hp13
    have hP : va_P D vwCl (gw cA ad σ13 τ13) H13 := hP
    obtain rfl := FrL.nil fL13
    obtain rfl := Fr.nil f13
    exact r_iret hx hb hr hK hP hS hk dX12_now_81 (show P_X12_now σ0 τ0 a1 r13 σ2 τ0 from ⟨hR, hF, hFL⟩)
  by_cases c14 : a1.toInt = 4
  · refine lv_tableIn (off := 76) (tgt := 82) hx hb dX12_now_6 (by omega) (by omega) (by rw [c14]; rfl) (by decide) ?_
    refine lv_aload_n hx hb dX12_now_82 rfl (lv_at hl 0 rfl) ?_
    refine r_cVi (k := 387) (As := []) (rest := []) ⟨hx, hb, hml, hown, hts⟩ hK hP hN hS (c_X12_swornSet l D cA ad hI σ2 τ0 hR) (cwV 0 hts gX12_now_X12_swornSet rfl rfl rfl (by decide +kernel) ⟨by decide, by decide⟩) (rv_M hK hP (by decide) (by decide)) rfl hl.1 rfl (Nat.le_of_ble_eq_true rfl) dX12_now_83 (Nat.zero_le _) (Nat.zero_le _) (fun r15 u15 H15 locs15 hp15 hP hS => ?_)
    obtain ⟨σ15, τ15⟩ := u15
    obtain ⟨hR, f15, fL15⟩ : P_X12_swornSet σ2 τ0 r15 σ15 τ15 := hp15
    have hP : va_P D vwCl (gw cA ad σ15 τ15) H15 := hP
    obtain rfl := FrL.nil fL15
    obtain rfl := Fr.nil f15
    exact r_iret hx hb hr hK hP hS hk dX12_now_86 (show P_X12_now σ0 τ0 a1 r15 σ2 τ0 from ⟨hR, hF, hFL⟩)
  by_cases c16 : a1.toInt = 5
  · refine lv_tableIn (off := 81) (tgt := 87) hx hb dX12_now_6 (by omega) (by omega) (by rw [c16]; rfl) (by decide) ?_
    refine lv_aload_n hx hb dX12_now_87 rfl (lv_at hl 0 rfl) ?_
    refine r_sipush hx hb dX12_now_88 (by decide) (fun z17 ez17 => ?_)
    refine r_cVi (k := 387) (As := [.int z17]) (rest := []) ⟨hx, hb, hml, hown, hts⟩ hK hP hN hS (c_X12_sum l D cA ad hI σ2 τ0 hR z17 (by omega)) (cwV 1 hts gX12_now_X12_sum rfl rfl rfl (by decide +kernel) ⟨by decide, by decide⟩) (rv_M hK hP (by decide) (by decide)) rfl hl.1 rfl (Nat.le_of_ble_eq_true rfl) dX12_now_91 (Nat.zero_le _) (Nat.zero_le _) (fun r18 u18 H18 locs18 hp18 hP hS => ?_)
    obtain ⟨σ18, τ18⟩ := u18
    obtain ⟨hR, f18, fL18⟩ : P_X12_sum σ2 τ0 z17 r18 σ18 τ18 := hp18
    have hP : va_P D vwCl (gw cA ad σ18 τ18) H18 := hP
    obtain rfl := FrL.nil fL18
    obtain rfl := Fr.nil f18
    exact r_iret hx hb hr hK hP hS hk dX12_now_94 (show P_X12_now σ0 τ0 a1 r18 σ2 τ0 from ⟨hR, hF, hFL⟩)
  by_cases c19 : a1.toInt = 6
  · refine lv_tableIn (off := 89) (tgt := 95) hx hb dX12_now_6 (by omega) (by omega) (by rw [c19]; rfl) (by decide) ?_
    refine lv_aload_n hx hb dX12_now_95 rfl (lv_at hl 0 rfl) ?_
    refine r_sipush hx hb dX12_now_96 (by decide) (fun z20 ez20 => ?_)
    refine r_cVi (k := 387) (As := [.int z20]) (rest := []) ⟨hx, hb, hml, hown, hts⟩ hK hP hN hS (c_X12_sum l D cA ad hI σ2 τ0 hR z20 (by omega)) (cwV 1 hts gX12_now_X12_sum rfl rfl rfl (by decide +kernel) ⟨by decide, by decide⟩) (rv_M hK hP (by decide) (by decide)) rfl hl.1 rfl (Nat.le_of_ble_eq_true rfl) dX12_now_99 (Nat.zero_le _) (Nat.zero_le _) (fun r21 u21 H21 locs21 hp21 hP hS => ?_)
    obtain ⟨σ21, τ21⟩ := u21
    obtain ⟨hR, f21, fL21⟩ : P_X12_sum σ2 τ0 z20 r21 σ21 τ21 := hp21
    have hP : va_P D vwCl (gw cA ad σ21 τ21) H21 := hP
    obtain rfl := FrL.nil fL21
    obtain rfl := Fr.nil f21
    exact r_iret hx hb hr hK hP hS hk dX12_now_102 (show P_X12_now σ0 τ0 a1 r21 σ2 τ0 from ⟨hR, hF, hFL⟩)
  refine lv_tableOut (tgt := 103) hx hb dX12_now_6 (by omega) (by decide) ?_
  refine r_iconst hx hb dX12_now_103 (by decide) (fun z22 ez22 => ?_)
  exact r_iret hx hb hr hK hP hS hk dX12_now_104 (show P_X12_now σ0 τ0 a1 z22 σ2 τ0 from ⟨hR, hF, hFL⟩)
theorem in_X12_keep_12 : ∀ w ∈ u_ws RX12 TX12 47, w ∈ wsX12_keep := by decide +kernel
theorem lk_X12_keep_256 : Cond.fieldLink RX12 256 "CuckooSharesModel" "undoMany" "I" ∈ wsX12_keep := by decide +kernel
theorem lk_X12_keep_33 : Cond.fieldLink RX12 33 "CuckooSharesModel" "s" "[I" ∈ wsX12_keep := by decide +kernel
theorem lk_X12_keep_62 : Cond.fieldLink RX12 62 "CuckooSharesModel" "undone" "[I" ∈ wsX12_keep := by decide +kernel
abbrev L_X12_keep : List Rc := [(387, 387, 29, 29), (398, 398, 0, 279)]
abbrev LL_X12_keep : List Rc := []
def P_X12_keep (σ0 : Nat → Nat → Int32) (τ0 : Nat → Nat → Int64)  (σ : Nat → Nat → Int32) (τ : Nat → Nat → Int64) : Prop := Rg σ ∧ Fr L_X12_keep σ0 σ ∧ FrL LL_X12_keep τ0 τ ∧ (1 ≤ (σ 387 29).toInt)
def J_X12_keep_11 (p : Program) (l : Launch) (e : Env) (s : State) (m : MethodId) (args : Array Value) (below : List Frame) (meth : Method) (c : Code) (D : va_G) (cA : Nat → ClassId) (ad : Nat → Nat) (σ0 : Nat → Nat → Int32) (τ0 : Nat → Nat → Int64)  (n : Nat) : Prop := ∀ (σ : Nat → Nat → Int32) (τ : Nat → Nat → Int64) (H : Heap) (locs : List Loc) (x1 : Int32) (ls : Array Slot), Rg σ → Fr L_X12_keep σ0 σ → FrL LL_X12_keep τ0 τ → va_P D vwCl (gw cA ad σ τ) H → va_S (AA ad) s.heap H locs → (0 ≤ x1.toInt ∧ x1.toInt ≤ 255) → (8 ≤ (σ 387 29).toInt ∧ (σ 387 29).toInt ≤ 8) → lv_has ls 2 [(0, .ref (ad 387)), (1, .int x1)] → 83 * (255 - x1.toInt) + 82 < (n : Int) → W p l e ({ frames := 0, cells := 0, slots := 0, locals := 0 } : Room) s m args below meth c H locs 0 0 (MQ below (va_Qv (fun u : SS => P_X12_keep σ0 τ0 u.1 u.2) (WB D cA ad) (AA ad)) args s 0 0 (AA ad)) (F0 m 11 ls [])
def J_X12_keep_47 (p : Program) (l : Launch) (e : Env) (s : State) (m : MethodId) (args : Array Value) (below : List Frame) (meth : Method) (c : Code) (D : va_G) (cA : Nat → ClassId) (ad : Nat → Nat) (σ0 : Nat → Nat → Int32) (τ0 : Nat → Nat → Int64)  (n : Nat) : Prop := ∀ (σ : Nat → Nat → Int32) (τ : Nat → Nat → Int64) (H : Heap) (locs : List Loc) (x1 : Int32) (ls : Array Slot), Rg σ → Fr L_X12_keep σ0 σ → FrL LL_X12_keep τ0 τ → va_P D vwCl (gw cA ad σ τ) H → va_S (AA ad) s.heap H locs → (0 ≤ x1.toInt ∧ x1.toInt ≤ 39) → (0 ≤ (σ 387 29).toInt ∧ (σ 387 29).toInt ≤ 7) → lv_has ls 2 [(0, .ref (ad 387)), (1, .int x1)] → 2 * (39 - x1.toInt) + 1 < (n : Int) → W p l e ({ frames := 0, cells := 0, slots := 0, locals := 0 } : Room) s m args below meth c H locs 0 0 (MQ below (va_Qv (fun u : SS => P_X12_keep σ0 τ0 u.1 u.2) (WB D cA ad) (AA ad)) args s 0 0 (AA ad)) (F0 m 47 ls [])
set_option maxHeartbeats 4000000 in
theorem B_X12_keep_11 (p : Program) (l : Launch) (e : Env) (s : State) (m : MethodId) (args : Array Value) (below : List Frame) (meth : Method) (c : Code) (D : va_G) (cA : Nat → ClassId) (ad : Nat → Nat) (σ0 : Nat → Nat → Int32) (τ0 : Nat → Nat → Int64)  (n : Nat) (C : Cy p s m args meth c cX12_keep 2 wsX12_keep RX12 D cA ad none)  (K11 : J_X12_keep_11 p l e s m args below meth c D cA ad σ0 τ0 n) (K47 : J_X12_keep_47 p l e s m args below meth c D cA ad σ0 τ0 n) : J_X12_keep_11 p l e s m args below meth c D cA ad σ0 τ0 (n + 1) := by
  obtain ⟨hx, hb, hml, hown, hts, hK, hk, hr, hI, hN⟩ := C
  intro σ τ H locs x1 ls hR hF hFL hP hS hc0 hc1 hl hm
  obtain rfl := FrL.nil hFL
  refine lv_iload_n hx hb dX12_keep_11 rfl (lv_at hl 1 rfl) ?_
  refine r_sipush hx hb dX12_keep_12 (by decide) (fun z1 ez1 => ?_)
  refine r_icmp_ge (tgt := 39) hx hb dX12_keep_15 (by decide) (fun c2 => ?_) (fun c2 => ?_)
  · refine lv_aload_n hx hb dX12_keep_39 rfl (lv_at hl 0 rfl) ?_
    refine r_bipush hx hb dX12_keep_40 (by decide) (fun z3 ez3 => ?_)
    refine fp_12_29 (k := 387) hx hb hts in_X12_keep_12 hown hK hP (by decide) (by decide) (hts _ lk_X12_keep_256) hI hR hS (by omega) dX12_keep_42 (fun σ4 H4 locs4 u4 v4 hR hP hS => ?_)
    have hF := hF.puts u4 0 rfl (by decide) (by decide) (by decide) (by decide)
    refine r_iconst hx hb dX12_keep_45 (by decide) (fun z5 ez5 => ?_)
    refine lv_istore_n (lv' := [(1, .int z5), (0, .ref (ad 387))]) hx hb dX12_keep_46 rfl hl (by decide) rfl (fun ls hl => ?_)
    exact K47 σ4 τ0 H4 locs4 z5 ls hR hF hFL hP hS (by omega) (by omega) (lv_sub hl [1, 0] rfl) (by omega)
  · refine lv_aload_n hx hb dX12_keep_18 rfl (lv_at hl 0 rfl) ?_
    refine fg_12_27 (k := 387) hx hb hts in_X12_keep_12 hown hK hP (by decide) (by decide) (hts _ lk_X12_keep_62) dX12_keep_19 ?_
    refine lv_iload_n hx hb dX12_keep_22 rfl (lv_at hl 1 rfl) ?_
    refine lv_aload_n hx hb dX12_keep_23 rfl (lv_at hl 0 rfl) ?_
    refine fg_12_27 (k := 387) hx hb hts in_X12_keep_12 hown hK hP (by decide) (by decide) (hts _ lk_X12_keep_62) dX12_keep_24 ?_
    refine lv_iload_n hx hb dX12_keep_27 rfl (lv_at hl 1 rfl) ?_
    refine r_bipush hx hb dX12_keep_28 (by decide) (fun z6 ez6 => ?_)
    refine r_iadd hx hb dX12_keep_30 (by omega) (fun z7 ez7 => ?_)
    obtain ⟨j8, ej8⟩ : ∃ j : Nat, z7.toInt = (j : Int) := ⟨_, ti_nat (by omega)⟩
    refine ad_mundone (k := 398) (j := j8) hx hb hK hP (by decide) (by decide) ej8 (by omega) dX12_keep_31 ?_
    obtain ⟨j9, ej9⟩ : ∃ j : Nat, x1.toInt = (j : Int) := ⟨_, ti_nat (by omega)⟩
    refine as_mundone (k := 398) (j := j9) hx hb hK hP hI hR hS (by decide) (by decide) ej9 (by omega) (mc_uu hR (by omega) (by omega)) dX12_keep_32 (fun σ10 H10 locs10 u10 v10 hR hP hS => ?_)
    have hF := hF.puts u10 1 rfl (by decide) (by decide) (by omega) (by omega)
    have t11 : (σ10 387 29).toInt = (σ 387 29).toInt := congrArg Int32.toInt (u10 387 29 (by omega))
    refine r_iinc (k := 1) (lv1 := fun z12 => [(1, .int z12), (0, .ref (ad 387))]) hx hb dX12_keep_33 hl rfl (by decide) (fun _ => rfl) (by decide) (by omega) (fun z12 ls ez12 hl => ?_)
    refine lv_goto (tgt := 11) hx hb dX12_keep_36 (by decide) ?_
    exact K11 σ10 τ0 H10 locs10 z12 ls hR hF hFL hP hS (by omega) (by omega) (lv_sub hl [1, 0] rfl) (by omega)
set_option maxHeartbeats 4000000 in
theorem B_X12_keep_47 (p : Program) (l : Launch) (e : Env) (s : State) (m : MethodId) (args : Array Value) (below : List Frame) (meth : Method) (c : Code) (D : va_G) (cA : Nat → ClassId) (ad : Nat → Nat) (σ0 : Nat → Nat → Int32) (τ0 : Nat → Nat → Int64)  (n : Nat) (C : Cy p s m args meth c cX12_keep 2 wsX12_keep RX12 D cA ad none)  (K11 : J_X12_keep_11 p l e s m args below meth c D cA ad σ0 τ0 n) (K47 : J_X12_keep_47 p l e s m args below meth c D cA ad σ0 τ0 n) : J_X12_keep_47 p l e s m args below meth c D cA ad σ0 τ0 (n + 1) := by
  obtain ⟨hx, hb, hml, hown, hts, hK, hk, hr, hI, hN⟩ := C
  intro σ τ H locs x1 ls hR hF hFL hP hS hc0 hc1 hl hm
  obtain rfl := FrL.nil hFL
  refine lv_iload_n hx hb dX12_keep_47 rfl (lv_at hl 1 rfl) ?_
  refine r_bipush hx hb dX12_keep_48 (by decide) (fun z1 ez1 => ?_)
  refine r_icmp_ge (tgt := 83) hx hb dX12_keep_50 (by decide) (fun c2 => ?_) (fun c2 => ?_)
  · refine lv_aload_n hx hb dX12_keep_83 rfl (lv_at hl 0 rfl) ?_
    refine lv_dup hx hb dX12_keep_84 rfl ?_
    refine fg_12_29 (k := 387) hx hb hts in_X12_keep_12 hown hK hP (by decide) (by decide) (hts _ lk_X12_keep_256) dX12_keep_85 ?_
    refine r_iconst hx hb dX12_keep_88 (by decide) (fun z3 ez3 => ?_)
    refine r_iadd hx hb dX12_keep_89 (by omega) (fun z4 ez4 => ?_)
    refine fp_12_29 (k := 387) hx hb hts in_X12_keep_12 hown hK hP (by decide) (by decide) (hts _ lk_X12_keep_256) hI hR hS (by omega) dX12_keep_90 (fun σ5 H5 locs5 u5 v5 hR hP hS => ?_)
    have hF := hF.puts u5 0 rfl (by decide) (by decide) (by decide) (by decide)
    exact r_vret hx hb hr hK hP hS hk dX12_keep_93 (show P_X12_keep σ0 τ0 σ5 τ0 from ⟨hR, hF, hFL, by omega⟩)
  · refine lv_aload_n hx hb dX12_keep_53 rfl (lv_at hl 0 rfl) ?_
    refine fg_12_27 (k := 387) hx hb hts in_X12_keep_12 hown hK hP (by decide) (by decide) (hts _ lk_X12_keep_62) dX12_keep_54 ?_
    refine r_bipush hx hb dX12_keep_57 (by decide) (fun z6 ez6 => ?_)
    refine lv_aload_n hx hb dX12_keep_59 rfl (lv_at hl 0 rfl) ?_
    refine fg_12_29 (k := 387) hx hb hts in_X12_keep_12 hown hK hP (by decide) (by decide) (hts _ lk_X12_keep_256) dX12_keep_60 ?_
    refine r_imulL (n := 35) hx hb dX12_keep_63 (by omega) (by omega) (fun z7 ez7 => ?_)
    refine lv_iload_n hx hb dX12_keep_64 rfl (lv_at hl 1 rfl) ?_
    refine r_iadd hx hb dX12_keep_65 (by omega) (fun z8 ez8 => ?_)
    refine lv_aload_n hx hb dX12_keep_66 rfl (lv_at hl 0 rfl) ?_
    refine fg_12_6 (k := 387) hx hb hts in_X12_keep_12 hown hK hP (by decide) (by decide) (hts _ lk_X12_keep_33) dX12_keep_67 ?_
    refine r_sipush hx hb dX12_keep_70 (by decide) (fun z9 ez9 => ?_)
    refine lv_iload_n hx hb dX12_keep_73 rfl (lv_at hl 1 rfl) ?_
    refine r_iadd hx hb dX12_keep_74 (by omega) (fun z10 ez10 => ?_)
    obtain ⟨j11, ej11⟩ : ∃ j : Nat, z10.toInt = (j : Int) := ⟨_, ti_nat (by omega)⟩
    refine ad_ms (k := 389) (j := j11) hx hb hK hP (by decide) (by decide) ej11 (by omega) dX12_keep_75 ?_
    obtain ⟨j12, ej12⟩ : ∃ j : Nat, z8.toInt = (j : Int) := ⟨_, ti_nat (by omega)⟩
    refine as_mundone (k := 398) (j := j12) hx hb hK hP hI hR hS (by decide) (by decide) ej12 (by omega) (mc_us hR ((σ 387 29).toInt.toNat) (x1.toInt.toNat) (by omega) (by omega) (by omega) (by omega)) dX12_keep_76 (fun σ13 H13 locs13 u13 v13 hR hP hS => ?_)
    have hF := hF.puts u13 1 rfl (by decide) (by decide) (by omega) (by omega)
    have t14 : (σ13 387 29).toInt = (σ 387 29).toInt := congrArg Int32.toInt (u13 387 29 (by omega))
    refine r_iinc (k := 1) (lv1 := fun z15 => [(1, .int z15), (0, .ref (ad 387))]) hx hb dX12_keep_77 hl rfl (by decide) (fun _ => rfl) (by decide) (by omega) (fun z15 ls ez15 hl => ?_)
    refine lv_goto (tgt := 47) hx hb dX12_keep_80 (by decide) ?_
    exact K47 σ13 τ0 H13 locs13 z15 ls hR hF hFL hP hS (by omega) (by omega) (lv_sub hl [1, 0] rfl) (by omega)
theorem A_X12_keep (p : Program) (l : Launch) (e : Env) (s : State) (m : MethodId) (args : Array Value) (below : List Frame) (meth : Method) (c : Code) (D : va_G) (cA : Nat → ClassId) (ad : Nat → Nat) (σ0 : Nat → Nat → Int32) (τ0 : Nat → Nat → Int64)  (C : Cy p s m args meth c cX12_keep 2 wsX12_keep RX12 D cA ad none)  : ∀ n : Nat, J_X12_keep_11 p l e s m args below meth c D cA ad σ0 τ0 n ∧ J_X12_keep_47 p l e s m args below meth c D cA ad σ0 τ0 n := by
  intro n
  induction n with
  | zero =>
    exact ⟨(by intro σ τ H locs x1 ls hR hF hFL hP hS hc0 hc1 hl hm; exfalso; omega), (by intro σ τ H locs x1 ls hR hF hFL hP hS hc0 hc1 hl hm; exfalso; omega)⟩
  | succ n ih =>
    exact ⟨B_X12_keep_11 p l e s m args below meth c D cA ad σ0 τ0 n C  ih.1 ih.2, B_X12_keep_47 p l e s m args below meth c D cA ad σ0 τ0 n C  ih.1 ih.2⟩
set_option maxHeartbeats 4000000 in
theorem c_X12_keep (l : Launch) (D : va_G) (cA : Nat → ClassId) (ad : Nat → Nat) (hI : Inj ad) (σ0 : Nat → Nat → Int32) (τ0 : Nat → Nat → Int64) (hR : Rg σ0)   : Met l yX12_keep wsX12_keep ({ frames := 0, cells := 0, slots := 0, locals := 0 } : Room) (WQc D cA ad [.ref (ad 387)] σ0 τ0) (va_Qv (fun u : SS => P_X12_keep σ0 τ0 u.1 u.2) (WB D cA ad) (AA ad)) 0 0 (AA ad) := by
  refine Met.ofW (cc := cX12_keep) (maxL := 2) (ret := none) (by decide) rfl ?_
  intro p e s m args below meth c s₁ B hml hv
  obtain ⟨rfl, hP, hK, hN⟩ := hv
  have C : Cy p s m _ meth c cX12_keep 2 wsX12_keep RX12 D cA ad none := ⟨B.exec, B.bytes, hml, findClass_of_methodNamed B.named, atoms_spec (ws := wsX12_keep) B.pre, hK, B.notSynchronized, B.returns, hI, hN⟩
  have hl := lv_entry ([.ref (ad 387)]) (n := 2) (Nat.le_of_ble_eq_true rfl)
  rw [lg_entry_eq]
  generalize (lg_sl ([.ref (ad 387)]) ++ List.replicate (2 - (lg_sl ([.ref (ad 387)])).length) Slot.unset).toArray = ls at hl ⊢
  have hl : lv_has ls 2 [(0, .ref (ad 387))] := hl
  have hS : va_S (AA ad) s.heap s.heap [] := va_S.rf
  have hF : Fr L_X12_keep σ0 σ0 := Fr.rf
  have hFL : FrL LL_X12_keep τ0 τ0 := FrL.rf
  have hA := A_X12_keep p l e s m _ below meth c D cA ad σ0 τ0 C  42663
  have K11 := hA.1
  have K47 := hA.2
  clear hA
  obtain ⟨hx, hb, _, hown, hts, _, hk, hr, _, _⟩ := C
  have hrt29 := rg_12_29 hR (k := 387) (by decide) (by decide)
  refine lv_aload_n hx hb dX12_keep_0 rfl (lv_at hl 0 rfl) ?_
  refine fg_12_29 (k := 387) hx hb hts in_X12_keep_12 hown hK hP (by decide) (by decide) (hts _ lk_X12_keep_256) dX12_keep_1 ?_
  refine r_bipush hx hb dX12_keep_4 (by decide) (fun z1 ez1 => ?_)
  refine r_icmp_ne (tgt := 45) hx hb dX12_keep_6 (by decide) (fun c2 => ?_) (fun c2 => ?_)
  · refine r_iconst hx hb dX12_keep_45 (by decide) (fun z3 ez3 => ?_)
    refine lv_istore_n (lv' := [(1, .int z3), (0, .ref (ad 387))]) hx hb dX12_keep_46 rfl hl (by decide) rfl (fun ls hl => ?_)
    exact K47 σ0 τ0 s.heap [] z3 ls hR hF hFL hP hS (by omega) (by omega) (lv_sub hl [1, 0] rfl) (by omega)
  · refine r_iconst hx hb dX12_keep_9 (by decide) (fun z4 ez4 => ?_)
    refine lv_istore_n (lv' := [(1, .int z4), (0, .ref (ad 387))]) hx hb dX12_keep_10 rfl hl (by decide) rfl (fun ls hl => ?_)
    exact K11 σ0 τ0 s.heap [] z4 ls hR hF hFL hP hS (by omega) (by omega) (lv_sub hl [1, 0] rfl) (by omega)
theorem in_X12_comes_12 : ∀ w ∈ u_ws RX12 TX12 47, w ∈ wsX12_comes := by decide +kernel
theorem lk_X12_comes_1 : Cond.fieldLink RX12 1 "CuckooSharesModel" "thrown" "I" ∈ wsX12_comes := by decide +kernel
theorem lk_X12_comes_33 : Cond.fieldLink RX12 33 "CuckooSharesModel" "s" "[I" ∈ wsX12_comes := by decide +kernel
abbrev L_X12_comes : List Rc := [(387, 387, 0, 0), (387, 387, 29, 29), (398, 398, 0, 279), (389, 389, 212, 212)]
abbrev LL_X12_comes : List Rc := []
def P_X12_comes (σ0 : Nat → Nat → Int32) (τ0 : Nat → Nat → Int64) (a1 : Int32) (r : Int32) (σ : Nat → Nat → Int32) (τ : Nat → Nat → Int64) : Prop := Rg σ ∧ Fr L_X12_comes σ0 σ ∧ FrL LL_X12_comes τ0 τ ∧ (-1 ≤ r.toInt ∧ r.toInt ≤ 1)
set_option maxHeartbeats 4000000 in
theorem c_X12_comes (l : Launch) (D : va_G) (cA : Nat → ClassId) (ad : Nat → Nat) (hI : Inj ad) (σ0 : Nat → Nat → Int32) (τ0 : Nat → Nat → Int64) (hR : Rg σ0) (a1 : Int32)  : Met l yX12_comes wsX12_comes ({ frames := 2, cells := 0, slots := 0, locals := 43 } : Room) (WQc D cA ad [.ref (ad 387), .int a1] σ0 τ0) (va_Qi (fun (r : Int32) (u : SS) => P_X12_comes σ0 τ0 a1 r u.1 u.2) (WB D cA ad) (AA ad)) 0 0 (AA ad) := by
  refine Met.ofW (cc := cX12_comes) (maxL := 2) (ret := (some .int)) (by decide) rfl ?_
  intro p e s m args below meth c s₁ B hml hv
  obtain ⟨rfl, hP, hK, hN⟩ := hv
  have C : Cy p s m _ meth c cX12_comes 2 wsX12_comes RX12 D cA ad (some .int) := ⟨B.exec, B.bytes, hml, findClass_of_methodNamed B.named, atoms_spec (ws := wsX12_comes) B.pre, hK, B.notSynchronized, B.returns, hI, hN⟩
  have hl := lv_entry ([.ref (ad 387), .int a1]) (n := 2) (Nat.le_of_ble_eq_true rfl)
  rw [lg_entry_eq]
  generalize (lg_sl ([.ref (ad 387), .int a1]) ++ List.replicate (2 - (lg_sl ([.ref (ad 387), .int a1])).length) Slot.unset).toArray = ls at hl ⊢
  have hl : lv_has ls 2 [(0, .ref (ad 387)), (1, .int a1)] := hl
  have hS : va_S (AA ad) s.heap s.heap [] := va_S.rf
  have hF : Fr L_X12_comes σ0 σ0 := Fr.rf
  have hFL : FrL LL_X12_comes τ0 τ0 := FrL.rf
  obtain ⟨hx, hb, _, hown, hts, _, hk, hr, _, _⟩ := C
  refine lv_aload_n hx hb dX12_comes_0 rfl (lv_at hl 0 rfl) ?_
  refine r_iconst hx hb dX12_comes_1 (by decide) (fun z1 ez1 => ?_)
  refine fp_12_0 (k := 387) hx hb hts in_X12_comes_12 hown hK hP (by decide) (by decide) (hts _ lk_X12_comes_1) hI hR hS (by omega) dX12_comes_2 (fun σ2 H2 locs2 u2 v2 hR hP hS => ?_)
  have hF := hF.puts u2 0 rfl (by decide) (by decide) (by decide) (by decide)
  refine lv_aload_n hx hb dX12_comes_5 rfl (lv_at hl 0 rfl) ?_
  refine lv_iload_n hx hb dX12_comes_6 rfl (lv_at hl 1 rfl) ?_
  refine r_cVi (k := 387) (As := [.int a1]) (rest := []) ⟨hx, hb, hml, hown, hts⟩ hK hP hN hS (c_X12_isFlight l D cA ad hI σ2 τ0 hR a1) (cwV 1 hts gX12_comes_X12_isFlight rfl rfl rfl (by decide +kernel) ⟨by decide, by decide⟩) (rv_M hK hP (by decide) (by decide)) rfl hl.1 rfl (Nat.le_of_ble_eq_true rfl) dX12_comes_7 (Nat.zero_le _) (Nat.zero_le _) (fun r3 u3 H3 locs3 hp3 hP hS => ?_)
  obtain ⟨σ3, τ3⟩ := u3
  obtain ⟨hR, f3, fL3, hq3, hp3_0, hp3_1⟩ : P_X12_isFlight σ2 τ0 a1 r3 σ3 τ3 := hp3
  have hP : va_P D vwCl (gw cA ad σ3 τ3) H3 := hP
  obtain rfl := FrL.nil fL3
  obtain rfl := Fr.nil f3
  refine r_if_ne (tgt := 15) hx hb dX12_comes_10 (by decide) (fun c4 => ?_) (fun c4 => ?_)
  · replace hp3_0 := hp3_0.resolve_left (by omega)
    refine lv_aload_n hx hb dX12_comes_15 rfl (lv_at hl 0 rfl) ?_
    refine fg_12_6 (k := 387) hx hb hts in_X12_comes_12 hown hK hP (by decide) (by decide) (hts _ lk_X12_comes_33) dX12_comes_16 ?_
    refine r_sipush hx hb dX12_comes_19 (by decide) (fun z5 ez5 => ?_)
    refine ad_ms (k := 389) (j := 212) hx hb hK hP (by decide) (by decide) (by omega) (by omega) dX12_comes_22 ?_
    have hr6 := ra_ms_5 hR (k := 389) (j := 212) (by decide) (by decide) (by decide) (by decide)
    refine r_if_le (tgt := 28) hx hb dX12_comes_23 (by decide) (fun c7 => ?_) (fun c7 => ?_)
    · refine lv_aload_n hx hb dX12_comes_28 rfl (lv_at hl 0 rfl) ?_
      refine r_cVv (k := 387) (As := []) (rest := []) ⟨hx, hb, hml, hown, hts⟩ hK hP hN hS (c_X12_keep l D cA ad hI σ2 τ0 hR) (cwV 0 hts gX12_comes_X12_keep rfl rfl rfl (by decide +kernel) ⟨by decide, by decide⟩) (rv_M hK hP (by decide) (by decide)) rfl hl.1 rfl (Nat.le_of_ble_eq_true rfl) dX12_comes_29 (Nat.zero_le _) (Nat.zero_le _) (fun u8 H8 locs8 hp8 hP hS => ?_)
      obtain ⟨σ8, τ8⟩ := u8
      obtain ⟨hR, f8, fL8, hp8_0⟩ : P_X12_keep σ2 τ0 σ8 τ8 := hp8
      have hP : va_P D vwCl (gw cA ad σ8 τ8) H8 := hP
      obtain rfl := FrL.nil fL8
      have hF := hF.step f8 (by decide)
      refine lv_aload_n hx hb dX12_comes_32 rfl (lv_at hl 0 rfl) ?_
      refine fg_12_6 (k := 387) hx hb hts in_X12_comes_12 hown hK hP (by decide) (by decide) (hts _ lk_X12_comes_33) dX12_comes_33 ?_
      refine r_sipush hx hb dX12_comes_36 (by decide) (fun z9 ez9 => ?_)
      refine lv_iload_n hx hb dX12_comes_39 rfl (lv_at hl 1 rfl) ?_
      refine r_iconst hx hb dX12_comes_40 (by decide) (fun z10 ez10 => ?_)
      refine r_iadd hx hb dX12_comes_41 (by omega) (fun z11 ez11 => ?_)
      refine as_ms (k := 389) (j := 212) hx hb hK hP hI hR hS (by decide) (by decide) (by omega) (by omega) (rw_ms_5 (by decide) (by decide) (by decide) (by decide) (by omega)) dX12_comes_42 (fun σ12 H12 locs12 u12 v12 hR hP hS => ?_)
      have hF := hF.puts u12 3 rfl (by decide) (by decide) (by decide) (by decide)
      have t13 : (σ12 387 29).toInt = (σ8 387 29).toInt := congrArg Int32.toInt (u12 387 29 (by omega))
      refine r_iconst hx hb dX12_comes_43 (by decide) (fun z14 ez14 => ?_)
      exact r_iret hx hb hr hK hP hS hk dX12_comes_44 (show P_X12_comes σ0 τ0 a1 z14 σ12 τ0 from ⟨hR, hF, hFL, by omega⟩)
    · refine r_iconst hx hb dX12_comes_26 (by decide) (fun z15 ez15 => ?_)
      exact r_iret hx hb hr hK hP hS hk dX12_comes_27 (show P_X12_comes σ0 τ0 a1 z15 σ2 τ0 from ⟨hR, hF, hFL, by omega⟩)
  · clear hp3_0
    refine r_iconst hx hb dX12_comes_13 (by decide) (fun z16 ez16 => ?_)
    exact r_iret hx hb hr hK hP hS hk dX12_comes_14 (show P_X12_comes σ0 τ0 a1 z16 σ2 τ0 from ⟨hR, hF, hFL, by omega⟩)
