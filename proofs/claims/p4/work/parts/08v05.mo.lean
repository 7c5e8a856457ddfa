theorem in_X12_honest_12 : ∀ w ∈ u_ws RX12 TX12 47, w ∈ wsX12_honest := by decide +kernel
theorem lk_X12_honest_1 : Cond.fieldLink RX12 1 "CuckooSharesModel" "thrown" "I" ∈ wsX12_honest := by decide +kernel
theorem lk_X12_honest_33 : Cond.fieldLink RX12 33 "CuckooSharesModel" "s" "[I" ∈ wsX12_honest := by decide +kernel
theorem lk_X12_honest_59 : Cond.fieldLink RX12 59 "CuckooSharesModel" "shares" "[I" ∈ wsX12_honest := by decide +kernel
abbrev L_X12_honest : List Rc := [(387, 387, 0, 0), (394, 394, 0, 7), (395, 395, 0, 7), (396, 396, 0, 7), (387, 387, 26, 26), (397, 397, 0, 7)]
abbrev LL_X12_honest : List Rc := []
def P_X12_honest (σ0 : Nat → Nat → Int32) (τ0 : Nat → Nat → Int64) (a1 : Int32) (a2 : Int32) (r : Int32) (σ : Nat → Nat → Int32) (τ : Nat → Nat → Int64) : Prop := Rg σ ∧ Fr L_X12_honest σ0 σ ∧ FrL LL_X12_honest τ0 τ
set_option maxHeartbeats 4000000 in
theorem c_X12_honest (l : Launch) (D : va_G) (cA : Nat → ClassId) (ad : Nat → Nat) (hI : Inj ad) (σ0 : Nat → Nat → Int32) (τ0 : Nat → Nat → Int64) (hR : Rg σ0) (a1 : Int32) (a2 : Int32)  : Met l yX12_honest wsX12_honest ({ frames := 6, cells := 0, slots := 0, locals := 140 } : Room) (WQc D cA ad [.ref (ad 387), .int a1, .int a2] σ0 τ0) (va_Qi (fun (r : Int32) (u : SS) => P_X12_honest σ0 τ0 a1 a2 r u.1 u.2) (WB D cA ad) (AA ad)) 0 0 (AA ad) := by
  refine Met.ofW (cc := cX12_honest) (maxL := 3) (ret := (some .int)) (by decide) rfl ?_
  intro p e s m args below meth c s₁ B hml hv
  obtain ⟨rfl, hP, hK, hN⟩ := hv
  have C : Cy p s m _ meth c cX12_honest 3 wsX12_honest RX12 D cA ad (some .int) := ⟨B.exec, B.bytes, hml, findClass_of_methodNamed B.named, atoms_spec (ws := wsX12_honest) B.pre, hK, B.notSynchronized, B.returns, hI, hN⟩
  have hl := lv_entry ([.ref (ad 387), .int a1, .int a2]) (n := 3) (Nat.le_of_ble_eq_true rfl)
  rw [lg_entry_eq]
  generalize (lg_sl ([.ref (ad 387), .int a1, .int a2]) ++ List.replicate (3 - (lg_sl ([.ref (ad 387), .int a1, .int a2])).length) Slot.unset).toArray = ls at hl ⊢
  have hl : lv_has ls 3 [(0, .ref (ad 387)), (1, .int a1), (2, .int a2)] := hl
  have hS : va_S (AA ad) s.heap s.heap [] := va_S.rf
  have hF : Fr L_X12_honest σ0 σ0 := Fr.rf
  have hFL : FrL LL_X12_honest τ0 τ0 := FrL.rf
  obtain ⟨hx, hb, _, hown, hts, _, hk, hr, _, _⟩ := C
  refine lv_aload_n hx hb dX12_honest_0 rfl (lv_at hl 0 rfl) ?_
  refine r_iconst hx hb dX12_honest_1 (by decide) (fun z1 ez1 => ?_)
  refine fp_12_0 (k := 387) hx hb hts in_X12_honest_12 hown hK hP (by decide) (by decide) (hts _ lk_X12_honest_1) hI hR hS (by omega) dX12_honest_2 (fun σ2 H2 locs2 u2 v2 hR hP hS => ?_)
  have hF := hF.puts u2 0 rfl (by decide) (by decide) (by decide) (by decide)
  refine lv_aload_n hx hb dX12_honest_5 rfl (lv_at hl 0 rfl) ?_
  refine lv_iload_n hx hb dX12_honest_6 rfl (lv_at hl 1 rfl) ?_
  refine r_cVi (k := 387) (As := [.int a1]) (rest := []) ⟨hx, hb, hml, hown, hts⟩ hK hP hN hS (c_X12_isMan l D cA ad hI σ2 τ0 hR a1) (cwV 1 hts gX12_honest_X12_isMan rfl rfl rfl (by decide +kernel) ⟨by decide, by decide⟩) (rv_M hK hP (by decide) (by decide)) rfl hl.1 rfl (Nat.le_of_ble_eq_true rfl) dX12_honest_7 (Nat.zero_le _) (Nat.zero_le _) (fun r3 u3 H3 locs3 hp3 hP hS => ?_)
  obtain ⟨σ3, τ3⟩ := u3
  obtain ⟨hR, f3, fL3, hq3, hp3_0⟩ : P_X12_isMan σ2 τ0 a1 r3 σ3 τ3 := hp3
  have hP : va_P D vwCl (gw cA ad σ3 τ3) H3 := hP
  obtain rfl := FrL.nil fL3
  obtain rfl := Fr.nil f3
  refine r_if_eq (tgt := 21) hx hb dX12_honest_10 (by decide) (fun c4 => ?_) (fun c4 => ?_)
  · clear hp3_0
    refine r_iconst hx hb dX12_honest_21 (by decide) (fun z5 ez5 => ?_)
    exact r_iret hx hb hr hK hP hS hk dX12_honest_22 (show P_X12_honest σ0 τ0 a1 a2 z5 σ2 τ0 from ⟨hR, hF, hFL⟩)
  · replace hp3_0 := hp3_0.resolve_left (by omega)
    refine lv_aload_n hx hb dX12_honest_13 rfl (lv_at hl 0 rfl) ?_
    refine lv_iload_n hx hb dX12_honest_14 rfl (lv_at hl 2 rfl) ?_
    refine r_cVi (k := 387) (As := [.int a2]) (rest := []) ⟨hx, hb, hml, hown, hts⟩ hK hP hN hS (c_X12_isFlight l D cA ad hI σ2 τ0 hR a2) (cwV 1 hts gX12_honest_X12_isFlight rfl rfl rfl (by decide +kernel) ⟨by decide, by decide⟩) (rv_M hK hP (by decide) (by decide)) rfl hl.1 rfl (Nat.le_of_ble_eq_true rfl) dX12_honest_15 (Nat.zero_le _) (Nat.zero_le _) (fun r6 u6 H6 locs6 hp6 hP hS => ?_)
    obtain ⟨σ6, τ6⟩ := u6
    obtain ⟨hR, f6, fL6, hq6, hp6_0⟩ : P_X12_isFlight σ2 τ0 a2 r6 σ6 τ6 := hp6
    have hP : va_P D vwCl (gw cA ad σ6 τ6) H6 := hP
    obtain rfl := FrL.nil fL6
    obtain rfl := Fr.nil f6
    refine r_if_ne (tgt := 23) hx hb dX12_honest_18 (by decide) (fun c7 => ?_) (fun c7 => ?_)
    · replace hp6_0 := hp6_0.resolve_left (by omega)
      refine lv_aload_n hx hb dX12_honest_23 rfl (lv_at hl 0 rfl) ?_
      refine r_cVv (k := 387) (As := []) (rest := []) ⟨hx, hb, hml, hown, hts⟩ hK hP hN hS (c_X12_asNow l D cA ad hI σ2 τ0 hR) (cwV 0 hts gX12_honest_X12_asNow rfl rfl rfl (by decide +kernel) ⟨by decide, by decide⟩) (rv_M hK hP (by decide) (by decide)) rfl hl.1 rfl (Nat.le_of_ble_eq_true rfl) dX12_honest_24 (Nat.zero_le _) (Nat.zero_le _) (fun u8 H8 locs8 hp8 hP hS => ?_)
      obtain ⟨σ8, τ8⟩ := u8
      obtain ⟨hR, f8, fL8⟩ : P_X12_asNow σ2 τ0 σ8 τ8 := hp8
      have hP : va_P D vwCl (gw cA ad σ8 τ8) H8 := hP
      obtain rfl := FrL.nil fL8
      have hF := hF.step f8 (by decide)
      refine lv_aload_n hx hb dX12_honest_27 rfl (lv_at hl 0 rfl) ?_
      refine lv_iload_n hx hb dX12_honest_28 rfl (lv_at hl 2 rfl) ?_
      refine lv_aload_n hx hb dX12_honest_29 rfl (lv_at hl 0 rfl) ?_
      refine fg_12_6 (k := 387) hx hb hts in_X12_honest_12 hown hK hP (by decide) (by decide) (hts _ lk_X12_honest_33) dX12_honest_30 ?_
      refine r_iconst hx hb dX12_honest_33 (by decide) (fun z9 ez9 => ?_)
      refine ad_ms (k := 389) (j := 4) hx hb hK hP (by decide) (by decide) (by omega) (by omega) dX12_honest_34 ?_
      refine r_cVv (k := 387) (As := [.int a2, .int (σ8 389 4)]) (rest := []) ⟨hx, hb, hml, hown, hts⟩ hK hP hN hS (c_X12_sharesBy l D cA ad hI σ8 τ0 hR a2 (σ8 389 4) (by omega)) (cwV 2 hts gX12_honest_X12_sharesBy rfl rfl rfl (by decide +kernel) ⟨by decide, by decide⟩) (rv_M hK hP (by decide) (by decide)) rfl hl.1 rfl (Nat.le_of_ble_eq_true rfl) dX12_honest_35 (Nat.zero_le _) (Nat.zero_le _) (fun u10 H10 locs10 hp10 hP hS => ?_)
      obtain ⟨σ10, τ10⟩ := u10
      obtain ⟨hR, f10, fL10⟩ : P_X12_sharesBy σ8 τ0 a2 (σ8 389 4) σ10 τ10 := hp10
      have hP : va_P D vwCl (gw cA ad σ10 τ10) H10 := hP
      obtain rfl := FrL.nil fL10
      have hF := hF.step f10 (by decide)
      refine lv_aload_n hx hb dX12_honest_38 rfl (lv_at hl 0 rfl) ?_
      refine fg_12_25 (k := 387) hx hb hts in_X12_honest_12 hown hK hP (by decide) (by decide) (hts _ lk_X12_honest_59) dX12_honest_39 ?_
      refine lv_iload_n hx hb dX12_honest_42 rfl (lv_at hl 1 rfl) ?_
      obtain ⟨j11, ej11⟩ : ∃ j : Nat, a1.toInt = (j : Int) := ⟨_, ti_nat (by omega)⟩
      refine ad_mp8 (k := 397) (j := j11) hx hb hK hP (by decide) (by decide) ej11 (by omega) dX12_honest_43 ?_
      exact r_iret hx hb hr hK hP hS hk dX12_honest_44 (show P_X12_honest σ0 τ0 a1 a2 (σ10 397 j11) σ10 τ0 from ⟨hR, hF, hFL⟩)
    · clear hp6_0
      refine r_iconst hx hb dX12_honest_21 (by decide) (fun z12 ez12 => ?_)
      exact r_iret hx hb hr hK hP hS hk dX12_honest_22 (show P_X12_honest σ0 τ0 a1 a2 z12 σ2 τ0 from ⟨hR, hF, hFL⟩)
theorem in_X12_chances_12 : ∀ w ∈ u_ws RX12 TX12 47, w ∈ wsX12_chances := by decide +kernel
theorem lk_X12_chances_33 : Cond.fieldLink RX12 33 "CuckooSharesModel" "s" "[I" ∈ wsX12_chances := by decide +kernel
abbrev L_X12_chances : List Rc := []
abbrev LL_X12_chances : List Rc := []
def P_X12_chances (σ0 : Nat → Nat → Int32) (τ0 : Nat → Nat → Int64)  (r : Int32) (σ : Nat → Nat → Int32) (τ : Nat → Nat → Int64) : Prop := Rg σ ∧ Fr L_X12_chances σ0 σ ∧ FrL LL_X12_chances τ0 τ ∧ (0 ≤ r.toInt ∧ r.toInt ≤ 36) ∧ (r.toInt = PF σ0) ∧ ((σ0 389 2).toInt ≤ 0 ∨ 1 ≤ r.toInt)
def J_X12_chances_4 (p : Program) (l : Launch) (e : Env) (s : State) (m : MethodId) (args : Array Value) (below : List Frame) (meth : Method) (c : Code) (D : va_G) (cA : Nat → ClassId) (ad : Nat → Nat) (σ0 : Nat → Nat → Int32) (τ0 : Nat → Nat → Int64)  (n : Nat) : Prop := ∀ (σ : Nat → Nat → Int32) (τ : Nat → Nat → Int64) (H : Heap) (locs : List Loc) (x1 : Int32) (x2 : Int32) (ls : Array Slot), Rg σ → Fr L_X12_chances σ0 σ → FrL LL_X12_chances τ0 τ → va_P D vwCl (gw cA ad σ τ) H → va_S (AA ad) s.heap H locs → (0 ≤ x1.toInt ∧ x1.toInt ≤ 36) → (0 ≤ x2.toInt ∧ x2.toInt ≤ 4) → (x1.toInt = PSm σ0 x2.toInt.toNat) → (0 ≤ x1.toInt ∧ x1.toInt ≤ 9 * x2.toInt) → (x2.toInt = 0 ∨ 1 ≤ x1.toInt) → (x2.toInt ≤ (σ0 389 2).toInt) → (SI σ) → lv_has ls 3 [(0, .ref (ad 387)), (1, .int x1), (2, .int x2)] → 2 * (4 - x2.toInt) + 1 < (n : Int) → W p l e ({ frames := 0, cells := 0, slots := 0, locals := 0 } : Room) s m args below meth c H locs 0 0 (MQ below (va_Qi (fun (r : Int32) (u : SS) => P_X12_chances σ0 τ0 r u.1 u.2) (WB D cA ad) (AA ad)) args s 0 0 (AA ad)) (F0 m 4 ls [])
set_option maxHeartbeats 4000000 in
theorem B_X12_chances_4 (p : Program) (l : Launch) (e : Env) (s : State) (m : MethodId) (args : Array Value) (below : List Frame) (meth : Method) (c : Code) (D : va_G) (cA : Nat → ClassId) (ad : Nat → Nat) (σ0 : Nat → Nat → Int32) (τ0 : Nat → Nat → Int64)  (n : Nat) (C : Cy p s m args meth c cX12_chances 3 wsX12_chances RX12 D cA ad (some .int)) (gSI0 : SI σ0) (K4 : J_X12_chances_4 p l e s m args below meth c D cA ad σ0 τ0 n) : J_X12_chances_4 p l e s m args below meth c D cA ad σ0 τ0 (n + 1) := by
  obtain ⟨hx, hb, hml, hown, hts, hK, hk, hr, hI, hN⟩ := C
  intro σ τ H locs x1 x2 ls hR hF hFL hP hS hc0 hc1 hi0 hi1 hi2 hi3 gSI hl hm
  obtain rfl := Fr.nil hF
  obtain rfl := FrL.nil hFL
  refine lv_iload_n hx hb dX12_chances_4 rfl (lv_at hl 2 rfl) ?_
  refine lv_aload_n hx hb dX12_chances_5 rfl (lv_at hl 0 rfl) ?_
  refine fg_12_6 (k := 387) hx hb hts in_X12_chances_12 hown hK hP (by decide) (by decide) (hts _ lk_X12_chances_33) dX12_chances_6 ?_
  refine r_iconst hx hb dX12_chances_9 (by decide) (fun z1 ez1 => ?_)
  refine ad_ms (k := 389) (j := 2) hx hb hK hP (by decide) (by decide) (by omega) (by omega) dX12_chances_10 ?_
  have hr2 := ra_ms_1 hR (k := 389) (j := 2) (by decide) (by decide) (by decide) (by decide)
  refine r_icmp_ge (tgt := 32) hx hb dX12_chances_11 (by decide) (fun c3 => ?_) (fun c3 => ?_)
  · refine lv_iload_n hx hb dX12_chances_32 rfl (lv_at hl 1 rfl) ?_
    exact r_iret hx hb hr hK hP hS hk dX12_chances_33 (show P_X12_chances σ0 τ0 x1 σ0 τ0 from ⟨hR, hF, hFL, by omega, by have e : x2.toInt = (σ0 389 2).toInt := (by omega); rw [e] at hi0; exact hi0, by omega⟩)
  · refine lv_iload_n hx hb dX12_chances_14 rfl (lv_at hl 1 rfl) ?_
    refine lv_aload_n hx hb dX12_chances_15 rfl (lv_at hl 0 rfl) ?_
    refine fg_12_6 (k := 387) hx hb hts in_X12_chances_12 hown hK hP (by decide) (by decide) (hts _ lk_X12_chances_33) dX12_chances_16 ?_
    refine r_bipush hx hb dX12_chances_19 (by decide) (fun z4 ez4 => ?_)
    refine lv_iload_n hx hb dX12_chances_21 rfl (lv_at hl 2 rfl) ?_
    refine r_iadd hx hb dX12_chances_22 (by omega) (fun z5 ez5 => ?_)
    obtain ⟨j6, ej6⟩ : ∃ j : Nat, z5.toInt = (j : Int) := ⟨_, ti_nat (by omega)⟩
    refine ad_ms (k := 389) (j := j6) hx hb hK hP (by decide) (by decide) ej6 (by omega) dX12_chances_23 ?_
    have hz := gSI.ch (x := x2) (j := j6) (by omega) (by omega) (by omega)
    refine r_iadd hx hb dX12_chances_24 (by omega) (fun z7 ez7 => ?_)
    refine lv_istore_n (lv' := [(1, .int z7), (0, .ref (ad 387)), (2, .int x2)]) hx hb dX12_chances_25 rfl hl (by decide) rfl (fun ls hl => ?_)
    refine r_iinc (k := 2) (lv1 := fun z8 => [(2, .int z8), (1, .int z7), (0, .ref (ad 387))]) hx hb dX12_chances_26 hl rfl (by decide) (fun _ => rfl) (by decide) (by omega) (fun z8 ls ez8 hl => ?_)
    refine lv_goto (tgt := 4) hx hb dX12_chances_29 (by decide) ?_
    have hrq := ra_ms_1 hR (k := 389) (j := 2) (by decide) (by decide) (by decide) (by decide)
    exact K4 σ0 τ0 H locs z7 z8 ls hR hF hFL hP hS (by omega) (by omega) (by first | (have e1 : z8.toInt.toNat = (x2.toInt + 1).toNat := (by omega); rw [e1]; omega) | (have e0 : z8.toInt.toNat = 0 := (by omega); rw [e0]; show z7.toInt = 0; omega)) (by omega) (by omega) (by omega) gSI (lv_sub hl [2, 1, 0] rfl) (by omega)
theorem A_X12_chances (p : Program) (l : Launch) (e : Env) (s : State) (m : MethodId) (args : Array Value) (below : List Frame) (meth : Method) (c : Code) (D : va_G) (cA : Nat → ClassId) (ad : Nat → Nat) (σ0 : Nat → Nat → Int32) (τ0 : Nat → Nat → Int64)  (C : Cy p s m args meth c cX12_chances 3 wsX12_chances RX12 D cA ad (some .int)) (gSI0 : SI σ0) : ∀ n : Nat, J_X12_chances_4 p l e s m args below meth c D cA ad σ0 τ0 n := by
  intro n
  induction n with
  | zero =>
    exact (by intro σ τ H locs x1 x2 ls hR hF hFL hP hS hc0 hc1 hi0 hi1 hi2 hi3 gSI hl hm; exfalso; omega)
  | succ n ih =>
    exact B_X12_chances_4 p l e s m args below meth c D cA ad σ0 τ0 n C gSI0 ih
set_option maxHeartbeats 4000000 in
theorem c_X12_chances (l : Launch) (D : va_G) (cA : Nat → ClassId) (ad : Nat → Nat) (hI : Inj ad) (σ0 : Nat → Nat → Int32) (τ0 : Nat → Nat → Int64) (hR : Rg σ0)  (gSI0 : SI σ0) : Met l yX12_chances wsX12_chances ({ frames := 0, cells := 0, slots := 0, locals := 0 } : Room) (WQc D cA ad [.ref (ad 387)] σ0 τ0) (va_Qi (fun (r : Int32) (u : SS) => P_X12_chances σ0 τ0 r u.1 u.2) (WB D cA ad) (AA ad)) 0 0 (AA ad) := by
  refine Met.ofW (cc := cX12_chances) (maxL := 3) (ret := (some .int)) (by decide) rfl ?_
  intro p e s m args below meth c s₁ B hml hv
  obtain ⟨rfl, hP, hK, hN⟩ := hv
  have C : Cy p s m _ meth c cX12_chances 3 wsX12_chances RX12 D cA ad (some .int) := ⟨B.exec, B.bytes, hml, findClass_of_methodNamed B.named, atoms_spec (ws := wsX12_chances) B.pre, hK, B.notSynchronized, B.returns, hI, hN⟩
  have hl := lv_entry ([.ref (ad 387)]) (n := 3) (Nat.le_of_ble_eq_true rfl)
  rw [lg_entry_eq]
  generalize (lg_sl ([.ref (ad 387)]) ++ List.replicate (3 - (lg_sl ([.ref (ad 387)])).length) Slot.unset).toArray = ls at hl ⊢
  have hl : lv_has ls 3 [(0, .ref (ad 387))] := hl
  have hS : va_S (AA ad) s.heap s.heap [] := va_S.rf
  have hF : Fr L_X12_chances σ0 σ0 := Fr.rf
  have hFL : FrL LL_X12_chances τ0 τ0 := FrL.rf
  have gSI := gSI0
  have hA := A_X12_chances p l e s m _ below meth c D cA ad σ0 τ0 C gSI0 26
  have K4 := hA
  clear hA
  obtain ⟨hx, hb, _, hown, hts, _, hk, hr, _, _⟩ := C
  refine r_iconst hx hb dX12_chances_0 (by decide) (fun z1 ez1 => ?_)
  refine lv_istore_n (lv' := [(1, .int z1), (0, .ref (ad 387))]) hx hb dX12_chances_1 rfl hl (by decide) rfl (fun ls hl => ?_)
  refine r_iconst hx hb dX12_chances_2 (by decide) (fun z2 ez2 => ?_)
  refine lv_istore_n (lv' := [(2, .int z2), (1, .int z1), (0, .ref (ad 387))]) hx hb dX12_chances_3 rfl hl (by decide) rfl (fun ls hl => ?_)
  have hrq := ra_ms_1 hR (k := 389) (j := 2) (by decide) (by decide) (by decide) (by decide)
  exact K4 σ0 τ0 s.heap [] z1 z2 ls hR hF hFL hP hS (by omega) (by omega) (by first | (have e1 : z2.toInt.toNat = (x2.toInt + 1).toNat := (by omega); rw [e1]; omega) | (have e0 : z2.toInt.toNat = 0 := (by omega); rw [e0]; show z1.toInt = 0; omega)) (by omega) (by omega) (by omega) gSI (lv_sub hl [2, 1, 0] rfl) (by omega)
theorem in_X12_meanOf_12 : ∀ w ∈ u_ws RX12 TX12 47, w ∈ wsX12_meanOf := by decide +kernel
theorem lk_X12_meanOf_33 : Cond.fieldLink RX12 33 "CuckooSharesModel" "s" "[I" ∈ wsX12_meanOf := by decide +kernel
theorem lk_X12_meanOf_59 : Cond.fieldLink RX12 59 "CuckooSharesModel" "shares" "[I" ∈ wsX12_meanOf := by decide +kernel
abbrev L_X12_meanOf : List Rc := [(387, 387, 26, 26), (397, 397, 0, 7)]
abbrev LL_X12_meanOf : List Rc := []
def P_X12_meanOf (σ0 : Nat → Nat → Int32) (τ0 : Nat → Nat → Int64) (a1 : Int32) (r : Int32) (σ : Nat → Nat → Int32) (τ : Nat → Nat → Int64) : Prop := Rg σ ∧ Fr L_X12_meanOf σ0 σ ∧ FrL LL_X12_meanOf τ0 τ
def J_X12_meanOf_4 (p : Program) (l : Launch) (e : Env) (s : State) (m : MethodId) (args : Array Value) (below : List Frame) (meth : Method) (c : Code) (D : va_G) (cA : Nat → ClassId) (ad : Nat → Nat) (σ0 : Nat → Nat → Int32) (τ0 : Nat → Nat → Int64) (a1 : Int32) (n : Nat) : Prop := ∀ (σ : Nat → Nat → Int32) (τ : Nat → Nat → Int64) (H : Heap) (locs : List Loc) (x2 : Int32) (x3 : Int32) (ls : Array Slot), Rg σ → Fr L_X12_meanOf σ0 σ → FrL LL_X12_meanOf τ0 τ → va_P D vwCl (gw cA ad σ τ) H → va_S (AA ad) s.heap H locs → (0 ≤ x3.toInt ∧ x3.toInt ≤ 4) → lv_has ls 4 [(0, .ref (ad 387)), (1, .int a1), (2, .int x2), (3, .int x3)] → 2 * (4 - x3.toInt) + 1 < (n : Int) → W p l e ({ frames := 6, cells := 0, slots := 0, locals := 140 } : Room) s m args below meth c H locs 0 0 (MQ below (va_Qi (fun (r : Int32) (u : SS) => P_X12_meanOf σ0 τ0 a1 r u.1 u.2) (WB D cA ad) (AA ad)) args s 0 0 (AA ad)) (F0 m 4 ls [])
set_option maxHeartbeats 4000000 in
theorem B_X12_meanOf_4 (p : Program) (l : Launch) (e : Env) (s : State) (m : MethodId) (args : Array Value) (below : List Frame) (meth : Method) (c : Code) (D : va_G) (cA : Nat → ClassId) (ad : Nat → Nat) (σ0 : Nat → Nat → Int32) (τ0 : Nat → Nat → Int64) (a1 : Int32) (n : Nat) (C : Cy p s m args meth c cX12_meanOf 4 wsX12_meanOf RX12 D cA ad (some .int)) (ha1 : 0 ≤ a1.toInt ∧ a1.toInt ≤ 7) (K4 : J_X12_meanOf_4 p l e s m args below meth c D cA ad σ0 τ0 a1 n) : J_X12_meanOf_4 p l e s m args below meth c D cA ad σ0 τ0 a1 (n + 1) := by
  obtain ⟨hx, hb, hml, hown, hts, hK, hk, hr, hI, hN⟩ := C
  intro σ τ H locs x2 x3 ls hR hF hFL hP hS hc0 hl hm
  obtain rfl := FrL.nil hFL
  refine lv_iload_n hx hb dX12_meanOf_4 rfl (lv_at hl 3 rfl) ?_
  refine lv_aload_n hx hb dX12_meanOf_5 rfl (lv_at hl 0 rfl) ?_
  refine fg_12_6 (k := 387) hx hb hts in_X12_meanOf_12 hown hK hP (by decide) (by decide) (hts _ lk_X12_meanOf_33) dX12_meanOf_6 ?_
  refine r_iconst hx hb dX12_meanOf_9 (by decide) (fun z1 ez1 => ?_)
  refine ad_ms (k := 389) (j := 2) hx hb hK hP (by decide) (by decide) (by omega) (by omega) dX12_meanOf_10 ?_
  have hr2 := ra_ms_1 hR (k := 389) (j := 2) (by decide) (by decide) (by decide) (by decide)
  refine r_icmp_ge (tgt := 50) hx hb dX12_meanOf_11 (by decide) (fun c3 => ?_) (fun c3 => ?_)
  · refine lv_iload_n hx hb dX12_meanOf_50 rfl (lv_at hl 2 rfl) ?_
    exact r_iret hx hb hr hK hP hS hk dX12_meanOf_51 (show P_X12_meanOf σ0 τ0 a1 x2 σ τ0 from ⟨hR, hF, hFL⟩)
  · refine lv_aload_n hx hb dX12_meanOf_14 rfl (lv_at hl 0 rfl) ?_
    refine lv_iload_n hx hb dX12_meanOf_15 rfl (lv_at hl 3 rfl) ?_
    refine lv_aload_n hx hb dX12_meanOf_16 rfl (lv_at hl 0 rfl) ?_
    refine fg_12_6 (k := 387) hx hb hts in_X12_meanOf_12 hown hK hP (by decide) (by decide) (hts _ lk_X12_meanOf_33) dX12_meanOf_17 ?_
    refine r_iconst hx hb dX12_meanOf_20 (by decide) (fun z4 ez4 => ?_)
    refine ad_ms (k := 389) (j := 4) hx hb hK hP (by decide) (by decide) (by omega) (by omega) dX12_meanOf_21 ?_
    refine r_cVv (k := 387) (As := [.int x3, .int (σ 389 4)]) (rest := []) ⟨hx, hb, hml, hown, hts⟩ hK hP hN hS (c_X12_sharesBy l D cA ad hI σ τ0 hR x3 (σ 389 4) (by omega)) (cwV 2 hts gX12_meanOf_X12_sharesBy rfl rfl rfl (by decide +kernel) ⟨by decide, by decide⟩) (rv_M hK hP (by decide) (by decide)) rfl hl.1 rfl (Nat.le_of_ble_eq_true rfl) dX12_meanOf_22 (Nat.zero_le _) (Nat.zero_le _) (fun u5 H5 locs5 hp5 hP hS => ?_)
    obtain ⟨σ5, τ5⟩ := u5
    obtain ⟨hR, f5, fL5⟩ : P_X12_sharesBy σ τ0 x3 (σ 389 4) σ5 τ5 := hp5
    have hP : va_P D vwCl (gw cA ad σ5 τ5) H5 := hP
    obtain rfl := FrL.nil fL5
    have hF := hF.step f5 (by decide)
    refine lv_iload_n hx hb dX12_meanOf_25 rfl (lv_at hl 2 rfl) ?_
    refine lv_aload_n hx hb dX12_meanOf_26 rfl (lv_at hl 0 rfl) ?_
    refine fg_12_6 (k := 387) hx hb hts in_X12_meanOf_12 hown hK hP (by decide) (by decide) (hts _ lk_X12_meanOf_33) dX12_meanOf_27 ?_
    refine r_bipush hx hb dX12_meanOf_30 (by decide) (fun z6 ez6 => ?_)
    refine lv_iload_n hx hb dX12_meanOf_32 rfl (lv_at hl 3 rfl) ?_
    refine r_iadd hx hb dX12_meanOf_33 (by omega) (fun z7 ez7 => ?_)
    obtain ⟨j8, ej8⟩ : ∃ j : Nat, z7.toInt = (j : Int) := ⟨_, ti_nat (by omega)⟩
    refine ad_ms (k := 389) (j := j8) hx hb hK hP (by decide) (by decide) ej8 (by omega) dX12_meanOf_34 ?_
    refine lv_aload_n hx hb dX12_meanOf_35 rfl (lv_at hl 0 rfl) ?_
    refine fg_12_25 (k := 387) hx hb hts in_X12_meanOf_12 hown hK hP (by decide) (by decide) (hts _ lk_X12_meanOf_59) dX12_meanOf_36 ?_
    refine lv_iload_n hx hb dX12_meanOf_39 rfl (lv_at hl 1 rfl) ?_
    obtain ⟨j9, ej9⟩ : ∃ j : Nat, a1.toInt = (j : Int) := ⟨_, ti_nat (by omega)⟩
    refine ad_mp8 (k := 397) (j := j9) hx hb hK hP (by decide) (by decide) ej9 (by omega) dX12_meanOf_40 ?_
    refine r_imulU hx hb dX12_meanOf_41 (fun z10 => ?_)
    refine r_iaddU hx hb dX12_meanOf_42 (fun z11 => ?_)
    refine lv_istore_n (lv' := [(2, .int z11), (0, .ref (ad 387)), (1, .int a1), (3, .int x3)]) hx hb dX12_meanOf_43 rfl hl (by decide) rfl (fun ls hl => ?_)
    refine r_iinc (k := 3) (lv1 := fun z12 => [(3, .int z12), (2, .int z11), (0, .ref (ad 387)), (1, .int a1)]) hx hb dX12_meanOf_44 hl rfl (by decide) (fun _ => rfl) (by decide) (by omega) (fun z12 ls ez12 hl => ?_)
    refine lv_goto (tgt := 4) hx hb dX12_meanOf_47 (by decide) ?_
    exact K4 σ5 τ0 H5 locs5 z11 z12 ls hR hF hFL hP hS (by omega) (lv_sub hl [2, 3, 1, 0] rfl) (by omega)
theorem A_X12_meanOf (p : Program) (l : Launch) (e : Env) (s : State) (m : MethodId) (args : Array Value) (below : List Frame) (meth : Method) (c : Code) (D : va_G) (cA : Nat → ClassId) (ad : Nat → Nat) (σ0 : Nat → Nat → Int32) (τ0 : Nat → Nat → Int64) (a1 : Int32) (C : Cy p s m args meth c cX12_meanOf 4 wsX12_meanOf RX12 D cA ad (some .int)) (ha1 : 0 ≤ a1.toInt ∧ a1.toInt ≤ 7) : ∀ n : Nat, J_X12_meanOf_4 p l e s m args below meth c D cA ad σ0 τ0 a1 n := by
  intro n
  induction n with
  | zero =>
    exact (by intro σ τ H locs x2 x3 ls hR hF hFL hP hS hc0 hl hm; exfalso; omega)
  | succ n ih =>
    exact B_X12_meanOf_4 p l e s m args below meth c D cA ad σ0 τ0 a1 n C ha1 ih
set_option maxHeartbeats 4000000 in
theorem c_X12_meanOf (l : Launch) (D : va_G) (cA : Nat → ClassId) (ad : Nat → Nat) (hI : Inj ad) (σ0 : Nat → Nat → Int32) (τ0 : Nat → Nat → Int64) (hR : Rg σ0) (a1 : Int32) (ha1 : 0 ≤ a1.toInt ∧ a1.toInt ≤ 7) : Met l yX12_meanOf wsX12_meanOf ({ frames := 6, cells := 0, slots := 0, locals := 140 } : Room) (WQc D cA ad [.ref (ad 387), .int a1] σ0 τ0) (va_Qi (fun (r : Int32) (u : SS) => P_X12_meanOf σ0 τ0 a1 r u.1 u.2) (WB D cA ad) (AA ad)) 0 0 (AA ad) := by
  refine Met.ofW (cc := cX12_meanOf) (maxL := 4) (ret := (some .int)) (by decide) rfl ?_
  intro p e s m args below meth c s₁ B hml hv
  obtain ⟨rfl, hP, hK, hN⟩ := hv
  have C : Cy p s m _ meth c cX12_meanOf 4 wsX12_meanOf RX12 D cA ad (some .int) := ⟨B.exec, B.bytes, hml, findClass_of_methodNamed B.named, atoms_spec (ws := wsX12_meanOf) B.pre, hK, B.notSynchronized, B.returns, hI, hN⟩
  have hl := lv_entry ([.ref (ad 387), .int a1]) (n := 4) (Nat.le_of_ble_eq_true rfl)
  rw [lg_entry_eq]
  generalize (lg_sl ([.ref (ad 387), .int a1]) ++ List.replicate (4 - (lg_sl ([.ref (ad 387), .int a1])).length) Slot.unset).toArray = ls at hl ⊢
  have hl : lv_has ls 4 [(0, .ref (ad 387)), (1, .int a1)] := hl
  have hS : va_S (AA ad) s.heap s.heap [] := va_S.rf
  have hF : Fr L_X12_meanOf σ0 σ0 := Fr.rf
  have hFL : FrL LL_X12_meanOf τ0 τ0 := FrL.rf
  have hA := A_X12_meanOf p l e s m _ below meth c D cA ad σ0 τ0 a1 C ha1 26
  have K4 := hA
  clear hA
  obtain ⟨hx, hb, _, hown, hts, _, hk, hr, _, _⟩ := C
  refine r_iconst hx hb dX12_meanOf_0 (by decide) (fun z1 ez1 => ?_)
  refine lv_istore_n (lv' := [(2, .int z1), (0, .ref (ad 387)), (1, .int a1)]) hx hb dX12_meanOf_1 rfl hl (by decide) rfl (fun ls hl => ?_)
  refine r_iconst hx hb dX12_meanOf_2 (by decide) (fun z2 ez2 => ?_)
  refine lv_istore_n (lv' := [(3, .int z2), (2, .int z1), (0, .ref (ad 387)), (1, .int a1)]) hx hb dX12_meanOf_3 rfl hl (by decide) rfl (fun ls hl => ?_)
  exact K4 σ0 τ0 s.heap [] z1 z2 ls hR hF hFL hP hS (by omega) (lv_sub hl [2, 3, 1, 0] rfl) (by omega)
abbrev L_X12_part : List Rc := []
abbrev LL_X12_part : List Rc := []
def P_X12_part (σ0 : Nat → Nat → Int32) (τ0 : Nat → Nat → Int64) (a0 : Int32) (a1 : Int32) (a2 : Int32) (r : Int32) (σ : Nat → Nat → Int32) (τ : Nat → Nat → Int64) : Prop := Rg σ ∧ Fr L_X12_part σ0 σ ∧ FrL LL_X12_part τ0 τ
def J_X12_part_5 (p : Program) (l : Launch) (e : Env) (s : State) (m : MethodId) (args : Array Value) (below : List Frame) (meth : Method) (c : Code) (D : va_G) (cA : Nat → ClassId) (ad : Nat → Nat) (σ0 : Nat → Nat → Int32) (τ0 : Nat → Nat → Int64) (a0 : Int32) (a1 : Int32) (a2 : Int32) (n : Nat) : Prop := ∀ (σ : Nat → Nat → Int32) (τ : Nat → Nat → Int64) (H : Heap) (locs : List Loc) (x3 : Int32) (x4 : Int32) (ls : Array Slot), Rg σ → Fr L_X12_part σ0 σ → FrL LL_X12_part τ0 τ → va_P D vwCl (gw cA ad σ τ) H → va_S (AA ad) s.heap H locs → (x4.toInt ≠ 0 ∨ x3.toInt ≠ 0) → lv_has ls 6 [(0, .int a0), (1, .int a1), (2, .int a2), (3, .int x3), (4, .int x4)] → 2 * (x4.toInt.natAbs : Int) + 1 < (n : Int) → W p l e ({ frames := 0, cells := 0, slots := 0, locals := 0 } : Room) s m args below meth c H locs 0 0 (MQ below (va_Qi (fun (r : Int32) (u : SS) => P_X12_part σ0 τ0 a0 a1 a2 r u.1 u.2) (WB D cA ad) (AA ad)) args s 0 0 (AA ad)) (F0 m 5 ls [])
set_option maxHeartbeats 4000000 in
theorem B_X12_part_5 (p : Program) (l : Launch) (e : Env) (s : State) (m : MethodId) (args : Array Value) (below : List Frame) (meth : Method) (c : Code) (D : va_G) (cA : Nat → ClassId) (ad : Nat → Nat) (σ0 : Nat → Nat → Int32) (τ0 : Nat → Nat → Int64) (a0 : Int32) (a1 : Int32) (a2 : Int32) (n : Nat) (C : Cy p s m args meth c cX12_part 6 wsX12_part RX12 D cA ad (some .int)) (ha2 : 0 ≤ a2.toInt ∧ a2.toInt ≤ 1) (hpre0 : a1.toInt ≠ 0) (K5 : J_X12_part_5 p l e s m args below meth c D cA ad σ0 τ0 a0 a1 a2 n) : J_X12_part_5 p l e s m args below meth c D cA ad σ0 τ0 a0 a1 a2 (n + 1) := by
  obtain ⟨hx, hb, hml, hown, hts, hK, hk, hr, hI, hN⟩ := C
  intro σ τ H locs x3 x4 ls hR hF hFL hP hS hi0 hl hm
  obtain rfl := Fr.nil hF
  obtain rfl := FrL.nil hFL
  refine lv_iload hx hb dX12_part_5 (lv_at hl 4 rfl) ?_
  refine r_if_eq (tgt := 26) hx hb dX12_part_7 (by decide) (fun c1 => ?_) (fun c1 => ?_)
  · refine lv_iload_n hx hb dX12_part_26 rfl (lv_at hl 2 rfl) ?_
    refine r_if_ne (tgt := 34) hx hb dX12_part_27 (by decide) (fun c2 => ?_) (fun c2 => ?_)
    · refine lv_iload_n hx hb dX12_part_34 rfl (lv_at hl 1 rfl) ?_
      refine lv_iload_n hx hb dX12_part_35 rfl (lv_at hl 3 rfl) ?_
      refine r_idiv hx hb dX12_part_36 (by omega) (fun z3 => ?_)
      exact r_iret hx hb hr hK hP hS hk dX12_part_37 (show P_X12_part σ0 τ0 a0 a1 a2 z3 σ0 τ0 from ⟨hR, hF, hFL⟩)
    · refine lv_iload_n hx hb dX12_part_30 rfl (lv_at hl 0 rfl) ?_
      refine lv_goto (tgt := 35) hx hb dX12_part_31 (by decide) ?_
      refine lv_iload_n hx hb dX12_part_35 rfl (lv_at hl 3 rfl) ?_
      refine r_idiv hx hb dX12_part_36 (by omega) (fun z4 => ?_)
      exact r_iret hx hb hr hK hP hS hk dX12_part_37 (show P_X12_part σ0 τ0 a0 a1 a2 z4 σ0 τ0 from ⟨hR, hF, hFL⟩)
  · refine lv_iload_n hx hb dX12_part_10 rfl (lv_at hl 3 rfl) ?_
    refine lv_iload hx hb dX12_part_11 (lv_at hl 4 rfl) ?_
    refine r_irem hx hb dX12_part_13 (by omega) (fun z5 ez5 => ?_)
    have gaz5 := ti_tmA (a := x3.toInt) (b := x4.toInt) (by omega)
    refine lv_istore (lv' := [(5, .int z5), (0, .int a0), (1, .int a1), (2, .int a2), (3, .int x3), (4, .int x4)]) hx hb dX12_part_14 hl (by decide) rfl (fun ls hl => ?_)
    refine lv_iload hx hb dX12_part_16 (lv_at hl 5 rfl) ?_
    refine lv_istore_n (lv' := [(3, .int x4), (5, .int z5), (0, .int a0), (1, .int a1), (2, .int a2), (4, .int x4)]) hx hb dX12_part_18 rfl hl (by decide) rfl (fun ls hl => ?_)
    refine lv_iload hx hb dX12_part_19 (lv_at hl 1 rfl) ?_
    refine lv_istore (lv' := [(4, .int z5), (3, .int x4), (5, .int z5), (0, .int a0), (1, .int a1), (2, .int a2)]) hx hb dX12_part_21 hl (by decide) rfl (fun ls hl => ?_)
    refine lv_goto (tgt := 5) hx hb dX12_part_23 (by decide) ?_
    exact K5 σ0 τ0 H locs x4 z5 ls hR hF hFL hP hS (by omega) (lv_sub hl [3, 4, 5, 1, 0] rfl) (by omega)
theorem A_X12_part (p : Program) (l : Launch) (e : Env) (s : State) (m : MethodId) (args : Array Value) (below : List Frame) (meth : Method) (c : Code) (D : va_G) (cA : Nat → ClassId) (ad : Nat → Nat) (σ0 : Nat → Nat → Int32) (τ0 : Nat → Nat → Int64) (a0 : Int32) (a1 : Int32) (a2 : Int32) (C : Cy p s m args meth c cX12_part 6 wsX12_part RX12 D cA ad (some .int)) (ha2 : 0 ≤ a2.toInt ∧ a2.toInt ≤ 1) (hpre0 : a1.toInt ≠ 0) : ∀ n : Nat, J_X12_part_5 p l e s m args below meth c D cA ad σ0 τ0 a0 a1 a2 n := by
  intro n
  induction n with
  | zero =>
    exact (by intro σ τ H locs x3 x4 ls hR hF hFL hP hS hi0 hl hm; exfalso; omega)
  | succ n ih =>
    exact B_X12_part_5 p l e s m args below meth c D cA ad σ0 τ0 a0 a1 a2 n C ha2 hpre0 ih
set_option maxHeartbeats 4000000 in
theorem c_X12_part (l : Launch) (D : va_G) (cA : Nat → ClassId) (ad : Nat → Nat) (hI : Inj ad) (σ0 : Nat → Nat → Int32) (τ0 : Nat → Nat → Int64) (hR : Rg σ0) (a0 : Int32) (a1 : Int32) (a2 : Int32) (ha2 : 0 ≤ a2.toInt ∧ a2.toInt ≤ 1) (hpre0 : a1.toInt ≠ 0) : Met l yX12_part wsX12_part ({ frames := 0, cells := 0, slots := 0, locals := 0 } : Room) (WQc D cA ad [.int a0, .int a1, .int a2] σ0 τ0) (va_Qi (fun (r : Int32) (u : SS) => P_X12_part σ0 τ0 a0 a1 a2 r u.1 u.2) (WB D cA ad) (AA ad)) 0 0 (AA ad) := by
  refine Met.ofW (cc := cX12_part) (maxL := 6) (ret := (some .int)) (by decide) rfl ?_
  intro p e s m args below meth c s₁ B hml hv
  obtain ⟨rfl, hP, hK, hN⟩ := hv
  have C : Cy p s m _ meth c cX12_part 6 wsX12_part RX12 D cA ad (some .int) := ⟨B.exec, B.bytes, hml, findClass_of_methodNamed B.named, atoms_spec (ws := wsX12_part) B.pre, hK, B.notSynchronized, B.returns, hI, hN⟩
  have hl := lv_entry ([.int a0, .int a1, .int a2]) (n := 6) (Nat.le_of_ble_eq_true rfl)
  rw [lg_entry_eq]
  generalize (lg_sl ([.int a0, .int a1, .int a2]) ++ List.replicate (6 - (lg_sl ([.int a0, .int a1, .int a2])).length) Slot.unset).toArray = ls at hl ⊢
  have hl : lv_has ls 6 [(0, .int a0), (1, .int a1), (2, .int a2)] := hl
  have hS : va_S (AA ad) s.heap s.heap [] := va_S.rf
  have hF : Fr L_X12_part σ0 σ0 := Fr.rf
  have hFL : FrL LL_X12_part τ0 τ0 := FrL.rf
  have hA := A_X12_part p l e s m _ below meth c D cA ad σ0 τ0 a0 a1 a2 C ha2 hpre0 8589934602
  have K5 := hA
  clear hA
  obtain ⟨hx, hb, _, hown, hts, _, hk, hr, _, _⟩ := C
  have ba1 := And.intro (ti_lo a1) (ti_hi a1)
  refine lv_iload_n hx hb dX12_part_0 rfl (lv_at hl 0 rfl) ?_
  refine lv_istore_n (lv' := [(3, .int a0), (0, .int a0), (1, .int a1), (2, .int a2)]) hx hb dX12_part_1 rfl hl (by decide) rfl (fun ls hl => ?_)
  refine lv_iload_n hx hb dX12_part_2 rfl (lv_at hl 2 rfl) ?_
  refine lv_istore (lv' := [(4, .int a1), (3, .int a0), (0, .int a0), (1, .int a1), (2, .int a2)]) hx hb dX12_part_3 hl (by decide) rfl (fun ls hl => ?_)
  exact K5 σ0 τ0 s.heap [] a0 a1 ls hR hF hFL hP hS (by omega) (lv_sub hl [2, 3, 4, 1, 0] rfl) (by omega)
theorem in_X12_mean_12 : ∀ w ∈ u_ws RX12 TX12 47, w ∈ wsX12_mean := by decide +kernel
theorem lk_X12_mean_33 : Cond.fieldLink RX12 33 "CuckooSharesModel" "s" "[I" ∈ wsX12_mean := by decide +kernel
abbrev L_X12_mean : List Rc := [(387, 387, 0, 0), (394, 394, 0, 7), (395, 395, 0, 7), (396, 396, 0, 7), (387, 387, 26, 26), (397, 397, 0, 7)]
abbrev LL_X12_mean : List Rc := []
def P_X12_mean (σ0 : Nat → Nat → Int32) (τ0 : Nat → Nat → Int64) (a1 : Int32) (a2 : Int32) (r : Int32) (σ : Nat → Nat → Int32) (τ : Nat → Nat → Int64) : Prop := Rg σ ∧ Fr L_X12_mean σ0 σ ∧ FrL LL_X12_mean τ0 τ
set_option maxHeartbeats 4000000 in
theorem c_X12_mean (l : Launch) (D : va_G) (cA : Nat → ClassId) (ad : Nat → Nat) (hI : Inj ad) (σ0 : Nat → Nat → Int32) (τ0 : Nat → Nat → Int64) (hR : Rg σ0) (a1 : Int32) (a2 : Int32) (gSI0 : SI σ0) : Met l yX12_mean wsX12_mean ({ frames := 7, cells := 0, slots := 0, locals := 163 } : Room) (WQc D cA ad [.ref (ad 387), .int a1, .int a2] σ0 τ0) (va_Qi (fun (r : Int32) (u : SS) => P_X12_mean σ0 τ0 a1 a2 r u.1 u.2) (WB D cA ad) (AA ad)) 0 0 (AA ad) := by
  refine Met.ofW (cc := cX12_mean) (maxL := 3) (ret := (some .int)) (by decide) rfl ?_
  intro p e s m args below meth c s₁ B hml hv
  obtain ⟨rfl, hP, hK, hN⟩ := hv
  have C : Cy p s m _ meth c cX12_mean 3 wsX12_mean RX12 D cA ad (some .int) := ⟨B.exec, B.bytes, hml, findClass_of_methodNamed B.named, atoms_spec (ws := wsX12_mean) B.pre, hK, B.notSynchronized, B.returns, hI, hN⟩
  have hl := lv_entry ([.ref (ad 387), .int a1, .int a2]) (n := 3) (Nat.le_of_ble_eq_true rfl)
  rw [lg_entry_eq]
  generalize (lg_sl ([.ref (ad 387), .int a1, .int a2]) ++ List.replicate (3 - (lg_sl ([.ref (ad 387), .int a1, .int a2])).length) Slot.unset).toArray = ls at hl ⊢
  have hl : lv_has ls 3 [(0, .ref (ad 387)), (1, .int a1), (2, .int a2)] := hl
  have hS : va_S (AA ad) s.heap s.heap [] := va_S.rf
  have hF : Fr L_X12_mean σ0 σ0 := Fr.rf
  have hFL : FrL LL_X12_mean τ0 τ0 := FrL.rf
  have gSI := gSI0
  obtain ⟨hx, hb, _, hown, hts, _, hk, hr, _, _⟩ := C
  refine lv_aload_n hx hb dX12_mean_0 rfl (lv_at hl 0 rfl) ?_
  refine lv_aload_n hx hb dX12_mean_1 rfl (lv_at hl 0 rfl) ?_
  refine lv_iload_n hx hb dX12_mean_2 rfl (lv_at hl 1 rfl) ?_
  refine r_cVi (k := 387) (As := [.int a1]) (rest := [.ref (ad 387)]) ⟨hx, hb, hml, hown, hts⟩ hK hP hN hS (c_X12_isMan l D cA ad hI σ0 τ0 hR a1) (cwV 1 hts gX12_mean_X12_isMan rfl rfl rfl (by decide +kernel) ⟨by decide, by decide⟩) (rv_M hK hP (by decide) (by decide)) rfl hl.1 rfl (Nat.le_of_ble_eq_true rfl) dX12_mean_3 (Nat.zero_le _) (Nat.zero_le _) (fun r1 u1 H1 locs1 hp1 hP hS => ?_)
  obtain ⟨σ1, τ1⟩ := u1
  obtain ⟨hR, f1, fL1, hq1, hp1_0⟩ : P_X12_isMan σ0 τ0 a1 r1 σ1 τ1 := hp1
  have hP : va_P D vwCl (gw cA ad σ1 τ1) H1 := hP
  obtain rfl := FrL.nil fL1
  obtain rfl := Fr.nil f1
  refine r_if_eq (tgt := 27) hx hb dX12_mean_6 (by decide) (fun c2 => ?_) (fun c2 => ?_)
  · clear hp1_0
    refine r_iconst hx hb dX12_mean_27 (by decide) (fun z3 ez3 => ?_)
    refine lv_goto (tgt := 32) hx hb dX12_mean_28 (by decide) ?_
    refine r_cVi (k := 387) (As := [.int z3]) (rest := []) ⟨hx, hb, hml, hown, hts⟩ hK hP hN hS (c_X12_throwsIf l D cA ad hI σ0 τ0 hR z3 (by omega)) (cwV 1 hts gX12_mean_X12_throwsIf rfl rfl rfl (by decide +kernel) ⟨by decide, by decide⟩) (rv_M hK hP (by decide) (by decide)) rfl hl.1 rfl (Nat.le_of_ble_eq_true rfl) dX12_mean_32 (Nat.zero_le _) (Nat.zero_le _) (fun r4 u4 H4 locs4 hp4 hP hS => ?_)
    obtain ⟨σ4, τ4⟩ := u4
    obtain ⟨hR, f4, fL4, hq4, hp4_0⟩ : P_X12_throwsIf σ0 τ0 z3 r4 σ4 τ4 := hp4
    have hP : va_P D vwCl (gw cA ad σ4 τ4) H4 := hP
    obtain rfl := FrL.nil fL4
    have hF := hF.step f4 (by decide)
    have gSI := SI.fr gSI hR f4 (by decide)
    refine r_if_eq (tgt := 40) hx hb dX12_mean_35 (by decide) (fun c5 => ?_) (fun c5 => ?_)
    · exfalso; omega
    · refine r_iconst hx hb dX12_mean_38 (by decide) (fun z6 ez6 => ?_)
      exact r_iret hx hb hr hK hP hS hk dX12_mean_39 (show P_X12_mean σ0 τ0 a1 a2 z6 σ4 τ0 from ⟨hR, hF, hFL⟩)
  · replace hp1_0 := hp1_0.resolve_left (by omega)
    refine lv_aload_n hx hb dX12_mean_9 rfl (lv_at hl 0 rfl) ?_
    refine fg_12_6 (k := 387) hx hb hts in_X12_mean_12 hown hK hP (by decide) (by decide) (hts _ lk_X12_mean_33) dX12_mean_10 ?_
    refine r_iconst hx hb dX12_mean_13 (by decide) (fun z7 ez7 => ?_)
    refine ad_ms (k := 389) (j := 2) hx hb hK hP (by decide) (by decide) (by omega) (by omega) dX12_mean_14 ?_
    have hr8 := ra_ms_1 hR (k := 389) (j := 2) (by decide) (by decide) (by decide) (by decide)
    refine r_if_eq (tgt := 27) hx hb dX12_mean_15 (by decide) (fun c9 => ?_) (fun c9 => ?_)
    · refine r_iconst hx hb dX12_mean_27 (by decide) (fun z10 ez10 => ?_)
      refine lv_goto (tgt := 32) hx hb dX12_mean_28 (by decide) ?_
      refine r_cVi (k := 387) (As := [.int z10]) (rest := []) ⟨hx, hb, hml, hown, hts⟩ hK hP hN hS (c_X12_throwsIf l D cA ad hI σ0 τ0 hR z10 (by omega)) (cwV 1 hts gX12_mean_X12_throwsIf rfl rfl rfl (by decide +kernel) ⟨by decide, by decide⟩) (rv_M hK hP (by decide) (by decide)) rfl hl.1 rfl (Nat.le_of_ble_eq_true rfl) dX12_mean_32 (Nat.zero_le _) (Nat.zero_le _) (fun r11 u11 H11 locs11 hp11 hP hS => ?_)
      obtain ⟨σ11, τ11⟩ := u11
      obtain ⟨hR, f11, fL11, hq11, hp11_0⟩ : P_X12_throwsIf σ0 τ0 z10 r11 σ11 τ11 := hp11
      have hP : va_P D vwCl (gw cA ad σ11 τ11) H11 := hP
      obtain rfl := FrL.nil fL11
      have hF := hF.step f11 (by decide)
      have gSI := SI.fr gSI hR f11 (by decide)
      have t12 : (σ11 389 2).toInt = (σ0 389 2).toInt := congrArg Int32.toInt (f11.at 389 2 (by decide))
      refine r_if_eq (tgt := 40) hx hb dX12_mean_35 (by decide) (fun c13 => ?_) (fun c13 => ?_)
      · exfalso; omega
      · refine r_iconst hx hb dX12_mean_38 (by decide) (fun z14 ez14 => ?_)
        exact r_iret hx hb hr hK hP hS hk dX12_mean_39 (show P_X12_mean σ0 τ0 a1 a2 z14 σ11 τ0 from ⟨hR, hF, hFL⟩)
    · refine lv_iload_n hx hb dX12_mean_18 rfl (lv_at hl 2 rfl) ?_
      refine r_iconst hx hb dX12_mean_19 (by decide) (fun z15 ez15 => ?_)
      refine r_iconst hx hb dX12_mean_20 (by decide) (fun z16 ez16 => ?_)
      refine r_cSi (As := [.int a2, .int z15, .int z16]) (rest := [.ref (ad 387)]) ⟨hx, hb, hml, hown, hts⟩ hK hP hN hS (c_X12_isIn l D cA ad hI σ0 τ0 hR a2 z15 z16) (va_cwS 3 hts gX12_mean_X12_isIn rfl rfl rfl (by decide +kernel) ⟨by decide, by decide⟩) rfl hl.1 rfl (Nat.le_of_ble_eq_true rfl) dX12_mean_21 (Nat.zero_le _) (Nat.zero_le _) (fun r17 u17 H17 locs17 hp17 hP hS => ?_)
      obtain ⟨σ17, τ17⟩ := u17
      obtain ⟨hR, f17, fL17, hq17, hp17_0, hp17_1⟩ : P_X12_isIn σ0 τ0 a2 z15 z16 r17 σ17 τ17 := hp17
      have hP : va_P D vwCl (gw cA ad σ17 τ17) H17 := hP
      obtain rfl := FrL.nil fL17
      obtain rfl := Fr.nil f17
      refine r_if_ne (tgt := 31) hx hb dX12_mean_24 (by decide) (fun c18 => ?_) (fun c18 => ?_)
      · replace hp17_0 := hp17_0.resolve_left (by omega)
        refine r_iconst hx hb dX12_mean_31 (by decide) (fun z19 ez19 => ?_)
        refine r_cVi (k := 387) (As := [.int z19]) (rest := []) ⟨hx, hb, hml, hown, hts⟩ hK hP hN hS (c_X12_throwsIf l D cA ad hI σ0 τ0 hR z19 (by omega)) (cwV 1 hts gX12_mean_X12_throwsIf rfl rfl rfl (by decide +kernel) ⟨by decide, by decide⟩) (rv_M hK hP (by decide) (by decide)) rfl hl.1 rfl (Nat.le_of_ble_eq_true rfl) dX12_mean_32 (Nat.zero_le _) (Nat.zero_le _) (fun r20 u20 H20 locs20 hp20 hP hS => ?_)
        obtain ⟨σ20, τ20⟩ := u20
        obtain ⟨hR, f20, fL20, hq20, hp20_0⟩ : P_X12_throwsIf σ0 τ0 z19 r20 σ20 τ20 := hp20
        have hP : va_P D vwCl (gw cA ad σ20 τ20) H20 := hP
        obtain rfl := FrL.nil fL20
        have hF := hF.step f20 (by decide)
        have gSI := SI.fr gSI hR f20 (by decide)
        have t21 : (σ20 389 2).toInt = (σ0 389 2).toInt := congrArg Int32.toInt (f20.at 389 2 (by decide))
        refine r_if_eq (tgt := 40) hx hb dX12_mean_35 (by decide) (fun c22 => ?_) (fun c22 => ?_)
        · refine lv_aload_n hx hb dX12_mean_40 rfl (lv_at hl 0 rfl) ?_
          refine r_cVv (k := 387) (As := []) (rest := []) ⟨hx, hb, hml, hown, hts⟩ hK hP hN hS (c_X12_asNow l D cA ad hI σ20 τ0 hR) (cwV 0 hts gX12_mean_X12_asNow rfl rfl rfl (by decide +kernel) ⟨by decide, by decide⟩) (rv_M hK hP (by decide) (by decide)) rfl hl.1 rfl (Nat.le_of_ble_eq_true rfl) dX12_mean_41 (Nat.zero_le _) (Nat.zero_le _) (fun u23 H23 locs23 hp23 hP hS => ?_)
          obtain ⟨σ23, τ23⟩ := u23
          obtain ⟨hR, f23, fL23⟩ : P_X12_asNow σ20 τ0 σ23 τ23 := hp23
          have hP : va_P D vwCl (gw cA ad σ23 τ23) H23 := hP
          obtain rfl := FrL.nil fL23
          have hF := hF.step f23 (by decide)
          have gSI := SI.fr gSI hR f23 (by decide)
          have t24 : (σ23 389 2).toInt = (σ20 389 2).toInt := congrArg Int32.toInt (f23.at 389 2 (by decide))
          refine lv_aload_n hx hb dX12_mean_44 rfl (lv_at hl 0 rfl) ?_
          refine lv_iload_n hx hb dX12_mean_45 rfl (lv_at hl 1 rfl) ?_
          refine r_cVi (k := 387) (As := [.int a1]) (rest := []) ⟨hx, hb, hml, hown, hts⟩ hK hP hN hS (c_X12_meanOf l D cA ad hI σ23 τ0 hR a1 (by omega)) (cwV 1 hts gX12_mean_X12_meanOf rfl rfl rfl (by decide +kernel) ⟨by decide, by decide⟩) (rv_M hK hP (by decide) (by decide)) rfl hl.1 rfl (Nat.le_of_ble_eq_true rfl) dX12_mean_46 (Nat.zero_le _) (Nat.zero_le _) (fun r25 u25 H25 locs25 hp25 hP hS => ?_)
          obtain ⟨σ25, τ25⟩ := u25
          obtain ⟨hR, f25, fL25⟩ : P_X12_meanOf σ23 τ0 a1 r25 σ25 τ25 := hp25
          have hP : va_P D vwCl (gw cA ad σ25 τ25) H25 := hP
          obtain rfl := FrL.nil fL25
          have hF := hF.step f25 (by decide)
          have gSI := SI.fr gSI hR f25 (by decide)
          have t26 : (σ25 389 2).toInt = (σ23 389 2).toInt := congrArg Int32.toInt (f25.at 389 2 (by decide))
          refine lv_aload_n hx hb dX12_mean_49 rfl (lv_at hl 0 rfl) ?_
          refine r_cVi (k := 387) (As := []) (rest := [.int r25]) ⟨hx, hb, hml, hown, hts⟩ hK hP hN hS (c_X12_chances l D cA ad hI σ25 τ0 hR gSI) (cwV 0 hts gX12_mean_X12_chances rfl rfl rfl (by decide +kernel) ⟨by decide, by decide⟩) (rv_M hK hP (by decide) (by decide)) rfl hl.1 rfl (Nat.le_of_ble_eq_true rfl) dX12_mean_50 (Nat.zero_le _) (Nat.zero_le _) (fun r27 u27 H27 locs27 hp27 hP hS => ?_)
          obtain ⟨σ27, τ27⟩ := u27
          obtain ⟨hR, f27, fL27, hq27, hp27_0, hp27_1⟩ : P_X12_chances σ25 τ0 r27 σ27 τ27 := hp27
          have hP : va_P D vwCl (gw cA ad σ27 τ27) H27 := hP
          obtain rfl := FrL.nil fL27
          obtain rfl := Fr.nil f27
          refine lv_iload_n hx hb dX12_mean_53 rfl (lv_at hl 2 rfl) ?_
          refine r_cSi (As := [.int r25, .int r27, .int a2]) (rest := []) ⟨hx, hb, hml, hown, hts⟩ hK hP hN hS (c_X12_part l D cA ad hI σ25 τ0 hR r25 r27 a2 (by omega) (by omega)) (va_cwS 3 hts gX12_mean_X12_part rfl rfl rfl (by decide +kernel) ⟨by decide, by decide⟩) rfl hl.1 rfl (Nat.le_of_ble_eq_true rfl) dX12_mean_54 (Nat.zero_le _) (Nat.zero_le _) (fun r28 u28 H28 locs28 hp28 hP hS => ?_)
          obtain ⟨σ28, τ28⟩ := u28
          obtain ⟨hR, f28, fL28⟩ : P_X12_part σ25 τ0 r25 r27 a2 r28 σ28 τ28 := hp28
          have hP : va_P D vwCl (gw cA ad σ28 τ28) H28 := hP
          obtain rfl := FrL.nil fL28
          obtain rfl := Fr.nil f28
          exact r_iret hx hb hr hK hP hS hk dX12_mean_57 (show P_X12_mean σ0 τ0 a1 a2 r28 σ25 τ0 from ⟨hR, hF, hFL⟩)
        · exfalso; omega
      · clear hp17_0
        refine r_iconst hx hb dX12_mean_27 (by decide) (fun z29 ez29 => ?_)
        refine lv_goto (tgt := 32) hx hb dX12_mean_28 (by decide) ?_
        refine r_cVi (k := 387) (As := [.int z29]) (rest := []) ⟨hx, hb, hml, hown, hts⟩ hK hP hN hS (c_X12_throwsIf l D cA ad hI σ0 τ0 hR z29 (by omega)) (cwV 1 hts gX12_mean_X12_throwsIf rfl rfl rfl (by decide +kernel) ⟨by decide, by decide⟩) (rv_M hK hP (by decide) (by decide)) rfl hl.1 rfl (Nat.le_of_ble_eq_true rfl) dX12_mean_32 (Nat.zero_le _) (Nat.zero_le _) (fun r30 u30 H30 locs30 hp30 hP hS => ?_)
        obtain ⟨σ30, τ30⟩ := u30
        obtain ⟨hR, f30, fL30, hq30, hp30_0⟩ : P_X12_throwsIf σ0 τ0 z29 r30 σ30 τ30 := hp30
        have hP : va_P D vwCl (gw cA ad σ30 τ30) H30 := hP
        obtain rfl := FrL.nil fL30
        have hF := hF.step f30 (by decide)
        have gSI := SI.fr gSI hR f30 (by decide)
        have t31 : (σ30 389 2).toInt = (σ0 389 2).toInt := congrArg Int32.toInt (f30.at 389 2 (by decide))
        refine r_if_eq (tgt := 40) hx hb dX12_mean_35 (by decide) (fun c32 => ?_) (fun c32 => ?_)
        · exfalso; omega
        · refine r_iconst hx hb dX12_mean_38 (by decide) (fun z33 ez33 => ?_)
          exact r_iret hx hb hr hK hP hS hk dX12_mean_39 (show P_X12_mean σ0 τ0 a1 a2 z33 σ30 τ0 from ⟨hR, hF, hFL⟩)
theorem in_X12_tellsBetter_12 : ∀ w ∈ u_ws RX12 TX12 47, w ∈ wsX12_tellsBetter := by decide +kernel
theorem lk_X12_tellsBetter_378 : Cond.fieldLink RX12 378 "CuckooSharesModel" "hasBetter" "Z" ∈ wsX12_tellsBetter := by decide +kernel
theorem lk_X12_tellsBetter_382 : Cond.fieldLink RX12 382 "CuckooSharesModel" "betterUp" "I" ∈ wsX12_tellsBetter := by decide +kernel
theorem lk_X12_tellsBetter_385 : Cond.fieldLink RX12 385 "CuckooSharesModel" "betterBelow" "I" ∈ wsX12_tellsBetter := by decide +kernel
abbrev L_X12_tellsBetter : List Rc := [(387, 387, 30, 32)]
abbrev LL_X12_tellsBetter : List Rc := []
def P_X12_tellsBetter (σ0 : Nat → Nat → Int32) (τ0 : Nat → Nat → Int64) (a1 : Int32) (σ : Nat → Nat → Int32) (τ : Nat → Nat → Int64) : Prop := Rg σ ∧ Fr L_X12_tellsBetter σ0 σ ∧ FrL LL_X12_tellsBetter τ0 τ ∧ ((σ 387 31).toInt ≠ 0)
set_option maxHeartbeats 4000000 in
theorem c_X12_tellsBetter (l : Launch) (D : va_G) (cA : Nat → ClassId) (ad : Nat → Nat) (hI : Inj ad) (σ0 : Nat → Nat → Int32) (τ0 : Nat → Nat → Int64) (hR : Rg σ0) (a1 : Int32) (hpre0 : 1 ≤ (σ0 389 2).toInt) (gSI0 : SI σ0) : Met l yX12_tellsBetter wsX12_tellsBetter ({ frames := 1, cells := 0, slots := 0, locals := 22 } : Room) (WQc D cA ad [.ref (ad 387), .int a1] σ0 τ0) (va_Qv (fun u : SS => P_X12_tellsBetter σ0 τ0 a1 u.1 u.2) (WB D cA ad) (AA ad)) 0 0 (AA ad) := by
  refine Met.ofW (cc := cX12_tellsBetter) (maxL := 2) (ret := none) (by decide) rfl ?_
  intro p e s m args below meth c s₁ B hml hv
  obtain ⟨rfl, hP, hK, hN⟩ := hv
  have C : Cy p s m _ meth c cX12_tellsBetter 2 wsX12_tellsBetter RX12 D cA ad none := ⟨B.exec, B.bytes, hml, findClass_of_methodNamed B.named, atoms_spec (ws := wsX12_tellsBetter) B.pre, hK, B.notSynchronized, B.returns, hI, hN⟩
  have hl := lv_entry ([.ref (ad 387), .int a1]) (n := 2) (Nat.le_of_ble_eq_true rfl)
  rw [lg_entry_eq]
  generalize (lg_sl ([.ref (ad 387), .int a1]) ++ List.replicate (2 - (lg_sl ([.ref (ad 387), .int a1])).length) Slot.unset).toArray = ls at hl ⊢
  have hl : lv_has ls 2 [(0, .ref (ad 387)), (1, .int a1)] := hl
  have hS : va_S (AA ad) s.heap s.heap [] := va_S.rf
  have hF : Fr L_X12_tellsBetter σ0 σ0 := Fr.rf
  have hFL : FrL LL_X12_tellsBetter τ0 τ0 := FrL.rf
  have gSI := gSI0
  obtain ⟨hx, hb, _, hown, hts, _, hk, hr, _, _⟩ := C
  refine lv_aload_n hx hb dX12_tellsBetter_0 rfl (lv_at hl 0 rfl) ?_
  refine r_iconst hx hb dX12_tellsBetter_1 (by decide) (fun z1 ez1 => ?_)
  refine fp_12_32 (k := 387) hx hb hts in_X12_tellsBetter_12 hown hK hP (by decide) (by decide) (hts _ lk_X12_tellsBetter_378) hI hR hS (by omega) dX12_tellsBetter_2 (fun σ2 H2 locs2 u2 v2 hR hP hS => ?_)
  have hF := hF.puts u2 0 rfl (by decide) (by decide) (by decide) (by decide)
  have gSI := SI.put gSI hR u2 (by decide)
  refine lv_aload_n hx hb dX12_tellsBetter_5 rfl (lv_at hl 0 rfl) ?_
  refine lv_iload_n hx hb dX12_tellsBetter_6 rfl (lv_at hl 1 rfl) ?_
  refine fp_12_30 (k := 387) hx hb hts in_X12_tellsBetter_12 hown hK hP (by decide) (by decide) (hts _ lk_X12_tellsBetter_382) hI hR hS dX12_tellsBetter_7 (fun σ3 H3 locs3 u3 v3 hR hP hS => ?_)
  have hF := hF.puts u3 0 rfl (by decide) (by decide) (by decide) (by decide)
  have gSI := SI.put gSI hR u3 (by decide)
  refine lv_aload_n hx hb dX12_tellsBetter_10 rfl (lv_at hl 0 rfl) ?_
  refine lv_aload_n hx hb dX12_tellsBetter_11 rfl (lv_at hl 0 rfl) ?_
  have h2e := congrArg Int32.toInt (hF.at 389 2 (by decide))
  refine r_cVi (k := 387) (As := []) (rest := [.ref (ad 387)]) ⟨hx, hb, hml, hown, hts⟩ hK hP hN hS (c_X12_chances l D cA ad hI σ3 τ0 hR gSI) (cwV 0 hts gX12_tellsBetter_X12_chances rfl rfl rfl (by decide +kernel) ⟨by decide, by decide⟩) (rv_M hK hP (by decide) (by decide)) rfl hl.1 rfl (Nat.le_of_ble_eq_true rfl) dX12_tellsBetter_12 (Nat.zero_le _) (Nat.zero_le _) (fun r4 u4 H4 locs4 hp4 hP hS => ?_)
  obtain ⟨σ4, τ4⟩ := u4
  obtain ⟨hR, f4, fL4, hq4, hp4_0, hp4_1⟩ : P_X12_chances σ3 τ0 r4 σ4 τ4 := hp4
  have hP : va_P D vwCl (gw cA ad σ4 τ4) H4 := hP
  obtain rfl := FrL.nil fL4
  obtain rfl := Fr.nil f4
  refine fp_12_31 (k := 387) hx hb hts in_X12_tellsBetter_12 hown hK hP (by decide) (by decide) (hts _ lk_X12_tellsBetter_385) hI hR hS dX12_tellsBetter_15 (fun σ5 H5 locs5 u5 v5 hR hP hS => ?_)
  have hF := hF.puts u5 0 rfl (by decide) (by decide) (by decide) (by decide)
  have gSI := SI.put gSI hR u5 (by decide)
  exact r_vret hx hb hr hK hP hS hk dX12_tellsBetter_18 (show P_X12_tellsBetter σ0 τ0 a1 σ5 τ0 from ⟨hR, hF, hFL, by omega⟩)
theorem in_X12_beside_12 : ∀ w ∈ u_ws RX12 TX12 47, w ∈ wsX12_beside := by decide +kernel
theorem lk_X12_beside_1 : Cond.fieldLink RX12 1 "CuckooSharesModel" "thrown" "I" ∈ wsX12_beside := by decide +kernel
theorem lk_X12_beside_33 : Cond.fieldLink RX12 33 "CuckooSharesModel" "s" "[I" ∈ wsX12_beside := by decide +kernel
abbrev L_X12_beside : List Rc := [(387, 387, 0, 0), (387, 387, 30, 32), (394, 394, 0, 7), (395, 395, 0, 7), (396, 396, 0, 7), (387, 387, 26, 26), (397, 397, 0, 7)]
abbrev LL_X12_beside : List Rc := []
def P_X12_beside (σ0 : Nat → Nat → Int32) (τ0 : Nat → Nat → Int64) (a1 : Int32) (r : Int32) (σ : Nat → Nat → Int32) (τ : Nat → Nat → Int64) : Prop := Rg σ ∧ Fr L_X12_beside σ0 σ ∧ FrL LL_X12_beside τ0 τ ∧ (-1 ≤ r.toInt ∧ r.toInt ≤ 7) ∧ BI σ
def J_X12_beside_35 (p : Program) (l : Launch) (e : Env) (s : State) (m : MethodId) (args : Array Value) (below : List Frame) (meth : Method) (c : Code) (D : va_G) (cA : Nat → ClassId) (ad : Nat → Nat) (σ0 : Nat → Nat → Int32) (τ0 : Nat → Nat → Int64) (a1 : Int32) (n : Nat) : Prop := ∀ (σ : Nat → Nat → Int32) (τ : Nat → Nat → Int64) (H : Heap) (locs : List Loc) (x2 : Int32) (x3 : Int32) (x4 : Int32) (ls : Array Slot), Rg σ → Fr L_X12_beside σ0 σ → FrL LL_X12_beside τ0 τ → va_P D vwCl (gw cA ad σ τ) H → va_S (AA ad) s.heap H locs → (0 ≤ a1.toInt ∧ a1.toInt ≤ 7) → (-1 ≤ x2.toInt ∧ x2.toInt ≤ 7) → (0 ≤ x4.toInt ∧ x4.toInt ≤ 8) → (1 ≤ (σ 389 2).toInt ∧ (σ 389 2).toInt ≤ 4) → (SI σ) → (BI σ) → lv_has ls 6 [(0, .ref (ad 387)), (1, .int a1), (2, .int x2), (3, .int x3), (4, .int x4)] → 2 * (8 - x4.toInt) + 1 < (n : Int) → W p l e ({ frames := 7, cells := 0, slots := 0, locals := 163 } : Room) s m args below meth c H locs 0 0 (MQ below (va_Qi (fun (r : Int32) (u : SS) => P_X12_beside σ0 τ0 a1 r u.1 u.2) (WB D cA ad) (AA ad)) args s 0 0 (AA ad)) (F0 m 35 ls [])
set_option maxHeartbeats 4000000 in
theorem B_X12_beside_35 (p : Program) (l : Launch) (e : Env) (s : State) (m : MethodId) (args : Array Value) (below : List Frame) (meth : Method) (c : Code) (D : va_G) (cA : Nat → ClassId) (ad : Nat → Nat) (σ0 : Nat → Nat → Int32) (τ0 : Nat → Nat → Int64) (a1 : Int32) (n : Nat) (C : Cy p s m args meth c cX12_beside 6 wsX12_beside RX12 D cA ad (some .int)) (gSI0 : SI σ0) (gBI0 : BI σ0) (K35 : J_X12_beside_35 p l e s m args below meth c D cA ad σ0 τ0 a1 n) : J_X12_beside_35 p l e s m args below meth c D cA ad σ0 τ0 a1 (n + 1) := by
  obtain ⟨hx, hb, hml, hown, hts, hK, hk, hr, hI, hN⟩ := C
  intro σ τ H locs x2 x3 x4 ls hR hF hFL hP hS hc0 hc1 hc2 hc3 gSI gBI hl hm
  obtain rfl := FrL.nil hFL
  refine lv_iload hx hb dX12_beside_35 (lv_at hl 4 rfl) ?_
  refine lv_aload_n hx hb dX12_beside_37 rfl (lv_at hl 0 rfl) ?_
  refine fg_12_6 (k := 387) hx hb hts in_X12_beside_12 hown hK hP (by decide) (by decide) (hts _ lk_X12_beside_33) dX12_beside_38 ?_
  refine r_iconst hx hb dX12_beside_41 (by decide) (fun z1 ez1 => ?_)
  refine ad_ms (k := 389) (j := 0) hx hb hK hP (by decide) (by decide) (by omega) (by omega) dX12_beside_42 ?_
  have hr2 := ra_ms_0 hR (k := 389) (j := 0) (by decide) (by decide) (by decide) (by decide)
  refine r_icmp_ge (tgt := 85) hx hb dX12_beside_43 (by decide) (fun c3 => ?_) (fun c3 => ?_)
  · refine lv_aload_n hx hb dX12_beside_85 rfl (lv_at hl 0 rfl) ?_
    refine lv_iload_n hx hb dX12_beside_86 rfl (lv_at hl 3 rfl) ?_
    refine r_cVv (k := 387) (As := [.int x3]) (rest := []) ⟨hx, hb, hml, hown, hts⟩ hK hP hN hS (c_X12_tellsBetter l D cA ad hI σ τ0 hR x3 (by omega) gSI) (cwV 1 hts gX12_beside_X12_tellsBetter rfl rfl rfl (by decide +kernel) ⟨by decide, by decide⟩) (rv_M hK hP (by decide) (by decide)) rfl hl.1 rfl (Nat.le_of_ble_eq_true rfl) dX12_beside_87 (Nat.zero_le _) (Nat.zero_le _) (fun u4 H4 locs4 hp4 hP hS => ?_)
    obtain ⟨σ4, τ4⟩ := u4
    obtain ⟨hR, f4, fL4, hp4_0⟩ : P_X12_tellsBetter σ τ0 x3 σ4 τ4 := hp4
    have hP : va_P D vwCl (gw cA ad σ4 τ4) H4 := hP
    obtain rfl := FrL.nil fL4
    have hF := hF.step f4 (by decide)
    have gSI := SI.fr gSI hR f4 (by decide)
    have t5 : (σ4 389 2).toInt = (σ 389 2).toInt := congrArg Int32.toInt (f4.at 389 2 (by decide))
    have t6 : (σ4 389 0).toInt = (σ 389 0).toInt := congrArg Int32.toInt (f4.at 389 0 (by decide))
    refine lv_iload_n hx hb dX12_beside_90 rfl (lv_at hl 2 rfl) ?_
    exact r_iret hx hb hr hK hP hS hk dX12_beside_91 (show P_X12_beside σ0 τ0 a1 x2 σ4 τ0 from ⟨hR, hF, hFL, by omega, Or.inr (by omega)⟩)
  · refine lv_aload_n hx hb dX12_beside_46 rfl (lv_at hl 0 rfl) ?_
    refine lv_iload_n hx hb dX12_beside_47 rfl (lv_at hl 1 rfl) ?_
    refine lv_iload hx hb dX12_beside_48 (lv_at hl 4 rfl) ?_
    refine r_cVv (k := 387) (As := [.int a1, .int x4]) (rest := []) ⟨hx, hb, hml, hown, hts⟩ hK hP hN hS (c_X12_stands l D cA ad hI σ τ0 hR a1 x4 (by omega) (by omega)) (cwV 2 hts gX12_beside_X12_stands rfl rfl rfl (by decide +kernel) ⟨by decide, by decide⟩) (rv_M hK hP (by decide) (by decide)) rfl hl.1 rfl (Nat.le_of_ble_eq_true rfl) dX12_beside_50 (Nat.zero_le _) (Nat.zero_le _) (fun u7 H7 locs7 hp7 hP hS => ?_)
    obtain ⟨σ7, τ7⟩ := u7
    obtain ⟨hR, f7, fL7⟩ : P_X12_stands σ τ0 a1 x4 σ7 τ7 := hp7
    have hP : va_P D vwCl (gw cA ad σ7 τ7) H7 := hP
    obtain rfl := FrL.nil fL7
    have hF := hF.step f7 (by decide)
    have gBI := BI.fr gBI f7 (by decide)
    have gSI := SI.fr gSI hR f7 (by decide)
    have t8 : (σ7 389 2).toInt = (σ 389 2).toInt := congrArg Int32.toInt (f7.at 389 2 (by decide))
    have t9 : (σ7 389 0).toInt = (σ 389 0).toInt := congrArg Int32.toInt (f7.at 389 0 (by decide))
    refine lv_aload_n hx hb dX12_beside_53 rfl (lv_at hl 0 rfl) ?_
    refine lv_iload_n hx hb dX12_beside_54 rfl (lv_at hl 1 rfl) ?_
    refine r_cVi (k := 387) (As := [.int a1]) (rest := []) ⟨hx, hb, hml, hown, hts⟩ hK hP hN hS (c_X12_meanOf l D cA ad hI σ7 τ0 hR a1 (by omega)) (cwV 1 hts gX12_beside_X12_meanOf rfl rfl rfl (by decide +kernel) ⟨by decide, by decide⟩) (rv_M hK hP (by decide) (by decide)) rfl hl.1 rfl (Nat.le_of_ble_eq_true rfl) dX12_beside_55 (Nat.zero_le _) (Nat.zero_le _) (fun r10 u10 H10 locs10 hp10 hP hS => ?_)
    obtain ⟨σ10, τ10⟩ := u10
    obtain ⟨hR, f10, fL10⟩ : P_X12_meanOf σ7 τ0 a1 r10 σ10 τ10 := hp10
    have hP : va_P D vwCl (gw cA ad σ10 τ10) H10 := hP
    obtain rfl := FrL.nil fL10
    have hF := hF.step f10 (by decide)
    have gBI := BI.fr gBI f10 (by decide)
    have gSI := SI.fr gSI hR f10 (by decide)
    have t11 : (σ10 389 2).toInt = (σ7 389 2).toInt := congrArg Int32.toInt (f10.at 389 2 (by decide))
    have t12 : (σ10 389 0).toInt = (σ7 389 0).toInt := congrArg Int32.toInt (f10.at 389 0 (by decide))
    refine lv_istore (lv' := [(5, .int r10), (0, .ref (ad 387)), (1, .int a1), (2, .int x2), (3, .int x3), (4, .int x4)]) hx hb dX12_beside_58 hl (by decide) rfl (fun ls hl => ?_)
    refine lv_iload_n hx hb dX12_beside_60 rfl (lv_at hl 3 rfl) ?_
    refine r_if_lt (tgt := 73) hx hb dX12_beside_61 (by decide) (fun c13 => ?_) (fun c13 => ?_)
    · refine lv_iload hx hb dX12_beside_73 (lv_at hl 5 rfl) ?_
      refine lv_istore_n (lv' := [(2, .int x4), (5, .int r10), (0, .ref (ad 387)), (1, .int a1), (3, .int x3), (4, .int x4)]) hx hb dX12_beside_75 rfl hl (by decide) rfl (fun ls hl => ?_)
      refine lv_iload hx hb dX12_beside_76 (lv_at hl 1 rfl) ?_
      refine lv_istore_n (lv' := [(3, .int r10), (2, .int x4), (5, .int r10), (0, .ref (ad 387)), (1, .int a1), (4, .int x4)]) hx hb dX12_beside_78 rfl hl (by decide) rfl (fun ls hl => ?_)
      refine r_iinc (k := 5) (lv1 := fun z14 => [(4, .int z14), (3, .int r10), (2, .int x4), (5, .int r10), (0, .ref (ad 387)), (1, .int a1)]) hx hb dX12_beside_79 hl rfl (by decide) (fun _ => rfl) (by decide) (by omega) (fun z14 ls ez14 hl => ?_)
      refine lv_goto (tgt := 35) hx hb dX12_beside_82 (by decide) ?_
      exact K35 σ10 τ0 H10 locs10 x4 r10 z14 ls hR hF hFL hP hS (by omega) (by omega) (by omega) (by omega) gSI gBI (lv_sub hl [4, 5, 2, 1, 0] rfl) (by omega)
    · refine lv_iload hx hb dX12_beside_64 (lv_at hl 0 rfl) ?_
      refine lv_iload_n hx hb dX12_beside_66 rfl (lv_at hl 4 rfl) ?_
      refine r_icmp_gt (tgt := 73) hx hb dX12_beside_67 (by decide) (fun c15 => ?_) (fun c15 => ?_)
      · refine lv_iload hx hb dX12_beside_73 (lv_at hl 5 rfl) ?_
        refine lv_istore_n (lv' := [(2, .int x4), (5, .int r10), (0, .ref (ad 387)), (1, .int a1), (3, .int x3), (4, .int x4)]) hx hb dX12_beside_75 rfl hl (by decide) rfl (fun ls hl => ?_)
        refine lv_iload hx hb dX12_beside_76 (lv_at hl 1 rfl) ?_
        refine lv_istore_n (lv' := [(3, .int r10), (2, .int x4), (5, .int r10), (0, .ref (ad 387)), (1, .int a1), (4, .int x4)]) hx hb dX12_beside_78 rfl hl (by decide) rfl (fun ls hl => ?_)
        refine r_iinc (k := 5) (lv1 := fun z16 => [(4, .int z16), (3, .int r10), (2, .int x4), (5, .int r10), (0, .ref (ad 387)), (1, .int a1)]) hx hb dX12_beside_79 hl rfl (by decide) (fun _ => rfl) (by decide) (by omega) (fun z16 ls ez16 hl => ?_)
        refine lv_goto (tgt := 35) hx hb dX12_beside_82 (by decide) ?_
        exact K35 σ10 τ0 H10 locs10 x4 r10 z16 ls hR hF hFL hP hS (by omega) (by omega) (by omega) (by omega) gSI gBI (lv_sub hl [4, 5, 2, 1, 0] rfl) (by omega)
      · refine lv_goto (tgt := 79) hx hb dX12_beside_70 (by decide) ?_
        refine r_iinc (k := 5) (lv1 := fun z17 => [(4, .int z17), (5, .int r10), (0, .ref (ad 387)), (1, .int a1), (2, .int x2), (3, .int x3)]) hx hb dX12_beside_79 hl rfl (by decide) (fun _ => rfl) (by decide) (by omega) (fun z17 ls ez17 hl => ?_)
        refine lv_goto (tgt := 35) hx hb dX12_beside_82 (by decide) ?_
        exact K35 σ10 τ0 H10 locs10 x2 x3 z17 ls hR hF hFL hP hS (by omega) (by omega) (by omega) (by omega) gSI gBI (lv_sub hl [2, 3, 4, 5, 0] rfl) (by omega)
theorem A_X12_beside (p : Program) (l : Launch) (e : Env) (s : State) (m : MethodId) (args : Array Value) (below : List Frame) (meth : Method) (c : Code) (D : va_G) (cA : Nat → ClassId) (ad : Nat → Nat) (σ0 : Nat → Nat → Int32) (τ0 : Nat → Nat → Int64) (a1 : Int32) (C : Cy p s m args meth c cX12_beside 6 wsX12_beside RX12 D cA ad (some .int)) (gSI0 : SI σ0) (gBI0 : BI σ0) : ∀ n : Nat, J_X12_beside_35 p l e s m args below meth c D cA ad σ0 τ0 a1 n := by
  intro n
  induction n with
  | zero =>
    exact (by intro σ τ H locs x2 x3 x4 ls hR hF hFL hP hS hc0 hc1 hc2 hc3 gSI gBI hl hm; exfalso; omega)
  | succ n ih =>
    exact B_X12_beside_35 p l e s m args below meth c D cA ad σ0 τ0 a1 n C gSI0 gBI0 ih
set_option maxHeartbeats 4000000 in
theorem c_X12_beside (l : Launch) (D : va_G) (cA : Nat → ClassId) (ad : Nat → Nat) (hI : Inj ad) (σ0 : Nat → Nat → Int32) (τ0 : Nat → Nat → Int64) (hR : Rg σ0) (a1 : Int32) (gSI0 : SI σ0) (gBI0 : BI σ0) : Met l yX12_beside wsX12_beside ({ frames := 7, cells := 0, slots := 0, locals := 163 } : Room) (WQc D cA ad [.ref (ad 387), .int a1] σ0 τ0) (va_Qi (fun (r : Int32) (u : SS) => P_X12_beside σ0 τ0 a1 r u.1 u.2) (WB D cA ad) (AA ad)) 0 0 (AA ad) := by
  refine Met.ofW (cc := cX12_beside) (maxL := 6) (ret := (some .int)) (by decide) rfl ?_
  intro p e s m args below meth c s₁ B hml hv
  obtain ⟨rfl, hP, hK, hN⟩ := hv
  have C : Cy p s m _ meth c cX12_beside 6 wsX12_beside RX12 D cA ad (some .int) := ⟨B.exec, B.bytes, hml, findClass_of_methodNamed B.named, atoms_spec (ws := wsX12_beside) B.pre, hK, B.notSynchronized, B.returns, hI, hN⟩
  have hl := lv_entry ([.ref (ad 387), .int a1]) (n := 6) (Nat.le_of_ble_eq_true rfl)
  rw [lg_entry_eq]
  generalize (lg_sl ([.ref (ad 387), .int a1]) ++ List.replicate (6 - (lg_sl ([.ref (ad 387), .int a1])).length) Slot.unset).toArray = ls at hl ⊢
  have hl : lv_has ls 6 [(0, .ref (ad 387)), (1, .int a1)] := hl
  have hS : va_S (AA ad) s.heap s.heap [] := va_S.rf
  have hF : Fr L_X12_beside σ0 σ0 := Fr.rf
  have hFL : FrL LL_X12_beside τ0 τ0 := FrL.rf
  have gSI := gSI0
  have gBI := gBI0
  have hA := A_X12_beside p l e s m _ below meth c D cA ad σ0 τ0 a1 C gSI0 gBI0 42
  have K35 := hA
  clear hA
  obtain ⟨hx, hb, _, hown, hts, _, hk, hr, _, _⟩ := C
  refine lv_aload_n hx hb dX12_beside_0 rfl (lv_at hl 0 rfl) ?_
  refine r_iconst hx hb dX12_beside_1 (by decide) (fun z1 ez1 => ?_)
  refine fp_12_0 (k := 387) hx hb hts in_X12_beside_12 hown hK hP (by decide) (by decide) (hts _ lk_X12_beside_1) hI hR hS (by omega) dX12_beside_2 (fun σ2 H2 locs2 u2 v2 hR hP hS => ?_)
  have hF := hF.puts u2 0 rfl (by decide) (by decide) (by decide) (by decide)
  have gBI := BI.put gBI u2 (by decide)
  have gSI := SI.put gSI hR u2 (by decide)
  refine lv_aload_n hx hb dX12_beside_5 rfl (lv_at hl 0 rfl) ?_
  refine lv_iload_n hx hb dX12_beside_6 rfl (lv_at hl 1 rfl) ?_
  refine r_cVi (k := 387) (As := [.int a1]) (rest := []) ⟨hx, hb, hml, hown, hts⟩ hK hP hN hS (c_X12_isMan l D cA ad hI σ2 τ0 hR a1) (cwV 1 hts gX12_beside_X12_isMan rfl rfl rfl (by decide +kernel) ⟨by decide, by decide⟩) (rv_M hK hP (by decide) (by decide)) rfl hl.1 rfl (Nat.le_of_ble_eq_true rfl) dX12_beside_7 (Nat.zero_le _) (Nat.zero_le _) (fun r3 u3 H3 locs3 hp3 hP hS => ?_)
  obtain ⟨σ3, τ3⟩ := u3
  obtain ⟨hR, f3, fL3, hq3, hp3_0⟩ : P_X12_isMan σ2 τ0 a1 r3 σ3 τ3 := hp3
  have hP : va_P D vwCl (gw cA ad σ3 τ3) H3 := hP
  obtain rfl := FrL.nil fL3
  obtain rfl := Fr.nil f3
  refine r_if_eq (tgt := 22) hx hb dX12_beside_10 (by decide) (fun c4 => ?_) (fun c4 => ?_)
  · clear hp3_0
    refine r_iconst hx hb dX12_beside_22 (by decide) (fun z5 ez5 => ?_)
    exact r_iret hx hb hr hK hP hS hk dX12_beside_23 (show P_X12_beside σ0 τ0 a1 z5 σ2 τ0 from ⟨hR, hF, hFL, by omega, gBI⟩)
  · replace hp3_0 := hp3_0.resolve_left (by omega)
    refine lv_aload_n hx hb dX12_beside_13 rfl (lv_at hl 0 rfl) ?_
    refine fg_12_6 (k := 387) hx hb hts in_X12_beside_12 hown hK hP (by decide) (by decide) (hts _ lk_X12_beside_33) dX12_beside_14 ?_
    refine r_iconst hx hb dX12_beside_17 (by decide) (fun z6 ez6 => ?_)
    refine ad_ms (k := 389) (j := 2) hx hb hK hP (by decide) (by decide) (by omega) (by omega) dX12_beside_18 ?_
    have hr7 := ra_ms_1 hR (k := 389) (j := 2) (by decide) (by decide) (by decide) (by decide)
    refine r_if_ne (tgt := 24) hx hb dX12_beside_19 (by decide) (fun c8 => ?_) (fun c8 => ?_)
    · refine lv_aload_n hx hb dX12_beside_24 rfl (lv_at hl 0 rfl) ?_
      refine r_cVv (k := 387) (As := []) (rest := []) ⟨hx, hb, hml, hown, hts⟩ hK hP hN hS (c_X12_asNow l D cA ad hI σ2 τ0 hR) (cwV 0 hts gX12_beside_X12_asNow rfl rfl rfl (by decide +kernel) ⟨by decide, by decide⟩) (rv_M hK hP (by decide) (by decide)) rfl hl.1 rfl (Nat.le_of_ble_eq_true rfl) dX12_beside_25 (Nat.zero_le _) (Nat.zero_le _) (fun u9 H9 locs9 hp9 hP hS => ?_)
      obtain ⟨σ9, τ9⟩ := u9
      obtain ⟨hR, f9, fL9⟩ : P_X12_asNow σ2 τ0 σ9 τ9 := hp9
      have hP : va_P D vwCl (gw cA ad σ9 τ9) H9 := hP
      obtain rfl := FrL.nil fL9
      have hF := hF.step f9 (by decide)
      have gBI := BI.fr gBI f9 (by decide)
      have gSI := SI.fr gSI hR f9 (by decide)
      have t10 : (σ9 389 2).toInt = (σ2 389 2).toInt := congrArg Int32.toInt (f9.at 389 2 (by decide))
      refine r_iconst hx hb dX12_beside_28 (by decide) (fun z11 ez11 => ?_)
      refine lv_istore_n (lv' := [(2, .int z11), (0, .ref (ad 387)), (1, .int a1)]) hx hb dX12_beside_29 rfl hl (by decide) rfl (fun ls hl => ?_)
      refine r_iconst hx hb dX12_beside_30 (by decide) (fun z12 ez12 => ?_)
      refine lv_istore_n (lv' := [(3, .int z12), (2, .int z11), (0, .ref (ad 387)), (1, .int a1)]) hx hb dX12_beside_31 rfl hl (by decide) rfl (fun ls hl => ?_)
      refine r_iconst hx hb dX12_beside_32 (by decide) (fun z13 ez13 => ?_)
      refine lv_istore (lv' := [(4, .int z13), (3, .int z12), (2, .int z11), (0, .ref (ad 387)), (1, .int a1)]) hx hb dX12_beside_33 hl (by decide) rfl (fun ls hl => ?_)
      exact K35 σ9 τ0 H9 locs9 z11 z12 z13 ls hR hF hFL hP hS (by omega) (by omega) (by omega) (by omega) gSI gBI (lv_sub hl [3, 4, 2, 1, 0] rfl) (by omega)
    · refine r_iconst hx hb dX12_beside_22 (by decide) (fun z14 ez14 => ?_)
      exact r_iret hx hb hr hK hP hS hk dX12_beside_23 (show P_X12_beside σ0 τ0 a1 z14 σ2 τ0 from ⟨hR, hF, hFL, by omega, gBI⟩)
theorem in_X12_hut_12 : ∀ w ∈ u_ws RX12 TX12 47, w ∈ wsX12_hut := by decide +kernel
theorem lk_X12_hut_1 : Cond.fieldLink RX12 1 "CuckooSharesModel" "thrown" "I" ∈ wsX12_hut := by decide +kernel
theorem lk_X12_hut_33 : Cond.fieldLink RX12 33 "CuckooSharesModel" "s" "[I" ∈ wsX12_hut := by decide +kernel
theorem lk_X12_hut_50 : Cond.fieldLink RX12 50 "CuckooSharesModel" "px" "[I" ∈ wsX12_hut := by decide +kernel
theorem lk_X12_hut_53 : Cond.fieldLink RX12 53 "CuckooSharesModel" "py" "[I" ∈ wsX12_hut := by decide +kernel
theorem lk_X12_hut_56 : Cond.fieldLink RX12 56 "CuckooSharesModel" "pf" "[I" ∈ wsX12_hut := by decide +kernel
abbrev L_X12_hut : List Rc := [(387, 387, 0, 0), (396, 396, 0, 7), (394, 394, 0, 7), (395, 395, 0, 7), (387, 387, 30, 32), (387, 387, 26, 26), (397, 397, 0, 7)]
abbrev LL_X12_hut : List Rc := []
def P_X12_hut (σ0 : Nat → Nat → Int32) (τ0 : Nat → Nat → Int64) (a1 : Int32) (r : Int32) (σ : Nat → Nat → Int32) (τ : Nat → Nat → Int64) : Prop := Rg σ ∧ Fr L_X12_hut σ0 σ ∧ FrL LL_X12_hut τ0 τ ∧ (-1 ≤ r.toInt ∧ r.toInt ≤ 16777215) ∧ BI σ
def J_X12_hut_42 (p : Program) (l : Launch) (e : Env) (s : State) (m : MethodId) (args : Array Value) (below : List Frame) (meth : Method) (c : Code) (D : va_G) (cA : Nat → ClassId) (ad : Nat → Nat) (σ0 : Nat → Nat → Int32) (τ0 : Nat → Nat → Int64) (a1 : Int32) (n : Nat) : Prop := ∀ (σ : Nat → Nat → Int32) (τ : Nat → Nat → Int64) (H : Heap) (locs : List Loc) (x2 : Int32) (x3 : Int32) (x4 : Int32) (ls : Array Slot), Rg σ → Fr L_X12_hut σ0 σ → FrL LL_X12_hut τ0 τ → va_P D vwCl (gw cA ad σ τ) H → va_S (AA ad) s.heap H locs → (0 ≤ a1.toInt ∧ a1.toInt ≤ 7) → (-1 ≤ x2.toInt ∧ x2.toInt ≤ 16777215) → (0 ≤ x4.toInt ∧ x4.toInt ≤ 21) → (1 ≤ (σ 389 2).toInt ∧ (σ 389 2).toInt ≤ 4) → (SI σ) → (BI σ) → lv_has ls 7 [(0, .ref (ad 387)), (1, .int a1), (2, .int x2), (3, .int x3), (4, .int x4)] → 47 * (21 - x4.toInt) + 46 < (n : Int) → W p l e ({ frames := 7, cells := 0, slots := 0, locals := 163 } : Room) s m args below meth c H locs 0 0 (MQ below (va_Qi (fun (r : Int32) (u : SS) => P_X12_hut σ0 τ0 a1 r u.1 u.2) (WB D cA ad) (AA ad)) args s 0 0 (AA ad)) (F0 m 42 ls [])
def J_X12_hut_52 (p : Program) (l : Launch) (e : Env) (s : State) (m : MethodId) (args : Array Value) (below : List Frame) (meth : Method) (c : Code) (D : va_G) (cA : Nat → ClassId) (ad : Nat → Nat) (σ0 : Nat → Nat → Int32) (τ0 : Nat → Nat → Int64) (a1 : Int32) (n : Nat) : Prop := ∀ (σ : Nat → Nat → Int32) (τ : Nat → Nat → Int64) (H : Heap) (locs : List Loc) (x2 : Int32) (x3 : Int32) (x4 : Int32) (x5 : Int32) (ls : Array Slot), Rg σ → Fr L_X12_hut σ0 σ → FrL LL_X12_hut τ0 τ → va_P D vwCl (gw cA ad σ τ) H → va_S (AA ad) s.heap H locs → (0 ≤ a1.toInt ∧ a1.toInt ≤ 7) → (-1 ≤ x2.toInt ∧ x2.toInt ≤ 16777215) → (0 ≤ x4.toInt ∧ x4.toInt ≤ 20) → (0 ≤ x5.toInt ∧ x5.toInt ≤ 21) → (1 ≤ (σ 389 2).toInt ∧ (σ 389 2).toInt ≤ 4) → (SI σ) → (BI σ) → lv_has ls 7 [(0, .ref (ad 387)), (1, .int a1), (2, .int x2), (3, .int x3), (4, .int x4), (5, .int x5)] → 47 * (21 - x4.toInt) + 2 * (21 - x5.toInt) + 1 < (n : Int) → W p l e ({ frames := 7, cells := 0, slots := 0, locals := 163 } : Room) s m args below meth c H locs 0 0 (MQ below (va_Qi (fun (r : Int32) (u : SS) => P_X12_hut σ0 τ0 a1 r u.1 u.2) (WB D cA ad) (AA ad)) args s 0 0 (AA ad)) (F0 m 52 ls [])
set_option maxHeartbeats 4000000 in
theorem B_X12_hut_42 (p : Program) (l : Launch) (e : Env) (s : State) (m : MethodId) (args : Array Value) (below : List Frame) (meth : Method) (c : Code) (D : va_G) (cA : Nat → ClassId) (ad : Nat → Nat) (σ0 : Nat → Nat → Int32) (τ0 : Nat → Nat → Int64) (a1 : Int32) (n : Nat) (C : Cy p s m args meth c cX12_hut 7 wsX12_hut RX12 D cA ad (some .int)) (gSI0 : SI σ0) (gBI0 : BI σ0) (K42 : J_X12_hut_42 p l e s m args below meth c D cA ad σ0 τ0 a1 n) (K52 : J_X12_hut_52 p l e s m args below meth c D cA ad σ0 τ0 a1 n) : J_X12_hut_42 p l e s m args below meth c D cA ad σ0 τ0 a1 (n + 1) := by
  obtain ⟨hx, hb, hml, hown, hts, hK, hk, hr, hI, hN⟩ := C
  intro σ τ H locs x2 x3 x4 ls hR hF hFL hP hS hc0 hc1 hc2 hc3 gSI gBI hl hm
  obtain rfl := FrL.nil hFL
  refine lv_iload hx hb dX12_hut_42 (lv_at hl 4 rfl) ?_
  refine r_bipush hx hb dX12_hut_44 (by decide) (fun z1 ez1 => ?_)
  refine r_icmp_gt (tgt := 119) hx hb dX12_hut_46 (by decide) (fun c2 => ?_) (fun c2 => ?_)
  · refine lv_aload_n hx hb dX12_hut_119 rfl (lv_at hl 0 rfl) ?_
    refine lv_iload_n hx hb dX12_hut_120 rfl (lv_at hl 3 rfl) ?_
    refine r_cVv (k := 387) (As := [.int x3]) (rest := []) ⟨hx, hb, hml, hown, hts⟩ hK hP hN hS (c_X12_tellsBetter l D cA ad hI σ τ0 hR x3 (by omega) gSI) (cwV 1 hts gX12_hut_X12_tellsBetter rfl rfl rfl (by decide +kernel) ⟨by decide, by decide⟩) (rv_M hK hP (by decide) (by decide)) rfl hl.1 rfl (Nat.le_of_ble_eq_true rfl) dX12_hut_121 (Nat.zero_le _) (Nat.zero_le _) (fun u3 H3 locs3 hp3 hP hS => ?_)
    obtain ⟨σ3, τ3⟩ := u3
    obtain ⟨hR, f3, fL3, hp3_0⟩ : P_X12_tellsBetter σ τ0 x3 σ3 τ3 := hp3
    have hP : va_P D vwCl (gw cA ad σ3 τ3) H3 := hP
    obtain rfl := FrL.nil fL3
    have hF := hF.step f3 (by decide)
    have gSI := SI.fr gSI hR f3 (by decide)
    have t4 : (σ3 389 2).toInt = (σ 389 2).toInt := congrArg Int32.toInt (f3.at 389 2 (by decide))
    refine lv_iload_n hx hb dX12_hut_124 rfl (lv_at hl 2 rfl) ?_
    exact r_iret hx hb hr hK hP hS hk dX12_hut_125 (show P_X12_hut σ0 τ0 a1 x2 σ3 τ0 from ⟨hR, hF, hFL, by omega, Or.inr (by omega)⟩)
  · refine r_iconst hx hb dX12_hut_49 (by decide) (fun z5 ez5 => ?_)
    refine lv_istore (lv' := [(5, .int z5), (0, .ref (ad 387)), (1, .int a1), (2, .int x2), (3, .int x3), (4, .int x4)]) hx hb dX12_hut_50 hl (by decide) rfl (fun ls hl => ?_)
    exact K52 σ τ0 H locs x2 x3 x4 z5 ls hR hF hFL hP hS (by omega) (by omega) (by omega) (by omega) (by omega) gSI gBI (lv_sub hl [1, 2, 3, 4, 5, 0] rfl) (by omega)
set_option maxHeartbeats 4000000 in
theorem B_X12_hut_52 (p : Program) (l : Launch) (e : Env) (s : State) (m : MethodId) (args : Array Value) (below : List Frame) (meth : Method) (c : Code) (D : va_G) (cA : Nat → ClassId) (ad : Nat → Nat) (σ0 : Nat → Nat → Int32) (τ0 : Nat → Nat → Int64) (a1 : Int32) (n : Nat) (C : Cy p s m args meth c cX12_hut 7 wsX12_hut RX12 D cA ad (some .int)) (gSI0 : SI σ0) (gBI0 : BI σ0) (K42 : J_X12_hut_42 p l e s m args below meth c D cA ad σ0 τ0 a1 n) (K52 : J_X12_hut_52 p l e s m args below meth c D cA ad σ0 τ0 a1 n) : J_X12_hut_52 p l e s m args below meth c D cA ad σ0 τ0 a1 (n + 1) := by
  obtain ⟨hx, hb, hml, hown, hts, hK, hk, hr, hI, hN⟩ := C
  intro σ τ H locs x2 x3 x4 x5 ls hR hF hFL hP hS hc0 hc1 hc2 hc3 hc4 gSI gBI hl hm
  obtain rfl := FrL.nil hFL
  refine lv_iload hx hb dX12_hut_52 (lv_at hl 5 rfl) ?_
  refine r_bipush hx hb dX12_hut_54 (by decide) (fun z1 ez1 => ?_)
  refine r_icmp_gt (tgt := 113) hx hb dX12_hut_56 (by decide) (fun c2 => ?_) (fun c2 => ?_)
  · refine r_iinc (k := 4) (lv1 := fun z3 => [(4, .int z3), (0, .ref (ad 387)), (1, .int a1), (2, .int x2), (3, .int x3), (5, .int x5)]) hx hb dX12_hut_113 hl rfl (by decide) (fun _ => rfl) (by decide) (by omega) (fun z3 ls ez3 hl => ?_)
    refine lv_goto (tgt := 42) hx hb dX12_hut_116 (by decide) ?_
    exact K42 σ τ0 H locs x2 x3 z3 ls hR hF hFL hP hS (by omega) (by omega) (by omega) (by omega) gSI gBI (lv_sub hl [1, 2, 3, 4, 0] rfl) (by omega)
  · refine lv_aload_n hx hb dX12_hut_59 rfl (lv_at hl 0 rfl) ?_
    refine fg_12_22 (k := 387) hx hb hts in_X12_hut_12 hown hK hP (by decide) (by decide) (hts _ lk_X12_hut_50) dX12_hut_60 ?_
    refine lv_iload_n hx hb dX12_hut_63 rfl (lv_at hl 1 rfl) ?_
    refine lv_iload hx hb dX12_hut_64 (lv_at hl 5 rfl) ?_
    obtain ⟨j4, ej4⟩ : ∃ j : Nat, a1.toInt = (j : Int) := ⟨_, ti_nat (by omega)⟩
    refine as_mp8 (k := 394) (j := j4) hx hb hK hP hI hR hS (by decide) (by decide) ej4 (by omega) dX12_hut_66 (fun σ5 H5 locs5 u5 v5 hR hP hS => ?_)
    have hF := hF.puts u5 2 rfl (by decide) (by decide) (by omega) (by omega)
    have gBI := BI.putV gBI u5 (by intro q hq; simp only [Gd_BI, List.mem_cons, List.not_mem_nil, or_false] at hq; rcases hq with rfl <;> dsimp only [inRc] <;> omega)
    have gSI := SI.putV gSI hR u5 (by intro q hq; simp only [Gd_SI, List.mem_cons, List.not_mem_nil, or_false] at hq; rcases hq with rfl | rfl | rfl <;> dsimp only [inRc] <;> omega)
    have t6 : (σ5 389 2).toInt = (σ 389 2).toInt := congrArg Int32.toInt (u5 389 2 (by omega))
    refine lv_aload_n hx hb dX12_hut_67 rfl (lv_at hl 0 rfl) ?_
    refine fg_12_23 (k := 387) hx hb hts in_X12_hut_12 hown hK hP (by decide) (by decide) (hts _ lk_X12_hut_53) dX12_hut_68 ?_
    refine lv_iload_n hx hb dX12_hut_71 rfl (lv_at hl 1 rfl) ?_
    refine lv_iload hx hb dX12_hut_72 (lv_at hl 4 rfl) ?_
    refine as_mp8 (k := 395) (j := j4) hx hb hK hP hI hR hS (by decide) (by decide) ej4 (by omega) dX12_hut_74 (fun σ7 H7 locs7 u7 v7 hR hP hS => ?_)
    have hF := hF.puts u7 3 rfl (by decide) (by decide) (by omega) (by omega)
    have gBI := BI.putV gBI u7 (by intro q hq; simp only [Gd_BI, List.mem_cons, List.not_mem_nil, or_false] at hq; rcases hq with rfl <;> dsimp only [inRc] <;> omega)
    have gSI := SI.putV gSI hR u7 (by intro q hq; simp only [Gd_SI, List.mem_cons, List.not_mem_nil, or_false] at hq; rcases hq with rfl | rfl | rfl <;> dsimp only [inRc] <;> omega)
    have t8 : (σ7 389 2).toInt = (σ5 389 2).toInt := congrArg Int32.toInt (u7 389 2 (by omega))
    have t9 : (σ7 394 j4).toInt = (σ5 394 j4).toInt := congrArg Int32.toInt (u7 394 j4 (by omega))
    refine lv_aload_n hx hb dX12_hut_75 rfl (lv_at hl 0 rfl) ?_
    refine lv_iload_n hx hb dX12_hut_76 rfl (lv_at hl 1 rfl) ?_
    refine r_cVi (k := 387) (As := [.int a1]) (rest := []) ⟨hx, hb, hml, hown, hts⟩ hK hP hN hS (c_X12_meanOf l D cA ad hI σ7 τ0 hR a1 (by omega)) (cwV 1 hts gX12_hut_X12_meanOf rfl rfl rfl (by decide +kernel) ⟨by decide, by decide⟩) (rv_M hK hP (by decide) (by decide)) rfl hl.1 rfl (Nat.le_of_ble_eq_true rfl) dX12_hut_77 (Nat.zero_le _) (Nat.zero_le _) (fun r10 u10 H10 locs10 hp10 hP hS => ?_)
    obtain ⟨σ10, τ10⟩ := u10
    obtain ⟨hR, f10, fL10⟩ : P_X12_meanOf σ7 τ0 a1 r10 σ10 τ10 := hp10
    have hP : va_P D vwCl (gw cA ad σ10 τ10) H10 := hP
    obtain rfl := FrL.nil fL10
    have hF := hF.step f10 (by decide)
    have gBI := BI.fr gBI f10 (by decide)
    have gSI := SI.fr gSI hR f10 (by decide)
    have t11 : (σ10 389 2).toInt = (σ7 389 2).toInt := congrArg Int32.toInt (f10.at 389 2 (by decide))
    have t12 : (σ10 394 j4).toInt = (σ7 394 j4).toInt := congrArg Int32.toInt (f10.atV 394 j4 (by intro q hq; simp only [L_X12_meanOf, List.mem_cons, List.not_mem_nil, or_false] at hq; rcases hq with rfl | rfl <;> dsimp only <;> omega))
    have t13 : (σ10 395 j4).toInt = (σ7 395 j4).toInt := congrArg Int32.toInt (f10.atV 395 j4 (by intro q hq; simp only [L_X12_meanOf, List.mem_cons, List.not_mem_nil, or_false] at hq; rcases hq with rfl | rfl <;> dsimp only <;> omega))
    refine lv_istore (lv' := [(6, .int r10), (0, .ref (ad 387)), (1, .int a1), (2, .int x2), (3, .int x3), (4, .int x4), (5, .int x5)]) hx hb dX12_hut_80 hl (by decide) rfl (fun ls hl => ?_)
    refine lv_iload_n hx hb dX12_hut_82 rfl (lv_at hl 3 rfl) ?_
    refine r_if_lt (tgt := 95) hx hb dX12_hut_83 (by decide) (fun c14 => ?_) (fun c14 => ?_)
    · refine r_bipush hx hb dX12_hut_95 (by decide) (fun z15 ez15 => ?_)
      refine lv_iload hx hb dX12_hut_97 (lv_at hl 5 rfl) ?_
      refine r_imulL (n := 100) hx hb dX12_hut_99 (by omega) (by omega) (fun z16 ez16 => ?_)
      refine lv_iload hx hb dX12_hut_100 (lv_at hl 6 rfl) ?_
      refine r_iadd hx hb dX12_hut_102 (by omega) (fun z17 ez17 => ?_)
      refine lv_istore_n (lv' := [(2, .int z17), (6, .int r10), (0, .ref (ad 387)), (1, .int a1), (3, .int x3), (4, .int x4), (5, .int x5)]) hx hb dX12_hut_103 rfl hl (by decide) rfl (fun ls hl => ?_)
      refine lv_iload hx hb dX12_hut_104 (lv_at hl 1 rfl) ?_
      refine lv_istore_n (lv' := [(3, .int r10), (2, .int z17), (6, .int r10), (0, .ref (ad 387)), (1, .int a1), (4, .int x4), (5, .int x5)]) hx hb dX12_hut_106 rfl hl (by decide) rfl (fun ls hl => ?_)
      refine r_iinc (k := 6) (lv1 := fun z18 => [(5, .int z18), (3, .int r10), (2, .int z17), (6, .int r10), (0, .ref (ad 387)), (1, .int a1), (4, .int x4)]) hx hb dX12_hut_107 hl rfl (by decide) (fun _ => rfl) (by decide) (by omega) (fun z18 ls ez18 hl => ?_)
      refine lv_goto (tgt := 52) hx hb dX12_hut_110 (by decide) ?_
      exact K52 σ10 τ0 H10 locs10 z17 r10 x4 z18 ls hR hF hFL hP hS (by omega) (by omega) (by omega) (by omega) (by omega) gSI gBI (lv_sub hl [4, 5, 2, 1, 6, 0] rfl) (by omega)
    · refine lv_iload hx hb dX12_hut_86 (lv_at hl 0 rfl) ?_
      refine lv_iload_n hx hb dX12_hut_88 rfl (lv_at hl 4 rfl) ?_
      refine r_icmp_gt (tgt := 95) hx hb dX12_hut_89 (by decide) (fun c19 => ?_) (fun c19 => ?_)
      · refine r_bipush hx hb dX12_hut_95 (by decide) (fun z20 ez20 => ?_)
        refine lv_iload hx hb dX12_hut_97 (lv_at hl 5 rfl) ?_
        refine r_imulL (n := 100) hx hb dX12_hut_99 (by omega) (by omega) (fun z21 ez21 => ?_)
        refine lv_iload hx hb dX12_hut_100 (lv_at hl 6 rfl) ?_
        refine r_iadd hx hb dX12_hut_102 (by omega) (fun z22 ez22 => ?_)
        refine lv_istore_n (lv' := [(2, .int z22), (6, .int r10), (0, .ref (ad 387)), (1, .int a1), (3, .int x3), (4, .int x4), (5, .int x5)]) hx hb dX12_hut_103 rfl hl (by decide) rfl (fun ls hl => ?_)
        refine lv_iload hx hb dX12_hut_104 (lv_at hl 1 rfl) ?_
        refine lv_istore_n (lv' := [(3, .int r10), (2, .int z22), (6, .int r10), (0, .ref (ad 387)), (1, .int a1), (4, .int x4), (5, .int x5)]) hx hb dX12_hut_106 rfl hl (by decide) rfl (fun ls hl => ?_)
        refine r_iinc (k := 6) (lv1 := fun z23 => [(5, .int z23), (3, .int r10), (2, .int z22), (6, .int r10), (0, .ref (ad 387)), (1, .int a1), (4, .int x4)]) hx hb dX12_hut_107 hl rfl (by decide) (fun _ => rfl) (by decide) (by omega) (fun z23 ls ez23 hl => ?_)
        refine lv_goto (tgt := 52) hx hb dX12_hut_110 (by decide) ?_
        exact K52 σ10 τ0 H10 locs10 z22 r10 x4 z23 ls hR hF hFL hP hS (by omega) (by omega) (by omega) (by omega) (by omega) gSI gBI (lv_sub hl [4, 5, 2, 1, 6, 0] rfl) (by omega)
      · refine lv_goto (tgt := 107) hx hb dX12_hut_92 (by decide) ?_
        refine r_iinc (k := 6) (lv1 := fun z24 => [(5, .int z24), (6, .int r10), (0, .ref (ad 387)), (1, .int a1), (2, .int x2), (3, .int x3), (4, .int x4)]) hx hb dX12_hut_107 hl rfl (by decide) (fun _ => rfl) (by decide) (by omega) (fun z24 ls ez24 hl => ?_)
        refine lv_goto (tgt := 52) hx hb dX12_hut_110 (by decide) ?_
        exact K52 σ10 τ0 H10 locs10 x2 x3 x4 z24 ls hR hF hFL hP hS (by omega) (by omega) (by omega) (by omega) (by omega) gSI gBI (lv_sub hl [2, 3, 4, 5, 6, 0] rfl) (by omega)
theorem A_X12_hut (p : Program) (l : Launch) (e : Env) (s : State) (m : MethodId) (args : Array Value) (below : List Frame) (meth : Method) (c : Code) (D : va_G) (cA : Nat → ClassId) (ad : Nat → Nat) (σ0 : Nat → Nat → Int32) (τ0 : Nat → Nat → Int64) (a1 : Int32) (C : Cy p s m args meth c cX12_hut 7 wsX12_hut RX12 D cA ad (some .int)) (gSI0 : SI σ0) (gBI0 : BI σ0) : ∀ n : Nat, J_X12_hut_42 p l e s m args below meth c D cA ad σ0 τ0 a1 n ∧ J_X12_hut_52 p l e s m args below meth c D cA ad σ0 τ0 a1 n := by
  intro n
  induction n with
  | zero =>
    exact ⟨(by intro σ τ H locs x2 x3 x4 ls hR hF hFL hP hS hc0 hc1 hc2 hc3 gSI gBI hl hm; exfalso; omega), (by intro σ τ H locs x2 x3 x4 x5 ls hR hF hFL hP hS hc0 hc1 hc2 hc3 hc4 gSI gBI hl hm; exfalso; omega)⟩
  | succ n ih =>
    exact ⟨B_X12_hut_42 p l e s m args below meth c D cA ad σ0 τ0 a1 n C gSI0 gBI0 ih.1 ih.2, B_X12_hut_52 p l e s m args below meth c D cA ad σ0 τ0 a1 n C gSI0 gBI0 ih.1 ih.2⟩
set_option maxHeartbeats 4000000 in
theorem c_X12_hut (l : Launch) (D : va_G) (cA : Nat → ClassId) (ad : Nat → Nat) (hI : Inj ad) (σ0 : Nat → Nat → Int32) (τ0 : Nat → Nat → Int64) (hR : Rg σ0) (a1 : Int32) (gSI0 : SI σ0) (gBI0 : BI σ0) : Met l yX12_hut wsX12_hut ({ frames := 7, cells := 0, slots := 0, locals := 163 } : Room) (WQc D cA ad [.ref (ad 387), .int a1] σ0 τ0) (va_Qi (fun (r : Int32) (u : SS) => P_X12_hut σ0 τ0 a1 r u.1 u.2) (WB D cA ad) (AA ad)) 0 0 (AA ad) := by
  refine Met.ofW (cc := cX12_hut) (maxL := 7) (ret := (some .int)) (by decide) rfl ?_
  intro p e s m args below meth c s₁ B hml hv
  obtain ⟨rfl, hP, hK, hN⟩ := hv
  have C : Cy p s m _ meth c cX12_hut 7 wsX12_hut RX12 D cA ad (some .int) := ⟨B.exec, B.bytes, hml, findClass_of_methodNamed B.named, atoms_spec (ws := wsX12_hut) B.pre, hK, B.notSynchronized, B.returns, hI, hN⟩
  have hl := lv_entry ([.ref (ad 387), .int a1]) (n := 7) (Nat.le_of_ble_eq_true rfl)
  rw [lg_entry_eq]
  generalize (lg_sl ([.ref (ad 387), .int a1]) ++ List.replicate (7 - (lg_sl ([.ref (ad 387), .int a1])).length) Slot.unset).toArray = ls at hl ⊢
  have hl : lv_has ls 7 [(0, .ref (ad 387)), (1, .int a1)] := hl
  have hS : va_S (AA ad) s.heap s.heap [] := va_S.rf
  have hF : Fr L_X12_hut σ0 σ0 := Fr.rf
  have hFL : FrL LL_X12_hut τ0 τ0 := FrL.rf
  have gSI := gSI0
  have gBI := gBI0
  have hA := A_X12_hut p l e s m _ below meth c D cA ad σ0 τ0 a1 C gSI0 gBI0 2163
  have K42 := hA.1
  have K52 := hA.2
  clear hA
  obtain ⟨hx, hb, _, hown, hts, _, hk, hr, _, _⟩ := C
  refine lv_aload_n hx hb dX12_hut_0 rfl (lv_at hl 0 rfl) ?_
  refine r_iconst hx hb dX12_hut_1 (by decide) (fun z1 ez1 => ?_)
  refine fp_12_0 (k := 387) hx hb hts in_X12_hut_12 hown hK hP (by decide) (by decide) (hts _ lk_X12_hut_1) hI hR hS (by omega) dX12_hut_2 (fun σ2 H2 locs2 u2 v2 hR hP hS => ?_)
  have hF := hF.puts u2 0 rfl (by decide) (by decide) (by decide) (by decide)
  have gBI := BI.put gBI u2 (by decide)
  have gSI := SI.put gSI hR u2 (by decide)
  refine lv_aload_n hx hb dX12_hut_5 rfl (lv_at hl 0 rfl) ?_
  refine lv_iload_n hx hb dX12_hut_6 rfl (lv_at hl 1 rfl) ?_
  refine r_cVi (k := 387) (As := [.int a1]) (rest := []) ⟨hx, hb, hml, hown, hts⟩ hK hP hN hS (c_X12_isMan l D cA ad hI σ2 τ0 hR a1) (cwV 1 hts gX12_hut_X12_isMan rfl rfl rfl (by decide +kernel) ⟨by decide, by decide⟩) (rv_M hK hP (by decide) (by decide)) rfl hl.1 rfl (Nat.le_of_ble_eq_true rfl) dX12_hut_7 (Nat.zero_le _) (Nat.zero_le _) (fun r3 u3 H3 locs3 hp3 hP hS => ?_)
  obtain ⟨σ3, τ3⟩ := u3
  obtain ⟨hR, f3, fL3, hq3, hp3_0⟩ : P_X12_isMan σ2 τ0 a1 r3 σ3 τ3 := hp3
  have hP : va_P D vwCl (gw cA ad σ3 τ3) H3 := hP
  obtain rfl := FrL.nil fL3
  obtain rfl := Fr.nil f3
  refine r_if_eq (tgt := 22) hx hb dX12_hut_10 (by decide) (fun c4 => ?_) (fun c4 => ?_)
  · clear hp3_0
    refine r_iconst hx hb dX12_hut_22 (by decide) (fun z5 ez5 => ?_)
    exact r_iret hx hb hr hK hP hS hk dX12_hut_23 (show P_X12_hut σ0 τ0 a1 z5 σ2 τ0 from ⟨hR, hF, hFL, by omega, gBI⟩)
  · replace hp3_0 := hp3_0.resolve_left (by omega)
    refine lv_aload_n hx hb dX12_hut_13 rfl (lv_at hl 0 rfl) ?_
    refine fg_12_6 (k := 387) hx hb hts in_X12_hut_12 hown hK hP (by decide) (by decide) (hts _ lk_X12_hut_33) dX12_hut_14 ?_
    refine r_iconst hx hb dX12_hut_17 (by decide) (fun z6 ez6 => ?_)
    refine ad_ms (k := 389) (j := 2) hx hb hK hP (by decide) (by decide) (by omega) (by omega) dX12_hut_18 ?_
    have hr7 := ra_ms_1 hR (k := 389) (j := 2) (by decide) (by decide) (by decide) (by decide)
    refine r_if_ne (tgt := 24) hx hb dX12_hut_19 (by decide) (fun c8 => ?_) (fun c8 => ?_)
    · refine lv_aload_n hx hb dX12_hut_24 rfl (lv_at hl 0 rfl) ?_
      refine r_cVv (k := 387) (As := []) (rest := []) ⟨hx, hb, hml, hown, hts⟩ hK hP hN hS (c_X12_asNow l D cA ad hI σ2 τ0 hR) (cwV 0 hts gX12_hut_X12_asNow rfl rfl rfl (by decide +kernel) ⟨by decide, by decide⟩) (rv_M hK hP (by decide) (by decide)) rfl hl.1 rfl (Nat.le_of_ble_eq_true rfl) dX12_hut_25 (Nat.zero_le _) (Nat.zero_le _) (fun u9 H9 locs9 hp9 hP hS => ?_)
      obtain ⟨σ9, τ9⟩ := u9
      obtain ⟨hR, f9, fL9⟩ : P_X12_asNow σ2 τ0 σ9 τ9 := hp9
      have hP : va_P D vwCl (gw cA ad σ9 τ9) H9 := hP
      obtain rfl := FrL.nil fL9
      have hF := hF.step f9 (by decide)
      have gBI := BI.fr gBI f9 (by decide)
      have gSI := SI.fr gSI hR f9 (by decide)
      have t10 : (σ9 389 2).toInt = (σ2 389 2).toInt := congrArg Int32.toInt (f9.at 389 2 (by decide))
      refine lv_aload_n hx hb dX12_hut_28 rfl (lv_at hl 0 rfl) ?_
      refine fg_12_24 (k := 387) hx hb hts in_X12_hut_12 hown hK hP (by decide) (by decide) (hts _ lk_X12_hut_56) dX12_hut_29 ?_
      refine lv_iload_n hx hb dX12_hut_32 rfl (lv_at hl 1 rfl) ?_
      refine r_iconst hx hb dX12_hut_33 (by decide) (fun z11 ez11 => ?_)
      obtain ⟨j12, ej12⟩ : ∃ j : Nat, a1.toInt = (j : Int) := ⟨_, ti_nat (by omega)⟩
      refine as_mp8 (k := 396) (j := j12) hx hb hK hP hI hR hS (by decide) (by decide) ej12 (by omega) dX12_hut_34 (fun σ13 H13 locs13 u13 v13 hR hP hS => ?_)
      have hF := hF.puts u13 1 rfl (by decide) (by decide) (by omega) (by omega)
      have gBI := BI.putV gBI u13 (by intro q hq; simp only [Gd_BI, List.mem_cons, List.not_mem_nil, or_false] at hq; rcases hq with rfl <;> dsimp only [inRc] <;> omega)
      have gSI := SI.putV gSI hR u13 (by intro q hq; simp only [Gd_SI, List.mem_cons, List.not_mem_nil, or_false] at hq; rcases hq with rfl | rfl | rfl <;> dsimp only [inRc] <;> omega)
      have t14 : (σ13 389 2).toInt = (σ9 389 2).toInt := congrArg Int32.toInt (u13 389 2 (by omega))
      refine r_iconst hx hb dX12_hut_35 (by decide) (fun z15 ez15 => ?_)
      refine lv_istore_n (lv' := [(2, .int z15), (0, .ref (ad 387)), (1, .int a1)]) hx hb dX12_hut_36 rfl hl (by decide) rfl (fun ls hl => ?_)
      refine r_iconst hx hb dX12_hut_37 (by decide) (fun z16 ez16 => ?_)
      refine lv_istore_n (lv' := [(3, .int z16), (2, .int z15), (0, .ref (ad 387)), (1, .int a1)]) hx hb dX12_hut_38 rfl hl (by decide) rfl (fun ls hl => ?_)
      refine r_iconst hx hb dX12_hut_39 (by decide) (fun z17 ez17 => ?_)
      refine lv_istore (lv' := [(4, .int z17), (3, .int z16), (2, .int z15), (0, .ref (ad 387)), (1, .int a1)]) hx hb dX12_hut_40 hl (by decide) rfl (fun ls hl => ?_)
      exact K42 σ13 τ0 H13 locs13 z15 z16 z17 ls hR hF hFL hP hS (by omega) (by omega) (by omega) (by omega) gSI gBI (lv_sub hl [3, 4, 2, 1, 0] rfl) (by omega)
    · refine r_iconst hx hb dX12_hut_22 (by decide) (fun z18 ez18 => ?_)
      exact r_iret hx hb hr hK hP hS hk dX12_hut_23 (show P_X12_hut σ0 τ0 a1 z18 σ2 τ0 from ⟨hR, hF, hFL, by omega, gBI⟩)
theorem in_X12_better_12 : ∀ w ∈ u_ws RX12 TX12 47, w ∈ wsX12_better := by decide +kernel
theorem lk_X12_better_378 : Cond.fieldLink RX12 378 "CuckooSharesModel" "hasBetter" "Z" ∈ wsX12_better := by decide +kernel
theorem lk_X12_better_382 : Cond.fieldLink RX12 382 "CuckooSharesModel" "betterUp" "I" ∈ wsX12_better := by decide +kernel
theorem lk_X12_better_385 : Cond.fieldLink RX12 385 "CuckooSharesModel" "betterBelow" "I" ∈ wsX12_better := by decide +kernel
abbrev L_X12_better : List Rc := [(387, 387, 0, 0)]
abbrev LL_X12_better : List Rc := []
def P_X12_better (σ0 : Nat → Nat → Int32) (τ0 : Nat → Nat → Int64) (a1 : Int32) (r : Int32) (σ : Nat → Nat → Int32) (τ : Nat → Nat → Int64) : Prop := Rg σ ∧ Fr L_X12_better σ0 σ ∧ FrL LL_X12_better τ0 τ
set_option maxHeartbeats 4000000 in
theorem c_X12_better (l : Launch) (D : va_G) (cA : Nat → ClassId) (ad : Nat → Nat) (hI : Inj ad) (σ0 : Nat → Nat → Int32) (τ0 : Nat → Nat → Int64) (hR : Rg σ0) (a1 : Int32) (hpre0 : (σ0 387 32).toInt = 0 ∨ (σ0 387 31).toInt ≠ 0) : Met l yX12_better wsX12_better ({ frames := 1, cells := 0, slots := 0, locals := 25 } : Room) (WQc D cA ad [.ref (ad 387), .int a1] σ0 τ0) (va_Qi (fun (r : Int32) (u : SS) => P_X12_better σ0 τ0 a1 r u.1 u.2) (WB D cA ad) (AA ad)) 0 0 (AA ad) := by
  refine Met.ofW (cc := cX12_better) (maxL := 2) (ret := (some .int)) (by decide) rfl ?_
  intro p e s m args below meth c s₁ B hml hv
  obtain ⟨rfl, hP, hK, hN⟩ := hv
  have C : Cy p s m _ meth c cX12_better 2 wsX12_better RX12 D cA ad (some .int) := ⟨B.exec, B.bytes, hml, findClass_of_methodNamed B.named, atoms_spec (ws := wsX12_better) B.pre, hK, B.notSynchronized, B.returns, hI, hN⟩
  have hl := lv_entry ([.ref (ad 387), .int a1]) (n := 2) (Nat.le_of_ble_eq_true rfl)
  rw [lg_entry_eq]
  generalize (lg_sl ([.ref (ad 387), .int a1]) ++ List.replicate (2 - (lg_sl ([.ref (ad 387), .int a1])).length) Slot.unset).toArray = ls at hl ⊢
  have hl : lv_has ls 2 [(0, .ref (ad 387)), (1, .int a1)] := hl
  have hS : va_S (AA ad) s.heap s.heap [] := va_S.rf
  have hF : Fr L_X12_better σ0 σ0 := Fr.rf
  have hFL : FrL LL_X12_better τ0 τ0 := FrL.rf
  obtain ⟨hx, hb, _, hown, hts, _, hk, hr, _, _⟩ := C
  have hrt32 := rg_12_32 hR (k := 387) (by decide) (by decide)
  refine lv_aload_n hx hb dX12_better_0 rfl (lv_at hl 0 rfl) ?_
  refine lv_aload_n hx hb dX12_better_1 rfl (lv_at hl 0 rfl) ?_
  refine fg_12_32 (k := 387) hx hb hts in_X12_better_12 hown hK hP (by decide) (by decide) (hts _ lk_X12_better_378) dX12_better_2 ?_
  refine r_if_eq (tgt := 17) hx hb dX12_better_5 (by decide) (fun c1 => ?_) (fun c1 => ?_)
  · refine r_iconst hx hb dX12_better_17 (by decide) (fun z2 ez2 => ?_)
    refine lv_goto (tgt := 22) hx hb dX12_better_18 (by decide) ?_
    refine r_cVi (k := 387) (As := [.int z2]) (rest := []) ⟨hx, hb, hml, hown, hts⟩ hK hP hN hS (c_X12_throwsIf l D cA ad hI σ0 τ0 hR z2 (by omega)) (cwV 1 hts gX12_better_X12_throwsIf rfl rfl rfl (by decide +kernel) ⟨by decide, by decide⟩) (rv_M hK hP (by decide) (by decide)) rfl hl.1 rfl (Nat.le_of_ble_eq_true rfl) dX12_better_22 (Nat.zero_le _) (Nat.zero_le _) (fun r3 u3 H3 locs3 hp3 hP hS => ?_)
    obtain ⟨σ3, τ3⟩ := u3
    obtain ⟨hR, f3, fL3, hq3, hp3_0⟩ : P_X12_throwsIf σ0 τ0 z2 r3 σ3 τ3 := hp3
    have hP : va_P D vwCl (gw cA ad σ3 τ3) H3 := hP
    obtain rfl := FrL.nil fL3
    have hF := hF.step f3 (by decide)
    have t4 : (σ3 387 31).toInt = (σ0 387 31).toInt := congrArg Int32.toInt (f3.at 387 31 (by decide))
    have t5 : (σ3 387 32).toInt = (σ0 387 32).toInt := congrArg Int32.toInt (f3.at 387 32 (by decide))
    refine r_if_eq (tgt := 32) hx hb dX12_better_25 (by decide) (fun c6 => ?_) (fun c6 => ?_)
    · exfalso; omega
    · refine r_iconst hx hb dX12_better_28 (by decide) (fun z7 ez7 => ?_)
      refine lv_goto (tgt := 44) hx hb dX12_better_29 (by decide) ?_
      exact r_iret hx hb hr hK hP hS hk dX12_better_44 (show P_X12_better σ0 τ0 a1 z7 σ3 τ0 from ⟨hR, hF, hFL⟩)
  · refine lv_iload_n hx hb dX12_better_8 rfl (lv_at hl 1 rfl) ?_
    refine r_iconst hx hb dX12_better_9 (by decide) (fun z8 ez8 => ?_)
    refine r_iconst hx hb dX12_better_10 (by decide) (fun z9 ez9 => ?_)
    refine r_cSi (As := [.int a1, .int z8, .int z9]) (rest := [.ref (ad 387)]) ⟨hx, hb, hml, hown, hts⟩ hK hP hN hS (c_X12_isIn l D cA ad hI σ0 τ0 hR a1 z8 z9) (va_cwS 3 hts gX12_better_X12_isIn rfl rfl rfl (by decide +kernel) ⟨by decide, by decide⟩) rfl hl.1 rfl (Nat.le_of_ble_eq_true rfl) dX12_better_11 (Nat.zero_le _) (Nat.zero_le _) (fun r10 u10 H10 locs10 hp10 hP hS => ?_)
    obtain ⟨σ10, τ10⟩ := u10
    obtain ⟨hR, f10, fL10, hq10, hp10_0, hp10_1⟩ : P_X12_isIn σ0 τ0 a1 z8 z9 r10 σ10 τ10 := hp10
    have hP : va_P D vwCl (gw cA ad σ10 τ10) H10 := hP
    obtain rfl := FrL.nil fL10
    obtain rfl := Fr.nil f10
    refine r_if_ne (tgt := 21) hx hb dX12_better_14 (by decide) (fun c11 => ?_) (fun c11 => ?_)
    · replace hp10_0 := hp10_0.resolve_left (by omega)
      refine r_iconst hx hb dX12_better_21 (by decide) (fun z12 ez12 => ?_)
      refine r_cVi (k := 387) (As := [.int z12]) (rest := []) ⟨hx, hb, hml, hown, hts⟩ hK hP hN hS (c_X12_throwsIf l D cA ad hI σ0 τ0 hR z12 (by omega)) (cwV 1 hts gX12_better_X12_throwsIf rfl rfl rfl (by decide +kernel) ⟨by decide, by decide⟩) (rv_M hK hP (by decide) (by decide)) rfl hl.1 rfl (Nat.le_of_ble_eq_true rfl) dX12_better_22 (Nat.zero_le _) (Nat.zero_le _) (fun r13 u13 H13 locs13 hp13 hP hS => ?_)
      obtain ⟨σ13, τ13⟩ := u13
      obtain ⟨hR, f13, fL13, hq13, hp13_0⟩ : P_X12_throwsIf σ0 τ0 z12 r13 σ13 τ13 := hp13
      have hP : va_P D vwCl (gw cA ad σ13 τ13) H13 := hP
      obtain rfl := FrL.nil fL13
      have hF := hF.step f13 (by decide)
      have t14 : (σ13 387 31).toInt = (σ0 387 31).toInt := congrArg Int32.toInt (f13.at 387 31 (by decide))
      have t15 : (σ13 387 32).toInt = (σ0 387 32).toInt := congrArg Int32.toInt (f13.at 387 32 (by decide))
      refine r_if_eq (tgt := 32) hx hb dX12_better_25 (by decide) (fun c16 => ?_) (fun c16 => ?_)
      · refine lv_aload_n hx hb dX12_better_32 rfl (lv_at hl 0 rfl) ?_
        refine fg_12_30 (k := 387) hx hb hts in_X12_better_12 hown hK hP (by decide) (by decide) (hts _ lk_X12_better_382) dX12_better_33 ?_
        refine lv_aload_n hx hb dX12_better_36 rfl (lv_at hl 0 rfl) ?_
        refine fg_12_31 (k := 387) hx hb hts in_X12_better_12 hown hK hP (by decide) (by decide) (hts _ lk_X12_better_385) dX12_better_37 ?_
        refine lv_iload_n hx hb dX12_better_40 rfl (lv_at hl 1 rfl) ?_
        refine r_cSi (As := [.int (σ13 387 30), .int (σ13 387 31), .int a1]) (rest := []) ⟨hx, hb, hml, hown, hts⟩ hK hP hN hS (c_X12_part l D cA ad hI σ13 τ0 hR (σ13 387 30) (σ13 387 31) a1 (by omega) (by omega)) (va_cwS 3 hts gX12_better_X12_part rfl rfl rfl (by decide +kernel) ⟨by decide, by decide⟩) rfl hl.1 rfl (Nat.le_of_ble_eq_true rfl) dX12_better_41 (Nat.zero_le _) (Nat.zero_le _) (fun r17 u17 H17 locs17 hp17 hP hS => ?_)
        obtain ⟨σ17, τ17⟩ := u17
        obtain ⟨hR, f17, fL17⟩ : P_X12_part σ13 τ0 (σ13 387 30) (σ13 387 31) a1 r17 σ17 τ17 := hp17
        have hP : va_P D vwCl (gw cA ad σ17 τ17) H17 := hP
        obtain rfl := FrL.nil fL17
        obtain rfl := Fr.nil f17
        exact r_iret hx hb hr hK hP hS hk dX12_better_44 (show P_X12_better σ0 τ0 a1 r17 σ13 τ0 from ⟨hR, hF, hFL⟩)
      · exfalso; omega
    · clear hp10_0
      refine r_iconst hx hb dX12_better_17 (by decide) (fun z18 ez18 => ?_)
      refine lv_goto (tgt := 22) hx hb dX12_better_18 (by decide) ?_
      refine r_cVi (k := 387) (As := [.int z18]) (rest := []) ⟨hx, hb, hml, hown, hts⟩ hK hP hN hS (c_X12_throwsIf l D cA ad hI σ0 τ0 hR z18 (by omega)) (cwV 1 hts gX12_better_X12_throwsIf rfl rfl rfl (by decide +kernel) ⟨by decide, by decide⟩) (rv_M hK hP (by decide) (by decide)) rfl hl.1 rfl (Nat.le_of_ble_eq_true rfl) dX12_better_22 (Nat.zero_le _) (Nat.zero_le _) (fun r19 u19 H19 locs19 hp19 hP hS => ?_)
      obtain ⟨σ19, τ19⟩ := u19
      obtain ⟨hR, f19, fL19, hq19, hp19_0⟩ : P_X12_throwsIf σ0 τ0 z18 r19 σ19 τ19 := hp19
      have hP : va_P D vwCl (gw cA ad σ19 τ19) H19 := hP
      obtain rfl := FrL.nil fL19
      have hF := hF.step f19 (by decide)
      have t20 : (σ19 387 31).toInt = (σ0 387 31).toInt := congrArg Int32.toInt (f19.at 387 31 (by decide))
      have t21 : (σ19 387 32).toInt = (σ0 387 32).toInt := congrArg Int32.toInt (f19.at 387 32 (by decide))
      refine r_if_eq (tgt := 32) hx hb dX12_better_25 (by decide) (fun c22 => ?_) (fun c22 => ?_)
      · exfalso; omega
      · refine r_iconst hx hb dX12_better_28 (by decide) (fun z23 ez23 => ?_)
        refine lv_goto (tgt := 44) hx hb dX12_better_29 (by decide) ?_
        exact r_iret hx hb hr hK hP hS hk dX12_better_44 (show P_X12_better σ0 τ0 a1 z23 σ19 τ0 from ⟨hR, hF, hFL⟩)
theorem in_X12_octet_12 : ∀ w ∈ u_ws RX12 TX12 47, w ∈ wsX12_octet := by decide +kernel
theorem lk_X12_octet_14 : Cond.fieldLink RX12 14 "CuckooSharesModel" "tape" "[B" ∈ wsX12_octet := by decide +kernel
abbrev L_X12_octet : List Rc := []
abbrev LL_X12_octet : List Rc := []
def P_X12_octet (σ0 : Nat → Nat → Int32) (τ0 : Nat → Nat → Int64) (a1 : Int32) (r : Int32) (σ : Nat → Nat → Int32) (τ : Nat → Nat → Int64) : Prop := Rg σ ∧ Fr L_X12_octet σ0 σ ∧ FrL LL_X12_octet τ0 τ ∧ (0 ≤ r.toInt ∧ r.toInt ≤ 255) ∧ (r.toInt = OCt σ0 a1) ∧ (0 ≤ r.toInt ∧ r.toInt ≤ 255)
set_option maxHeartbeats 4000000 in
theorem c_X12_octet (l : Launch) (D : va_G) (cA : Nat → ClassId) (ad : Nat → Nat) (hI : Inj ad) (σ0 : Nat → Nat → Int32) (τ0 : Nat → Nat → Int64) (hR : Rg σ0) (a1 : Int32) (ha1 : 0 ≤ a1.toInt ∧ a1.toInt ≤ 939) : Met l yX12_octet wsX12_octet ({ frames := 0, cells := 0, slots := 0, locals := 0 } : Room) (WQc D cA ad [.ref (ad 387), .int a1] σ0 τ0) (va_Qi (fun (r : Int32) (u : SS) => P_X12_octet σ0 τ0 a1 r u.1 u.2) (WB D cA ad) (AA ad)) 0 0 (AA ad) := by
  refine Met.ofW (cc := cX12_octet) (maxL := 2) (ret := (some .int)) (by decide) rfl ?_
  intro p e s m args below meth c s₁ B hml hv
  obtain ⟨rfl, hP, hK, hN⟩ := hv
  have C : Cy p s m _ meth c cX12_octet 2 wsX12_octet RX12 D cA ad (some .int) := ⟨B.exec, B.bytes, hml, findClass_of_methodNamed B.named, atoms_spec (ws := wsX12_octet) B.pre, hK, B.notSynchronized, B.returns, hI, hN⟩
  have hl := lv_entry ([.ref (ad 387), .int a1]) (n := 2) (Nat.le_of_ble_eq_true rfl)
  rw [lg_entry_eq]
  generalize (lg_sl ([.ref (ad 387), .int a1]) ++ List.replicate (2 - (lg_sl ([.ref (ad 387), .int a1])).length) Slot.unset).toArray = ls at hl ⊢
  have hl : lv_has ls 2 [(0, .ref (ad 387)), (1, .int a1)] := hl
  have hS : va_S (AA ad) s.heap s.heap [] := va_S.rf
  have hF : Fr L_X12_octet σ0 σ0 := Fr.rf
  have hFL : FrL LL_X12_octet τ0 τ0 := FrL.rf
  obtain ⟨hx, hb, _, hown, hts, _, hk, hr, _, _⟩ := C
  refine lv_aload_n hx hb dX12_octet_0 rfl (lv_at hl 0 rfl) ?_
  refine fg_12_1 (k := 387) hx hb hts in_X12_octet_12 hown hK hP (by decide) (by decide) (hts _ lk_X12_octet_14) dX12_octet_1 ?_
  refine lv_iload_n hx hb dX12_octet_4 rfl (lv_at hl 1 rfl) ?_
  obtain ⟨j1, ej1⟩ : ∃ j : Nat, a1.toInt = (j : Int) := ⟨_, ti_nat (by omega)⟩
  refine ad_mtape (k := 388) (j := j1) hx hb hK hP (by decide) (by decide) ej1 (by omega) dX12_octet_5 ?_
  refine lv_sipush (v := 255) hx hb dX12_octet_6 (by decide) ?_
  have kcz2 : (255 : Int32).toInt = 255 := rfl
  refine lv_iand hx hb dX12_octet_9 ?_
  exact r_iret hx hb hr hK hP hS hk dX12_octet_10 (show P_X12_octet σ0 τ0 a1 ((σ0 388 j1) &&& 255) σ0 τ0 from ⟨hR, hF, hFL, ti_and (n := 8) (by decide), by unfold OCt; rw [show a1.toInt.toNat = j1 from (by omega)], ti_and (n := 8) (by decide)⟩)
theorem in_X12_whence_12 : ∀ w ∈ u_ws RX12 TX12 47, w ∈ wsX12_whence := by decide +kernel
theorem lk_X12_whence_1 : Cond.fieldLink RX12 1 "CuckooSharesModel" "thrown" "I" ∈ wsX12_whence := by decide +kernel
theorem lk_X12_whence_18 : Cond.fieldLink RX12 18 "CuckooSharesModel" "size" "I" ∈ wsX12_whence := by decide +kernel
theorem lk_X12_whence_33 : Cond.fieldLink RX12 33 "CuckooSharesModel" "s" "[I" ∈ wsX12_whence := by decide +kernel
abbrev L_X12_whence : List Rc := [(387, 387, 0, 0), (387, 387, 2, 5), (394, 394, 0, 7), (395, 395, 0, 7), (396, 396, 0, 7)]
abbrev LL_X12_whence : List Rc := []
def P_X12_whence (σ0 : Nat → Nat → Int32) (τ0 : Nat → Nat → Int64)  (r : Int32) (σ : Nat → Nat → Int32) (τ : Nat → Nat → Int64) : Prop := Rg σ ∧ Fr L_X12_whence σ0 σ ∧ FrL LL_X12_whence τ0 τ ∧ ((σ 387 2).toInt = 0)
def J_X12_whence_39 (p : Program) (l : Launch) (e : Env) (s : State) (m : MethodId) (args : Array Value) (below : List Frame) (meth : Method) (c : Code) (D : va_G) (cA : Nat → ClassId) (ad : Nat → Nat) (σ0 : Nat → Nat → Int32) (τ0 : Nat → Nat → Int64)  (n : Nat) : Prop := ∀ (σ : Nat → Nat → Int32) (τ : Nat → Nat → Int64) (H : Heap) (locs : List Loc) (x1 : Int32) (ls : Array Slot), Rg σ → Fr L_X12_whence σ0 σ → FrL LL_X12_whence τ0 τ → va_P D vwCl (gw cA ad σ τ) H → va_S (AA ad) s.heap H locs → (0 ≤ x1.toInt ∧ x1.toInt ≤ 41) → (2 ≤ (σ 387 3).toInt ∧ (σ 387 3).toInt ≤ 40) → (0 ≤ (σ 387 2).toInt ∧ (σ 387 2).toInt ≤ 0) → (∀ y : Int32, 0 ≤ y.toInt → y.toInt < x1.toInt → y.toInt % 2 = 0 → OCt σ0 y ≤ 7) → (x1.toInt % 2 = 0) → lv_has ls 6 [(0, .ref (ad 387)), (1, .int x1)] → 6457 * (41 - x1.toInt) + 6456 < (n : Int) → W p l e ({ frames := 3, cells := 0, slots := 0, locals := 69 } : Room) s m args below meth c H locs 0 0 (MQ below (va_Qi (fun (r : Int32) (u : SS) => P_X12_whence σ0 τ0 r u.1 u.2) (WB D cA ad) (AA ad)) args s 0 0 (AA ad)) (F0 m 39 ls [])
def J_X12_whence_75 (p : Program) (l : Launch) (e : Env) (s : State) (m : MethodId) (args : Array Value) (below : List Frame) (meth : Method) (c : Code) (D : va_G) (cA : Nat → ClassId) (ad : Nat → Nat) (σ0 : Nat → Nat → Int32) (τ0 : Nat → Nat → Int64)  (n : Nat) : Prop := ∀ (σ : Nat → Nat → Int32) (τ : Nat → Nat → Int64) (H : Heap) (locs : List Loc) (x1 : Int32) (x2 : Int32) (ls : Array Slot), Rg σ → Fr L_X12_whence σ0 σ → FrL LL_X12_whence τ0 τ → va_P D vwCl (gw cA ad σ τ) H → va_S (AA ad) s.heap H locs → (0 ≤ x2.toInt ∧ x2.toInt ≤ 4) → (2 ≤ (σ 387 3).toInt ∧ (σ 387 3).toInt ≤ 40) → (0 ≤ (σ 387 2).toInt ∧ (σ 387 2).toInt ≤ 0) → (∀ y : Int32, 0 ≤ y.toInt → y.toInt < (σ 387 3).toInt → y.toInt % 2 = 0 → OCt σ0 y ≤ 7) → lv_has ls 6 [(0, .ref (ad 387)), (1, .int x1), (2, .int x2)] → 1076 * (4 - x2.toInt) + 1075 < (n : Int) → W p l e ({ frames := 3, cells := 0, slots := 0, locals := 69 } : Room) s m args below meth c H locs 0 0 (MQ below (va_Qi (fun (r : Int32) (u : SS) => P_X12_whence σ0 τ0 r u.1 u.2) (WB D cA ad) (AA ad)) args s 0 0 (AA ad)) (F0 m 75 ls [])
def J_X12_whence_90 (p : Program) (l : Launch) (e : Env) (s : State) (m : MethodId) (args : Array Value) (below : List Frame) (meth : Method) (c : Code) (D : va_G) (cA : Nat → ClassId) (ad : Nat → Nat) (σ0 : Nat → Nat → Int32) (τ0 : Nat → Nat → Int64)  (n : Nat) : Prop := ∀ (σ : Nat → Nat → Int32) (τ : Nat → Nat → Int64) (H : Heap) (locs : List Loc) (x1 : Int32) (x2 : Int32) (x3 : Int32) (x4 : Int32) (ls : Array Slot), Rg σ → Fr L_X12_whence σ0 σ → FrL LL_X12_whence τ0 τ → va_P D vwCl (gw cA ad σ τ) H → va_S (AA ad) s.heap H locs → (0 ≤ x2.toInt ∧ x2.toInt ≤ 3) → (0 ≤ x3.toInt ∧ x3.toInt ≤ 1) → (0 ≤ x4.toInt ∧ x4.toInt ≤ 41) → (2 ≤ (σ 387 3).toInt ∧ (σ 387 3).toInt ≤ 40) → (0 ≤ (σ 387 2).toInt ∧ (σ 387 2).toInt ≤ 0) → (∀ y : Int32, 0 ≤ y.toInt → y.toInt < (σ 387 3).toInt → y.toInt % 2 = 0 → OCt σ0 y ≤ 7) → (x4.toInt % 2 = 0) → lv_has ls 6 [(0, .ref (ad 387)), (1, .int x1), (2, .int x2), (3, .int x3), (4, .int x4)] → 25 * (41 - x4.toInt) + 1076 * (4 - x2.toInt) + 24 < (n : Int) → W p l e ({ frames := 3, cells := 0, slots := 0, locals := 69 } : Room) s m args below meth c H locs 0 0 (MQ below (va_Qi (fun (r : Int32) (u : SS) => P_X12_whence σ0 τ0 r u.1 u.2) (WB D cA ad) (AA ad)) args s 0 0 (AA ad)) (F0 m 90 ls [])
def J_X12_whence_108 (p : Program) (l : Launch) (e : Env) (s : State) (m : MethodId) (args : Array Value) (below : List Frame) (meth : Method) (c : Code) (D : va_G) (cA : Nat → ClassId) (ad : Nat → Nat) (σ0 : Nat → Nat → Int32) (τ0 : Nat → Nat → Int64)  (n : Nat) : Prop := ∀ (σ : Nat → Nat → Int32) (τ : Nat → Nat → Int64) (H : Heap) (locs : List Loc) (x1 : Int32) (x2 : Int32) (x3 : Int32) (x4 : Int32) (x5 : Int32) (ls : Array Slot), Rg σ → Fr L_X12_whence σ0 σ → FrL LL_X12_whence τ0 τ → va_P D vwCl (gw cA ad σ τ) H → va_S (AA ad) s.heap H locs → (0 ≤ x2.toInt ∧ x2.toInt ≤ 3) → (0 ≤ x3.toInt ∧ x3.toInt ≤ 1) → (0 ≤ x4.toInt ∧ x4.toInt ≤ 39) → (0 ≤ x5.toInt ∧ x5.toInt ≤ 10) → (2 ≤ (σ 387 3).toInt ∧ (σ 387 3).toInt ≤ 40) → (0 ≤ (σ 387 2).toInt ∧ (σ 387 2).toInt ≤ 0) → (∀ y : Int32, 0 ≤ y.toInt → y.toInt < (σ 387 3).toInt → y.toInt % 2 = 0 → OCt σ0 y ≤ 7) → (x4.toInt % 2 = 0) → (x4.toInt < (σ 387 3).toInt) → lv_has ls 6 [(0, .ref (ad 387)), (1, .int x1), (2, .int x2), (3, .int x3), (4, .int x4), (5, .int x5)] → 25 * (41 - x4.toInt) + 1076 * (4 - x2.toInt) + 2 * (10 - x5.toInt) + 1 < (n : Int) → W p l e ({ frames := 3, cells := 0, slots := 0, locals := 69 } : Room) s m args below meth c H locs 0 0 (MQ below (va_Qi (fun (r : Int32) (u : SS) => P_X12_whence σ0 τ0 r u.1 u.2) (WB D cA ad) (AA ad)) args s 0 0 (AA ad)) (F0 m 108 ls [])
set_option maxHeartbeats 4000000 in
theorem B_X12_whence_39 (p : Program) (l : Launch) (e : Env) (s : State) (m : MethodId) (args : Array Value) (below : List Frame) (meth : Method) (c : Code) (D : va_G) (cA : Nat → ClassId) (ad : Nat → Nat) (σ0 : Nat → Nat → Int32) (τ0 : Nat → Nat → Int64)  (n : Nat) (C : Cy p s m args meth c cX12_whence 6 wsX12_whence RX12 D cA ad (some .int))  (K39 : J_X12_whence_39 p l e s m args below meth c D cA ad σ0 τ0 n) (K75 : J_X12_whence_75 p l e s m args below meth c D cA ad σ0 τ0 n) (K90 : J_X12_whence_90 p l e s m args below meth c D cA ad σ0 τ0 n) (K108 : J_X12_whence_108 p l e s m args below meth c D cA ad σ0 τ0 n) : J_X12_whence_39 p l e s m args below meth c D cA ad σ0 τ0 (n + 1) := by
  obtain ⟨hx, hb, hml, hown, hts, hK, hk, hr, hI, hN⟩ := C
  intro σ τ H locs x1 ls hR hF hFL hP hS hc0 hc1 hc2 hi0 hi1 hl hm
  obtain rfl := FrL.nil hFL
  refine lv_iload_n hx hb dX12_whence_39 rfl (lv_at hl 1 rfl) ?_
  refine lv_aload_n hx hb dX12_whence_40 rfl (lv_at hl 0 rfl) ?_
  refine fg_12_3 (k := 387) hx hb hts in_X12_whence_12 hown hK hP (by decide) (by decide) (hts _ lk_X12_whence_18) dX12_whence_41 ?_
  refine r_icmp_ge (tgt := 67) hx hb dX12_whence_44 (by decide) (fun c1 => ?_) (fun c1 => ?_)
  · refine lv_aload_n hx hb dX12_whence_67 rfl (lv_at hl 0 rfl) ?_
    refine r_cVv (k := 387) (As := []) (rest := []) ⟨hx, hb, hml, hown, hts⟩ hK hP hN hS (c_X12_asNow l D cA ad hI σ τ0 hR) (cwV 0 hts gX12_whence_X12_asNow rfl rfl rfl (by decide +kernel) ⟨by decide, by decide⟩) (rv_M hK hP (by decide) (by decide)) rfl hl.1 rfl (Nat.le_of_ble_eq_true rfl) dX12_whence_68 (Nat.zero_le _) (Nat.zero_le _) (fun u2 H2 locs2 hp2 hP hS => ?_)
    obtain ⟨σ2, τ2⟩ := u2
    obtain ⟨hR, f2, fL2⟩ : P_X12_asNow σ τ0 σ2 τ2 := hp2
    have hP : va_P D vwCl (gw cA ad σ2 τ2) H2 := hP
    obtain rfl := FrL.nil fL2
    have hF := hF.step f2 (by decide)
    have t3 : (σ2 387 3).toInt = (σ 387 3).toInt := congrArg Int32.toInt (f2.at 387 3 (by decide))
    have t4 : (σ2 387 2).toInt = (σ 387 2).toInt := congrArg Int32.toInt (f2.at 387 2 (by decide))
    refine r_iconst hx hb dX12_whence_71 (by decide) (fun z5 ez5 => ?_)
    refine lv_istore_n (lv' := [(1, .int z5), (0, .ref (ad 387))]) hx hb dX12_whence_72 rfl hl (by decide) rfl (fun ls hl => ?_)
    refine r_iconst hx hb dX12_whence_73 (by decide) (fun z6 ez6 => ?_)
    refine lv_istore_n (lv' := [(2, .int z6), (1, .int z5), (0, .ref (ad 387))]) hx hb dX12_whence_74 rfl hl (by decide) rfl (fun ls hl => ?_)
    exact K75 σ2 τ0 H2 locs2 z5 z6 ls hR hF hFL hP hS (by omega) (by omega) (by omega) (by intro y h1 h2 h3; exact hi0 y h1 (by omega) h3) (lv_sub hl [2, 1, 0] rfl) (by omega)
  · refine lv_aload_n hx hb dX12_whence_47 rfl (lv_at hl 0 rfl) ?_
    refine lv_aload_n hx hb dX12_whence_48 rfl (lv_at hl 0 rfl) ?_
    refine lv_iload_n hx hb dX12_whence_49 rfl (lv_at hl 1 rfl) ?_
    refine r_cVi (k := 387) (As := [.int x1]) (rest := [.ref (ad 387)]) ⟨hx, hb, hml, hown, hts⟩ hK hP hN hS (c_X12_octet l D cA ad hI σ τ0 hR x1 (by omega)) (cwV 1 hts gX12_whence_X12_octet rfl rfl rfl (by decide +kernel) ⟨by decide, by decide⟩) (rv_M hK hP (by decide) (by decide)) rfl hl.1 rfl (Nat.le_of_ble_eq_true rfl) dX12_whence_50 (Nat.zero_le _) (Nat.zero_le _) (fun r7 u7 H7 locs7 hp7 hP hS => ?_)
    obtain ⟨σ7, τ7⟩ := u7
    obtain ⟨hR, f7, fL7, hq7, hp7_0, hp7_1⟩ : P_X12_octet σ τ0 x1 r7 σ7 τ7 := hp7
    have hP : va_P D vwCl (gw cA ad σ7 τ7) H7 := hP
    obtain rfl := FrL.nil fL7
    obtain rfl := Fr.nil f7
    have ho := OC_eq hF (by decide) x1 (by omega)
    refine r_cVi (k := 387) (As := [.int r7]) (rest := []) ⟨hx, hb, hml, hown, hts⟩ hK hP hN hS (c_X12_isMan l D cA ad hI σ τ0 hR r7) (cwV 1 hts gX12_whence_X12_isMan rfl rfl rfl (by decide +kernel) ⟨by decide, by decide⟩) (rv_M hK hP (by decide) (by decide)) rfl hl.1 rfl (Nat.le_of_ble_eq_true rfl) dX12_whence_53 (Nat.zero_le _) (Nat.zero_le _) (fun r8 u8 H8 locs8 hp8 hP hS => ?_)
    obtain ⟨σ8, τ8⟩ := u8
    obtain ⟨hR, f8, fL8, hq8, hp8_0⟩ : P_X12_isMan σ τ0 r7 r8 σ8 τ8 := hp8
    have hP : va_P D vwCl (gw cA ad σ8 τ8) H8 := hP
    obtain rfl := FrL.nil fL8
    obtain rfl := Fr.nil f8
    refine r_if_ne (tgt := 61) hx hb dX12_whence_56 (by decide) (fun c9 => ?_) (fun c9 => ?_)
    · replace hp8_0 := hp8_0.resolve_left (by omega)
      refine r_iinc (k := 1) (lv1 := fun z10 => [(1, .int z10), (0, .ref (ad 387))]) hx hb dX12_whence_61 hl rfl (by decide) (fun _ => rfl) (by decide) (by omega) (fun z10 ls ez10 hl => ?_)
      refine lv_goto (tgt := 39) hx hb dX12_whence_64 (by decide) ?_
      exact K39 σ τ0 H8 locs8 z10 ls hR hF hFL hP hS (by omega) (by omega) (by omega) (by intro y h1 h2 h3; first | (exfalso; omega) | (by_cases e : y.toInt = x1.toInt <;> first | (have e2 : y = x1 := Int32.toInt_inj.mp e; subst e2; omega) | exact hi0 y h1 (by omega) h3)) (by omega) (lv_sub hl [1, 0] rfl) (by omega)
    · clear hp8_0
      refine r_iconst hx hb dX12_whence_59 (by decide) (fun z11 ez11 => ?_)
      exact r_iret hx hb hr hK hP hS hk dX12_whence_60 (show P_X12_whence σ0 τ0 z11 σ τ0 from ⟨hR, hF, hFL, by omega⟩)
set_option maxHeartbeats 4000000 in
theorem B_X12_whence_75 (p : Program) (l : Launch) (e : Env) (s : State) (m : MethodId) (args : Array Value) (below : List Frame) (meth : Method) (c : Code) (D : va_G) (cA : Nat → ClassId) (ad : Nat → Nat) (σ0 : Nat → Nat → Int32) (τ0 : Nat → Nat → Int64)  (n : Nat) (C : Cy p s m args meth c cX12_whence 6 wsX12_whence RX12 D cA ad (some .int))  (K39 : J_X12_whence_39 p l e s m args below meth c D cA ad σ0 τ0 n) (K75 : J_X12_whence_75 p l e s m args below meth c D cA ad σ0 τ0 n) (K90 : J_X12_whence_90 p l e s m args below meth c D cA ad σ0 τ0 n) (K108 : J_X12_whence_108 p l e s m args below meth c D cA ad σ0 τ0 n) : J_X12_whence_75 p l e s m args below meth c D cA ad σ0 τ0 (n + 1) := by
  obtain ⟨hx, hb, hml, hown, hts, hK, hk, hr, hI, hN⟩ := C
  intro σ τ H locs x1 x2 ls hR hF hFL hP hS hc0 hc1 hc2 hi0 hl hm
  obtain rfl := FrL.nil hFL
  refine lv_iload_n hx hb dX12_whence_75 rfl (lv_at hl 2 rfl) ?_
  refine lv_aload_n hx hb dX12_whence_76 rfl (lv_at hl 0 rfl) ?_
  refine fg_12_6 (k := 387) hx hb hts in_X12_whence_12 hown hK hP (by decide) (by decide) (hts _ lk_X12_whence_33) dX12_whence_77 ?_
  refine r_iconst hx hb dX12_whence_80 (by decide) (fun z1 ez1 => ?_)
  refine ad_ms (k := 389) (j := 2) hx hb hK hP (by decide) (by decide) (by omega) (by omega) dX12_whence_81 ?_
  have hr2 := ra_ms_1 hR (k := 389) (j := 2) (by decide) (by decide) (by decide) (by decide)
  refine r_icmp_ge (tgt := 206) hx hb dX12_whence_82 (by decide) (fun c3 => ?_) (fun c3 => ?_)
  · refine lv_iload_n hx hb dX12_whence_206 rfl (lv_at hl 1 rfl) ?_
    exact r_iret hx hb hr hK hP hS hk dX12_whence_207 (show P_X12_whence σ0 τ0 x1 σ τ0 from ⟨hR, hF, hFL, by omega⟩)
  · refine r_iconst hx hb dX12_whence_85 (by decide) (fun z4 ez4 => ?_)
    refine lv_istore_n (lv' := [(3, .int z4), (0, .ref (ad 387)), (1, .int x1), (2, .int x2)]) hx hb dX12_whence_86 rfl hl (by decide) rfl (fun ls hl => ?_)
    refine r_iconst hx hb dX12_whence_87 (by decide) (fun z5 ez5 => ?_)
    refine lv_istore (lv' := [(4, .int z5), (3, .int z4), (0, .ref (ad 387)), (1, .int x1), (2, .int x2)]) hx hb dX12_whence_88 hl (by decide) rfl (fun ls hl => ?_)
    exact K90 σ τ0 H locs x1 x2 z4 z5 ls hR hF hFL hP hS (by omega) (by omega) (by omega) (by omega) (by omega) (by intro y h1 h2 h3; exact hi0 y h1 (by omega) h3) (by omega) (lv_sub hl [2, 3, 4, 1, 0] rfl) (by omega)
set_option maxHeartbeats 4000000 in
theorem B_X12_whence_90 (p : Program) (l : Launch) (e : Env) (s : State) (m : MethodId) (args : Array Value) (below : List Frame) (meth : Method) (c : Code) (D : va_G) (cA : Nat → ClassId) (ad : Nat → Nat) (σ0 : Nat → Nat → Int32) (τ0 : Nat → Nat → Int64)  (n : Nat) (C : Cy p s m args meth c cX12_whence 6 wsX12_whence RX12 D cA ad (some .int))  (K39 : J_X12_whence_39 p l e s m args below meth c D cA ad σ0 τ0 n) (K75 : J_X12_whence_75 p l e s m args below meth c D cA ad σ0 τ0 n) (K90 : J_X12_whence_90 p l e s m args below meth c D cA ad σ0 τ0 n) (K108 : J_X12_whence_108 p l e s m args below meth c D cA ad σ0 τ0 n) : J_X12_whence_90 p l e s m args below meth c D cA ad σ0 τ0 (n + 1) := by
  obtain ⟨hx, hb, hml, hown, hts, hK, hk, hr, hI, hN⟩ := C
  intro σ τ H locs x1 x2 x3 x4 ls hR hF hFL hP hS hc0 hc1 hc2 hc3 hc4 hi0 hi1 hl hm
  obtain rfl := FrL.nil hFL
  refine lv_iload hx hb dX12_whence_90 (lv_at hl 4 rfl) ?_
  refine lv_aload_n hx hb dX12_whence_92 rfl (lv_at hl 0 rfl) ?_
  refine fg_12_3 (k := 387) hx hb hts in_X12_whence_12 hown hK hP (by decide) (by decide) (hts _ lk_X12_whence_18) dX12_whence_93 ?_
  refine r_icmp_ge (tgt := 186) hx hb dX12_whence_96 (by decide) (fun c1 => ?_) (fun c1 => ?_)
  · refine lv_iload_n hx hb dX12_whence_186 rfl (lv_at hl 1 rfl) ?_
    refine lv_iload_n hx hb dX12_whence_187 rfl (lv_at hl 3 rfl) ?_
    refine r_if_eq (tgt := 197) hx hb dX12_whence_188 (by decide) (fun c2 => ?_) (fun c2 => ?_)
    · refine r_iconst hx hb dX12_whence_197 (by decide) (fun z3 ez3 => ?_)
      refine r_iorU hx hb dX12_whence_198 (fun z4 => ?_)
      refine lv_istore_n (lv' := [(1, .int z4), (0, .ref (ad 387)), (2, .int x2), (3, .int x3), (4, .int x4)]) hx hb dX12_whence_199 rfl hl (by decide) rfl (fun ls hl => ?_)
      refine r_iinc (k := 2) (lv1 := fun z5 => [(2, .int z5), (1, .int z4), (0, .ref (ad 387)), (3, .int x3), (4, .int x4)]) hx hb dX12_whence_200 hl rfl (by decide) (fun _ => rfl) (by decide) (by omega) (fun z5 ls ez5 hl => ?_)
      refine lv_goto (tgt := 75) hx hb dX12_whence_203 (by decide) ?_
      exact K75 σ τ0 H locs z4 z5 ls hR hF hFL hP hS (by omega) (by omega) (by omega) (by intro y h1 h2 h3; exact hi0 y h1 (by omega) h3) (lv_sub hl [2, 1, 0] rfl) (by omega)
    · refine r_iconst hx hb dX12_whence_191 (by decide) (fun z6 ez6 => ?_)
      refine lv_iload_n hx hb dX12_whence_192 rfl (lv_at hl 2 rfl) ?_
      refine r_ishlU hx hb dX12_whence_193 (fun z7 => ?_)
      refine lv_goto (tgt := 198) hx hb dX12_whence_194 (by decide) ?_
      refine r_iorU hx hb dX12_whence_198 (fun z8 => ?_)
      refine lv_istore_n (lv' := [(1, .int z8), (0, .ref (ad 387)), (2, .int x2), (3, .int x3), (4, .int x4)]) hx hb dX12_whence_199 rfl hl (by decide) rfl (fun ls hl => ?_)
      refine r_iinc (k := 2) (lv1 := fun z9 => [(2, .int z9), (1, .int z8), (0, .ref (ad 387)), (3, .int x3), (4, .int x4)]) hx hb dX12_whence_200 hl rfl (by decide) (fun _ => rfl) (by decide) (by omega) (fun z9 ls ez9 hl => ?_)
      refine lv_goto (tgt := 75) hx hb dX12_whence_203 (by decide) ?_
      exact K75 σ τ0 H locs z8 z9 ls hR hF hFL hP hS (by omega) (by omega) (by omega) (by intro y h1 h2 h3; exact hi0 y h1 (by omega) h3) (lv_sub hl [2, 1, 0] rfl) (by omega)
  · refine lv_iload_n hx hb dX12_whence_99 rfl (lv_at hl 3 rfl) ?_
    refine r_if_eq (tgt := 186) hx hb dX12_whence_100 (by decide) (fun c10 => ?_) (fun c10 => ?_)
    · refine lv_iload_n hx hb dX12_whence_186 rfl (lv_at hl 1 rfl) ?_
      refine lv_iload_n hx hb dX12_whence_187 rfl (lv_at hl 3 rfl) ?_
      refine r_if_eq (tgt := 197) hx hb dX12_whence_188 (by decide) (fun c11 => ?_) (fun c11 => ?_)
      · refine r_iconst hx hb dX12_whence_197 (by decide) (fun z12 ez12 => ?_)
        refine r_iorU hx hb dX12_whence_198 (fun z13 => ?_)
        refine lv_istore_n (lv' := [(1, .int z13), (0, .ref (ad 387)), (2, .int x2), (3, .int x3), (4, .int x4)]) hx hb dX12_whence_199 rfl hl (by decide) rfl (fun ls hl => ?_)
        refine r_iinc (k := 2) (lv1 := fun z14 => [(2, .int z14), (1, .int z13), (0, .ref (ad 387)), (3, .int x3), (4, .int x4)]) hx hb dX12_whence_200 hl rfl (by decide) (fun _ => rfl) (by decide) (by omega) (fun z14 ls ez14 hl => ?_)
        refine lv_goto (tgt := 75) hx hb dX12_whence_203 (by decide) ?_
        exact K75 σ τ0 H locs z13 z14 ls hR hF hFL hP hS (by omega) (by omega) (by omega) (by intro y h1 h2 h3; exact hi0 y h1 (by omega) h3) (lv_sub hl [2, 1, 0] rfl) (by omega)
      · exfalso; omega
    · refine r_iconst hx hb dX12_whence_103 (by decide) (fun z15 ez15 => ?_)
      refine lv_istore_n (lv' := [(3, .int z15), (0, .ref (ad 387)), (1, .int x1), (2, .int x2), (4, .int x4)]) hx hb dX12_whence_104 rfl hl (by decide) rfl (fun ls hl => ?_)
      refine r_iconst hx hb dX12_whence_105 (by decide) (fun z16 ez16 => ?_)
      refine lv_istore (lv' := [(5, .int z16), (3, .int z15), (0, .ref (ad 387)), (1, .int x1), (2, .int x2), (4, .int x4)]) hx hb dX12_whence_106 hl (by decide) rfl (fun ls hl => ?_)
      exact K108 σ τ0 H locs x1 x2 z15 x4 z16 ls hR hF hFL hP hS (by omega) (by omega) (by omega) (by omega) (by omega) (by omega) (by intro y h1 h2 h3; exact hi0 y h1 (by omega) h3) (by omega) (by omega) (lv_sub hl [2, 3, 4, 1, 5, 0] rfl) (by omega)
set_option maxHeartbeats 4000000 in
theorem B_X12_whence_108 (p : Program) (l : Launch) (e : Env) (s : State) (m : MethodId) (args : Array Value) (below : List Frame) (meth : Method) (c : Code) (D : va_G) (cA : Nat → ClassId) (ad : Nat → Nat) (σ0 : Nat → Nat → Int32) (τ0 : Nat → Nat → Int64)  (n : Nat) (C : Cy p s m args meth c cX12_whence 6 wsX12_whence RX12 D cA ad (some .int))  (K39 : J_X12_whence_39 p l e s m args below meth c D cA ad σ0 τ0 n) (K75 : J_X12_whence_75 p l e s m args below meth c D cA ad σ0 τ0 n) (K90 : J_X12_whence_90 p l e s m args below meth c D cA ad σ0 τ0 n) (K108 : J_X12_whence_108 p l e s m args below meth c D cA ad σ0 τ0 n) : J_X12_whence_108 p l e s m args below meth c D cA ad σ0 τ0 (n + 1) := by
  obtain ⟨hx, hb, hml, hown, hts, hK, hk, hr, hI, hN⟩ := C
  intro σ τ H locs x1 x2 x3 x4 x5 ls hR hF hFL hP hS hc0 hc1 hc2 hc3 hc4 hc5 hi0 hi1 hi2 hl hm
  obtain rfl := FrL.nil hFL
  refine lv_iload hx hb dX12_whence_108 (lv_at hl 5 rfl) ?_
  refine lv_aload_n hx hb dX12_whence_110 rfl (lv_at hl 0 rfl) ?_
  refine fg_12_6 (k := 387) hx hb hts in_X12_whence_12 hown hK hP (by decide) (by decide) (hts _ lk_X12_whence_33) dX12_whence_111 ?_
  refine r_bipush hx hb dX12_whence_114 (by decide) (fun z1 ez1 => ?_)
  refine lv_iload_n hx hb dX12_whence_116 rfl (lv_at hl 2 rfl) ?_
  refine r_iadd hx hb dX12_whence_117 (by omega) (fun z2 ez2 => ?_)
  obtain ⟨j3, ej3⟩ : ∃ j : Nat, z2.toInt = (j : Int) := ⟨_, ti_nat (by omega)⟩
  refine ad_ms (k := 389) (j := j3) hx hb hK hP (by decide) (by decide) ej3 (by omega) dX12_whence_118 ?_
  have hr4 := ra_ms_4 hR (k := 389) (j := j3) (by decide) (by decide) (by omega) (by omega)
  refine r_icmp_ge (tgt := 180) hx hb dX12_whence_119 (by decide) (fun c5 => ?_) (fun c5 => ?_)
  · refine r_iinc (k := 4) (lv1 := fun z6 => [(4, .int z6), (0, .ref (ad 387)), (1, .int x1), (2, .int x2), (3, .int x3), (5, .int x5)]) hx hb dX12_whence_180 hl rfl (by decide) (fun _ => rfl) (by decide) (by omega) (fun z6 ls ez6 hl => ?_)
    refine lv_goto (tgt := 90) hx hb dX12_whence_183 (by decide) ?_
    exact K90 σ τ0 H locs x1 x2 x3 z6 ls hR hF hFL hP hS (by omega) (by omega) (by omega) (by omega) (by omega) (by intro y h1 h2 h3; exact hi0 y h1 (by omega) h3) (by omega) (lv_sub hl [1, 2, 3, 4, 0] rfl) (by omega)
  · refine lv_iload_n hx hb dX12_whence_122 rfl (lv_at hl 3 rfl) ?_
    refine r_if_ne (tgt := 168) hx hb dX12_whence_123 (by decide) (fun c7 => ?_) (fun c7 => ?_)
    · refine r_iconst hx hb dX12_whence_168 (by decide) (fun z8 ez8 => ?_)
      refine lv_goto (tgt := 173) hx hb dX12_whence_169 (by decide) ?_
      refine lv_istore_n (lv' := [(3, .int z8), (0, .ref (ad 387)), (1, .int x1), (2, .int x2), (4, .int x4), (5, .int x5)]) hx hb dX12_whence_173 rfl hl (by decide) rfl (fun ls hl => ?_)
      refine r_iinc (k := 5) (lv1 := fun z9 => [(5, .int z9), (3, .int z8), (0, .ref (ad 387)), (1, .int x1), (2, .int x2), (4, .int x4)]) hx hb dX12_whence_174 hl rfl (by decide) (fun _ => rfl) (by decide) (by omega) (fun z9 ls ez9 hl => ?_)
      refine lv_goto (tgt := 108) hx hb dX12_whence_177 (by decide) ?_
      exact K108 σ τ0 H locs x1 x2 z8 x4 z9 ls hR hF hFL hP hS (by omega) (by omega) (by omega) (by omega) (by omega) (by omega) (by intro y h1 h2 h3; exact hi0 y h1 (by omega) h3) (by omega) (by omega) (lv_sub hl [2, 3, 4, 1, 5, 0] rfl) (by omega)
    · refine lv_aload_n hx hb dX12_whence_126 rfl (lv_at hl 0 rfl) ?_
      refine fg_12_6 (k := 387) hx hb hts in_X12_whence_12 hown hK hP (by decide) (by decide) (hts _ lk_X12_whence_33) dX12_whence_127 ?_
      refine r_bipush hx hb dX12_whence_130 (by decide) (fun z10 ez10 => ?_)
      refine r_bipush hx hb dX12_whence_132 (by decide) (fun z11 ez11 => ?_)
      refine lv_iload_n hx hb dX12_whence_134 rfl (lv_at hl 2 rfl) ?_
      refine r_imulL (n := 10) hx hb dX12_whence_135 (by omega) (by omega) (fun z12 ez12 => ?_)
      refine r_iadd hx hb dX12_whence_136 (by omega) (fun z13 ez13 => ?_)
      refine lv_iload hx hb dX12_whence_137 (lv_at hl 5 rfl) ?_
      refine r_iadd hx hb dX12_whence_139 (by omega) (fun z14 ez14 => ?_)
      obtain ⟨j15, ej15⟩ : ∃ j : Nat, z14.toInt = (j : Int) := ⟨_, ti_nat (by omega)⟩
      refine ad_ms (k := 389) (j := j15) hx hb hK hP (by decide) (by decide) ej15 (by omega) dX12_whence_140 ?_
      refine lv_aload_n hx hb dX12_whence_141 rfl (lv_at hl 0 rfl) ?_
      refine lv_iload hx hb dX12_whence_142 (lv_at hl 4 rfl) ?_
      refine r_iconst hx hb dX12_whence_144 (by decide) (fun z16 ez16 => ?_)
      refine r_iadd hx hb dX12_whence_145 (by omega) (fun z17 ez17 => ?_)
      refine r_cVi (k := 387) (As := [.int z17]) (rest := [.int (σ 389 j15)]) ⟨hx, hb, hml, hown, hts⟩ hK hP hN hS (c_X12_octet l D cA ad hI σ τ0 hR z17 (by omega)) (cwV 1 hts gX12_whence_X12_octet rfl rfl rfl (by decide +kernel) ⟨by decide, by decide⟩) (rv_M hK hP (by decide) (by decide)) rfl hl.1 rfl (Nat.le_of_ble_eq_true rfl) dX12_whence_146 (Nat.zero_le _) (Nat.zero_le _) (fun r18 u18 H18 locs18 hp18 hP hS => ?_)
      obtain ⟨σ18, τ18⟩ := u18
      obtain ⟨hR, f18, fL18, hq18, hp18_0, hp18_1⟩ : P_X12_octet σ τ0 z17 r18 σ18 τ18 := hp18
      have hP : va_P D vwCl (gw cA ad σ18 τ18) H18 := hP
      obtain rfl := FrL.nil fL18
      obtain rfl := Fr.nil f18
      refine r_icmp_ne (tgt := 172) hx hb dX12_whence_149 (by decide) (fun c19 => ?_) (fun c19 => ?_)
      · refine r_iconst hx hb dX12_whence_172 (by decide) (fun z20 ez20 => ?_)
        refine lv_istore_n (lv' := [(3, .int z20), (0, .ref (ad 387)), (1, .int x1), (2, .int x2), (4, .int x4), (5, .int x5)]) hx hb dX12_whence_173 rfl hl (by decide) rfl (fun ls hl => ?_)
        refine r_iinc (k := 5) (lv1 := fun z21 => [(5, .int z21), (3, .int z20), (0, .ref (ad 387)), (1, .int x1), (2, .int x2), (4, .int x4)]) hx hb dX12_whence_174 hl rfl (by decide) (fun _ => rfl) (by decide) (by omega) (fun z21 ls ez21 hl => ?_)
        refine lv_goto (tgt := 108) hx hb dX12_whence_177 (by decide) ?_
        exact K108 σ τ0 H18 locs18 x1 x2 z20 x4 z21 ls hR hF hFL hP hS (by omega) (by omega) (by omega) (by omega) (by omega) (by omega) (by intro y h1 h2 h3; exact hi0 y h1 (by omega) h3) (by omega) (by omega) (lv_sub hl [2, 3, 4, 1, 5, 0] rfl) (by omega)
      · refine lv_aload_n hx hb dX12_whence_152 rfl (lv_at hl 0 rfl) ?_
        refine lv_aload_n hx hb dX12_whence_153 rfl (lv_at hl 0 rfl) ?_
        refine lv_iload hx hb dX12_whence_154 (lv_at hl 4 rfl) ?_
        refine r_cVi (k := 387) (As := [.int x4]) (rest := [.ref (ad 387)]) ⟨hx, hb, hml, hown, hts⟩ hK hP hN hS (c_X12_octet l D cA ad hI σ τ0 hR x4 (by omega)) (cwV 1 hts gX12_whence_X12_octet rfl rfl rfl (by decide +kernel) ⟨by decide, by decide⟩) (rv_M hK hP (by decide) (by decide)) rfl hl.1 rfl (Nat.le_of_ble_eq_true rfl) dX12_whence_156 (Nat.zero_le _) (Nat.zero_le _) (fun r22 u22 H22 locs22 hp22 hP hS => ?_)
        obtain ⟨σ22, τ22⟩ := u22
        obtain ⟨hR, f22, fL22, hq22, hp22_0, hp22_1⟩ : P_X12_octet σ τ0 x4 r22 σ22 τ22 := hp22
        have hP : va_P D vwCl (gw cA ad σ22 τ22) H22 := hP
        obtain rfl := FrL.nil fL22
        obtain rfl := Fr.nil f22
        have ho := OC_eq hF (by decide) x4 (by omega)
        have hw := hi0 x4 (by omega) (by omega) (by omega)
        refine lv_iload_n hx hb dX12_whence_159 rfl (lv_at hl 2 rfl) ?_
        refine lv_iload hx hb dX12_whence_160 (lv_at hl 5 rfl) ?_
        refine r_cVi (k := 387) (As := [.int r22, .int x2, .int x5]) (rest := []) ⟨hx, hb, hml, hown, hts⟩ hK hP hN hS (c_X12_canHear l D cA ad hI σ τ0 hR r22 x2 x5 (by omega) (by omega) (by omega)) (cwV 3 hts gX12_whence_X12_canHear rfl rfl rfl (by decide +kernel) ⟨by decide, by decide⟩) (rv_M hK hP (by decide) (by decide)) rfl hl.1 rfl (Nat.le_of_ble_eq_true rfl) dX12_whence_162 (Nat.zero_le _) (Nat.zero_le _) (fun r23 u23 H23 locs23 hp23 hP hS => ?_)
        obtain ⟨σ23, τ23⟩ := u23
        obtain ⟨hR, f23, fL23, hq23⟩ : P_X12_canHear σ τ0 r22 x2 x5 r23 σ23 τ23 := hp23
        have hP : va_P D vwCl (gw cA ad σ23 τ23) H23 := hP
        obtain rfl := FrL.nil fL23
        obtain rfl := Fr.nil f23
        refine r_if_eq (tgt := 172) hx hb dX12_whence_165 (by decide) (fun c24 => ?_) (fun c24 => ?_)
        · refine r_iconst hx hb dX12_whence_172 (by decide) (fun z25 ez25 => ?_)
          refine lv_istore_n (lv' := [(3, .int z25), (0, .ref (ad 387)), (1, .int x1), (2, .int x2), (4, .int x4), (5, .int x5)]) hx hb dX12_whence_173 rfl hl (by decide) rfl (fun ls hl => ?_)
          refine r_iinc (k := 5) (lv1 := fun z26 => [(5, .int z26), (3, .int z25), (0, .ref (ad 387)), (1, .int x1), (2, .int x2), (4, .int x4)]) hx hb dX12_whence_174 hl rfl (by decide) (fun _ => rfl) (by decide) (by omega) (fun z26 ls ez26 hl => ?_)
          refine lv_goto (tgt := 108) hx hb dX12_whence_177 (by decide) ?_
          exact K108 σ τ0 H23 locs23 x1 x2 z25 x4 z26 ls hR hF hFL hP hS (by omega) (by omega) (by omega) (by omega) (by omega) (by omega) (by intro y h1 h2 h3; exact hi0 y h1 (by omega) h3) (by omega) (by omega) (lv_sub hl [2, 3, 4, 1, 5, 0] rfl) (by omega)
        · refine r_iconst hx hb dX12_whence_168 (by decide) (fun z27 ez27 => ?_)
          refine lv_goto (tgt := 173) hx hb dX12_whence_169 (by decide) ?_
          refine lv_istore_n (lv' := [(3, .int z27), (0, .ref (ad 387)), (1, .int x1), (2, .int x2), (4, .int x4), (5, .int x5)]) hx hb dX12_whence_173 rfl hl (by decide) rfl (fun ls hl => ?_)
          refine r_iinc (k := 5) (lv1 := fun z28 => [(5, .int z28), (3, .int z27), (0, .ref (ad 387)), (1, .int x1), (2, .int x2), (4, .int x4)]) hx hb dX12_whence_174 hl rfl (by decide) (fun _ => rfl) (by decide) (by omega) (fun z28 ls ez28 hl => ?_)
          refine lv_goto (tgt := 108) hx hb dX12_whence_177 (by decide) ?_
          exact K108 σ τ0 H23 locs23 x1 x2 z27 x4 z28 ls hR hF hFL hP hS (by omega) (by omega) (by omega) (by omega) (by omega) (by omega) (by intro y h1 h2 h3; exact hi0 y h1 (by omega) h3) (by omega) (by omega) (lv_sub hl [2, 3, 4, 1, 5, 0] rfl) (by omega)
theorem A_X12_whence (p : Program) (l : Launch) (e : Env) (s : State) (m : MethodId) (args : Array Value) (below : List Frame) (meth : Method) (c : Code) (D : va_G) (cA : Nat → ClassId) (ad : Nat → Nat) (σ0 : Nat → Nat → Int32) (τ0 : Nat → Nat → Int64)  (C : Cy p s m args meth c cX12_whence 6 wsX12_whence RX12 D cA ad (some .int))  : ∀ n : Nat, J_X12_whence_39 p l e s m args below meth c D cA ad σ0 τ0 n ∧ J_X12_whence_75 p l e s m args below meth c D cA ad σ0 τ0 n ∧ J_X12_whence_90 p l e s m args below meth c D cA ad σ0 τ0 n ∧ J_X12_whence_108 p l e s m args below meth c D cA ad σ0 τ0 n := by
  intro n
  induction n with
  | zero =>
    exact ⟨(by intro σ τ H locs x1 ls hR hF hFL hP hS hc0 hc1 hc2 hi0 hi1 hl hm; exfalso; omega), (by intro σ τ H locs x1 x2 ls hR hF hFL hP hS hc0 hc1 hc2 hi0 hl hm; exfalso; omega), (by intro σ τ H locs x1 x2 x3 x4 ls hR hF hFL hP hS hc0 hc1 hc2 hc3 hc4 hi0 hi1 hl hm; exfalso; omega), (by intro σ τ H locs x1 x2 x3 x4 x5 ls hR hF hFL hP hS hc0 hc1 hc2 hc3 hc4 hc5 hi0 hi1 hi2 hl hm; exfalso; omega)⟩
  | succ n ih =>
    exact ⟨B_X12_whence_39 p l e s m args below meth c D cA ad σ0 τ0 n C  ih.1 ih.2.1 ih.2.2.1 ih.2.2.2, B_X12_whence_75 p l e s m args below meth c D cA ad σ0 τ0 n C  ih.1 ih.2.1 ih.2.2.1 ih.2.2.2, B_X12_whence_90 p l e s m args below meth c D cA ad σ0 τ0 n C  ih.1 ih.2.1 ih.2.2.1 ih.2.2.2, B_X12_whence_108 p l e s m args below meth c D cA ad σ0 τ0 n C  ih.1 ih.2.1 ih.2.2.1 ih.2.2.2⟩
set_option maxHeartbeats 4000000 in
theorem c_X12_whence (l : Launch) (D : va_G) (cA : Nat → ClassId) (ad : Nat → Nat) (hI : Inj ad) (σ0 : Nat → Nat → Int32) (τ0 : Nat → Nat → Int64) (hR : Rg σ0)   : Met l yX12_whence wsX12_whence ({ frames := 3, cells := 0, slots := 0, locals := 69 } : Room) (WQc D cA ad [.ref (ad 387)] σ0 τ0) (va_Qi (fun (r : Int32) (u : SS) => P_X12_whence σ0 τ0 r u.1 u.2) (WB D cA ad) (AA ad)) 0 0 (AA ad) := by
  refine Met.ofW (cc := cX12_whence) (maxL := 6) (ret := (some .int)) (by decide) rfl ?_
  intro p e s m args below meth c s₁ B hml hv
  obtain ⟨rfl, hP, hK, hN⟩ := hv
  have C : Cy p s m _ meth c cX12_whence 6 wsX12_whence RX12 D cA ad (some .int) := ⟨B.exec, B.bytes, hml, findClass_of_methodNamed B.named, atoms_spec (ws := wsX12_whence) B.pre, hK, B.notSynchronized, B.returns, hI, hN⟩
  have hl := lv_entry ([.ref (ad 387)]) (n := 6) (Nat.le_of_ble_eq_true rfl)
  rw [lg_entry_eq]
  generalize (lg_sl ([.ref (ad 387)]) ++ List.replicate (6 - (lg_sl ([.ref (ad 387)])).length) Slot.unset).toArray = ls at hl ⊢
  have hl : lv_has ls 6 [(0, .ref (ad 387))] := hl
  have hS : va_S (AA ad) s.heap s.heap [] := va_S.rf
  have hF : Fr L_X12_whence σ0 σ0 := Fr.rf
  have hFL : FrL LL_X12_whence τ0 τ0 := FrL.rf
  have hA := A_X12_whence p l e s m _ below meth c D cA ad σ0 τ0 C  555301
  have K39 := hA.1
  have K75 := hA.2.1
  have K90 := hA.2.2.1
  have K108 := hA.2.2.2
  clear hA
  obtain ⟨hx, hb, _, hown, hts, _, hk, hr, _, _⟩ := C
  have hrt3 := rg_12_3 hR (k := 387) (by decide) (by decide)
  have hrt2 := rg_12_2 hR (k := 387) (by decide) (by decide)
  refine lv_aload_n hx hb dX12_whence_0 rfl (lv_at hl 0 rfl) ?_
  refine r_iconst hx hb dX12_whence_1 (by decide) (fun z1 ez1 => ?_)
  refine fp_12_0 (k := 387) hx hb hts in_X12_whence_12 hown hK hP (by decide) (by decide) (hts _ lk_X12_whence_1) hI hR hS (by omega) dX12_whence_2 (fun σ2 H2 locs2 u2 v2 hR hP hS => ?_)
  have hF := hF.puts u2 0 rfl (by decide) (by decide) (by decide) (by decide)
  have t3 : (σ2 387 3).toInt = (σ0 387 3).toInt := congrArg Int32.toInt (u2 387 3 (by omega))
  have t4 : (σ2 387 2).toInt = (σ0 387 2).toInt := congrArg Int32.toInt (u2 387 2 (by omega))
  refine lv_aload_n hx hb dX12_whence_5 rfl (lv_at hl 0 rfl) ?_
  refine r_sipush hx hb dX12_whence_6 (by decide) (fun z5 ez5 => ?_)
  refine r_cVv (k := 387) (As := [.int z5]) (rest := []) ⟨hx, hb, hml, hown, hts⟩ hK hP hN hS (c_X12_taken l D cA ad hI σ2 τ0 hR z5 (by omega)) (cwV 1 hts gX12_whence_X12_taken rfl rfl rfl (by decide +kernel) ⟨by decide, by decide⟩) (rv_M hK hP (by decide) (by decide)) rfl hl.1 rfl (Nat.le_of_ble_eq_true rfl) dX12_whence_9 (Nat.zero_le _) (Nat.zero_le _) (fun u6 H6 locs6 hp6 hP hS => ?_)
  obtain ⟨σ6, τ6⟩ := u6
  obtain ⟨hR, f6, fL6, hp6_0, hp6_1, hp6_2, hp6_3⟩ : P_X12_taken σ2 τ0 z5 σ6 τ6 := hp6
  have hP : va_P D vwCl (gw cA ad σ6 τ6) H6 := hP
  obtain rfl := FrL.nil fL6
  have hF := hF.step f6 (by decide)
  have hr7 := rg_12_3 hR (k := 387) (by decide) (by decide)
  have hr8 := rg_12_2 hR (k := 387) (by decide) (by decide)
  refine lv_aload_n hx hb dX12_whence_12 rfl (lv_at hl 0 rfl) ?_
  refine fg_12_3 (k := 387) hx hb hts in_X12_whence_12 hown hK hP (by decide) (by decide) (hts _ lk_X12_whence_18) dX12_whence_13 ?_
  refine r_iconst hx hb dX12_whence_16 (by decide) (fun z9 ez9 => ?_)
  refine r_bipush hx hb dX12_whence_17 (by decide) (fun z10 ez10 => ?_)
  refine r_cSi (As := [.int (σ6 387 3), .int z9, .int z10]) (rest := []) ⟨hx, hb, hml, hown, hts⟩ hK hP hN hS (c_X12_isIn l D cA ad hI σ6 τ0 hR (σ6 387 3) z9 z10) (va_cwS 3 hts gX12_whence_X12_isIn rfl rfl rfl (by decide +kernel) ⟨by decide, by decide⟩) rfl hl.1 rfl (Nat.le_of_ble_eq_true rfl) dX12_whence_19 (Nat.zero_le _) (Nat.zero_le _) (fun r11 u11 H11 locs11 hp11 hP hS => ?_)
  obtain ⟨σ11, τ11⟩ := u11
  obtain ⟨hR, f11, fL11, hq11, hp11_0, hp11_1⟩ : P_X12_isIn σ6 τ0 (σ6 387 3) z9 z10 r11 σ11 τ11 := hp11
  have hP : va_P D vwCl (gw cA ad σ11 τ11) H11 := hP
  obtain rfl := FrL.nil fL11
  obtain rfl := Fr.nil f11
  refine r_if_eq (tgt := 35) hx hb dX12_whence_22 (by decide) (fun c12 => ?_) (fun c12 => ?_)
  · clear hp11_0
    refine r_iconst hx hb dX12_whence_35 (by decide) (fun z13 ez13 => ?_)
    exact r_iret hx hb hr hK hP hS hk dX12_whence_36 (show P_X12_whence σ0 τ0 z13 σ6 τ0 from ⟨hR, hF, hFL, by omega⟩)
  · replace hp11_0 := hp11_0.resolve_left (by omega)
    refine lv_aload_n hx hb dX12_whence_25 rfl (lv_at hl 0 rfl) ?_
    refine fg_12_3 (k := 387) hx hb hts in_X12_whence_12 hown hK hP (by decide) (by decide) (hts _ lk_X12_whence_18) dX12_whence_26 ?_
    refine r_iconst hx hb dX12_whence_29 (by decide) (fun z14 ez14 => ?_)
    refine r_irem hx hb dX12_whence_30 (by omega) (fun z15 ez15 => ?_)
    have fz15 := ti_tm (a := (σ6 387 3).toInt) (b := z14.toInt) (by omega)
    refine r_iconst hx hb dX12_whence_31 (by decide) (fun z16 ez16 => ?_)
    refine r_icmp_ne (tgt := 37) hx hb dX12_whence_32 (by decide) (fun c17 => ?_) (fun c17 => ?_)
    · refine r_iconst hx hb dX12_whence_37 (by decide) (fun z18 ez18 => ?_)
      refine lv_istore_n (lv' := [(1, .int z18), (0, .ref (ad 387))]) hx hb dX12_whence_38 rfl hl (by decide) rfl (fun ls hl => ?_)
      exact K39 σ6 τ0 H11 locs11 z18 ls hR hF hFL hP hS (by omega) (by omega) (by omega) (by intro y h1 h2 h3; first | (exfalso; omega) | (by_cases e : y.toInt = x1.toInt <;> first | (have e2 : y = x1 := Int32.toInt_inj.mp e; subst e2; omega) | exact hi0 y h1 (by omega) h3)) (by omega) (lv_sub hl [1, 0] rfl) (by omega)
    · refine r_iconst hx hb dX12_whence_35 (by decide) (fun z19 ez19 => ?_)
      exact r_iret hx hb hr hK hP hS hk dX12_whence_36 (show P_X12_whence σ0 τ0 z19 σ6 τ0 from ⟨hR, hF, hFL, by omega⟩)
theorem in_X12_enough_12 : ∀ w ∈ u_ws RX12 TX12 47, w ∈ wsX12_enough := by decide +kernel
theorem lk_X12_enough_1 : Cond.fieldLink RX12 1 "CuckooSharesModel" "thrown" "I" ∈ wsX12_enough := by decide +kernel
theorem lk_X12_enough_33 : Cond.fieldLink RX12 33 "CuckooSharesModel" "s" "[I" ∈ wsX12_enough := by decide +kernel
theorem lk_X12_enough_59 : Cond.fieldLink RX12 59 "CuckooSharesModel" "shares" "[I" ∈ wsX12_enough := by decide +kernel
abbrev L_X12_enough : List Rc := [(387, 387, 0, 0), (394, 394, 0, 7), (395, 395, 0, 7), (396, 396, 0, 7), (387, 387, 26, 26), (397, 397, 0, 7)]
abbrev LL_X12_enough : List Rc := []
def P_X12_enough (σ0 : Nat → Nat → Int32) (τ0 : Nat → Nat → Int64) (a1 : Int32) (r : Int32) (σ : Nat → Nat → Int32) (τ : Nat → Nat → Int64) : Prop := Rg σ ∧ Fr L_X12_enough σ0 σ ∧ FrL LL_X12_enough τ0 τ
def J_X12_enough_34 (p : Program) (l : Launch) (e : Env) (s : State) (m : MethodId) (args : Array Value) (below : List Frame) (meth : Method) (c : Code) (D : va_G) (cA : Nat → ClassId) (ad : Nat → Nat) (σ0 : Nat → Nat → Int32) (τ0 : Nat → Nat → Int64) (a1 : Int32) (n : Nat) : Prop := ∀ (σ : Nat → Nat → Int32) (τ : Nat → Nat → Int64) (H : Heap) (locs : List Loc) (x2 : Int32) (x3 : Int32) (ls : Array Slot), Rg σ → Fr L_X12_enough σ0 σ → FrL LL_X12_enough τ0 τ → va_P D vwCl (gw cA ad σ τ) H → va_S (AA ad) s.heap H locs → (0 ≤ a1.toInt ∧ a1.toInt ≤ 3) → (0 ≤ x3.toInt ∧ x3.toInt ≤ 8) → lv_has ls 4 [(0, .ref (ad 387)), (1, .int a1), (2, .int x2), (3, .int x3)] → 2 * (8 - x3.toInt) + 1 < (n : Int) → W p l e ({ frames := 6, cells := 0, slots := 0, locals := 140 } : Room) s m args below meth c H locs 0 0 (MQ below (va_Qi (fun (r : Int32) (u : SS) => P_X12_enough σ0 τ0 a1 r u.1 u.2) (WB D cA ad) (AA ad)) args s 0 0 (AA ad)) (F0 m 34 ls [])
set_option maxHeartbeats 4000000 in
theorem B_X12_enough_34 (p : Program) (l : Launch) (e : Env) (s : State) (m : MethodId) (args : Array Value) (below : List Frame) (meth : Method) (c : Code) (D : va_G) (cA : Nat → ClassId) (ad : Nat → Nat) (σ0 : Nat → Nat → Int32) (τ0 : Nat → Nat → Int64) (a1 : Int32) (n : Nat) (C : Cy p s m args meth c cX12_enough 4 wsX12_enough RX12 D cA ad (some .int))  (K34 : J_X12_enough_34 p l e s m args below meth c D cA ad σ0 τ0 a1 n) : J_X12_enough_34 p l e s m args below meth c D cA ad σ0 τ0 a1 (n + 1) := by
  obtain ⟨hx, hb, hml, hown, hts, hK, hk, hr, hI, hN⟩ := C
  intro σ τ H locs x2 x3 ls hR hF hFL hP hS hc0 hc1 hl hm
  obtain rfl := FrL.nil hFL
  refine lv_iload_n hx hb dX12_enough_34 rfl (lv_at hl 3 rfl) ?_
  refine lv_aload_n hx hb dX12_enough_35 rfl (lv_at hl 0 rfl) ?_
  refine fg_12_6 (k := 387) hx hb hts in_X12_enough_12 hown hK hP (by decide) (by decide) (hts _ lk_X12_enough_33) dX12_enough_36 ?_
  refine r_iconst hx hb dX12_enough_39 (by decide) (fun z1 ez1 => ?_)
  refine ad_ms (k := 389) (j := 1) hx hb hK hP (by decide) (by decide) (by omega) (by omega) dX12_enough_40 ?_
  have hr2 := ra_ms_0 hR (k := 389) (j := 1) (by decide) (by decide) (by decide) (by decide)
  refine r_icmp_ge (tgt := 92) hx hb dX12_enough_41 (by decide) (fun c3 => ?_) (fun c3 => ?_)
  · refine lv_iload_n hx hb dX12_enough_92 rfl (lv_at hl 2 rfl) ?_
    exact r_iret hx hb hr hK hP hS hk dX12_enough_93 (show P_X12_enough σ0 τ0 a1 x2 σ τ0 from ⟨hR, hF, hFL⟩)
  · refine lv_iload_n hx hb dX12_enough_44 rfl (lv_at hl 2 rfl) ?_
    refine lv_aload_n hx hb dX12_enough_45 rfl (lv_at hl 0 rfl) ?_
    refine fg_12_6 (k := 387) hx hb hts in_X12_enough_12 hown hK hP (by decide) (by decide) (hts _ lk_X12_enough_33) dX12_enough_46 ?_
    refine r_bipush hx hb dX12_enough_49 (by decide) (fun z4 ez4 => ?_)
    refine lv_iload_n hx hb dX12_enough_51 rfl (lv_at hl 3 rfl) ?_
    refine r_iadd hx hb dX12_enough_52 (by omega) (fun z5 ez5 => ?_)
    obtain ⟨j6, ej6⟩ : ∃ j : Nat, z5.toInt = (j : Int) := ⟨_, ti_nat (by omega)⟩
    refine ad_ms (k := 389) (j := j6) hx hb hK hP (by decide) (by decide) ej6 (by omega) dX12_enough_53 ?_
    refine r_if_le (tgt := 83) hx hb dX12_enough_54 (by decide) (fun c7 => ?_) (fun c7 => ?_)
    · refine r_iconst hx hb dX12_enough_83 (by decide) (fun z8 ez8 => ?_)
      refine r_iorU hx hb dX12_enough_84 (fun z9 => ?_)
      refine lv_istore_n (lv' := [(2, .int z9), (0, .ref (ad 387)), (1, .int a1), (3, .int x3)]) hx hb dX12_enough_85 rfl hl (by decide) rfl (fun ls hl => ?_)
      refine r_iinc (k := 3) (lv1 := fun z10 => [(3, .int z10), (2, .int z9), (0, .ref (ad 387)), (1, .int a1)]) hx hb dX12_enough_86 hl rfl (by decide) (fun _ => rfl) (by decide) (by omega) (fun z10 ls ez10 hl => ?_)
      refine lv_goto (tgt := 34) hx hb dX12_enough_89 (by decide) ?_
      exact K34 σ τ0 H locs z9 z10 ls hR hF hFL hP hS (by omega) (by omega) (lv_sub hl [2, 3, 1, 0] rfl) (by omega)
    · refine lv_aload_n hx hb dX12_enough_57 rfl (lv_at hl 0 rfl) ?_
      refine fg_12_25 (k := 387) hx hb hts in_X12_enough_12 hown hK hP (by decide) (by decide) (hts _ lk_X12_enough_59) dX12_enough_58 ?_
      refine lv_iload_n hx hb dX12_enough_61 rfl (lv_at hl 3 rfl) ?_
      obtain ⟨j11, ej11⟩ : ∃ j : Nat, x3.toInt = (j : Int) := ⟨_, ti_nat (by omega)⟩
      refine ad_mp8 (k := 397) (j := j11) hx hb hK hP (by decide) (by decide) ej11 (by omega) dX12_enough_62 ?_
      refine lv_aload_n hx hb dX12_enough_63 rfl (lv_at hl 0 rfl) ?_
      refine fg_12_6 (k := 387) hx hb hts in_X12_enough_12 hown hK hP (by decide) (by decide) (hts _ lk_X12_enough_33) dX12_enough_64 ?_
      refine r_bipush hx hb dX12_enough_67 (by decide) (fun z12 ez12 => ?_)
      refine lv_iload_n hx hb dX12_enough_69 rfl (lv_at hl 3 rfl) ?_
      refine r_iadd hx hb dX12_enough_70 (by omega) (fun z13 ez13 => ?_)
      refine ad_ms (k := 389) (j := j6) hx hb hK hP (by decide) (by decide) (by omega) (by omega) dX12_enough_71 ?_
      refine r_iconst hx hb dX12_enough_72 (by decide) (fun z14 ez14 => ?_)
      have b16 := And.intro (ti_lo (σ 389 j6)) (ti_hi (σ 389 j6))
      refine r_isub hx hb dX12_enough_73 (by omega) (fun z15 ez15 => ?_)
      refine r_icmp_lt (tgt := 83) hx hb dX12_enough_74 (by decide) (fun c17 => ?_) (fun c17 => ?_)
      · refine r_iconst hx hb dX12_enough_83 (by decide) (fun z18 ez18 => ?_)
        refine r_iorU hx hb dX12_enough_84 (fun z19 => ?_)
        refine lv_istore_n (lv' := [(2, .int z19), (0, .ref (ad 387)), (1, .int a1), (3, .int x3)]) hx hb dX12_enough_85 rfl hl (by decide) rfl (fun ls hl => ?_)
        refine r_iinc (k := 3) (lv1 := fun z20 => [(3, .int z20), (2, .int z19), (0, .ref (ad 387)), (1, .int a1)]) hx hb dX12_enough_86 hl rfl (by decide) (fun _ => rfl) (by decide) (by omega) (fun z20 ls ez20 hl => ?_)
        refine lv_goto (tgt := 34) hx hb dX12_enough_89 (by decide) ?_
        exact K34 σ τ0 H locs z19 z20 ls hR hF hFL hP hS (by omega) (by omega) (lv_sub hl [2, 3, 1, 0] rfl) (by omega)
      · refine r_iconst hx hb dX12_enough_77 (by decide) (fun z21 ez21 => ?_)
        refine lv_iload_n hx hb dX12_enough_78 rfl (lv_at hl 3 rfl) ?_
        refine r_ishlU hx hb dX12_enough_79 (fun z22 => ?_)
        refine lv_goto (tgt := 84) hx hb dX12_enough_80 (by decide) ?_
        refine r_iorU hx hb dX12_enough_84 (fun z23 => ?_)
        refine lv_istore_n (lv' := [(2, .int z23), (0, .ref (ad 387)), (1, .int a1), (3, .int x3)]) hx hb dX12_enough_85 rfl hl (by decide) rfl (fun ls hl => ?_)
        refine r_iinc (k := 3) (lv1 := fun z24 => [(3, .int z24), (2, .int z23), (0, .ref (ad 387)), (1, .int a1)]) hx hb dX12_enough_86 hl rfl (by decide) (fun _ => rfl) (by decide) (by omega) (fun z24 ls ez24 hl => ?_)
        refine lv_goto (tgt := 34) hx hb dX12_enough_89 (by decide) ?_
        exact K34 σ τ0 H locs z23 z24 ls hR hF hFL hP hS (by omega) (by omega) (lv_sub hl [2, 3, 1, 0] rfl) (by omega)
theorem A_X12_enough (p : Program) (l : Launch) (e : Env) (s : State) (m : MethodId) (args : Array Value) (below : List Frame) (meth : Method) (c : Code) (D : va_G) (cA : Nat → ClassId) (ad : Nat → Nat) (σ0 : Nat → Nat → Int32) (τ0 : Nat → Nat → Int64) (a1 : Int32) (C : Cy p s m args meth c cX12_enough 4 wsX12_enough RX12 D cA ad (some .int))  : ∀ n : Nat, J_X12_enough_34 p l e s m args below meth c D cA ad σ0 τ0 a1 n := by
  intro n
  induction n with
  | zero =>
    exact (by intro σ τ H locs x2 x3 ls hR hF hFL hP hS hc0 hc1 hl hm; exfalso; omega)
  | succ n ih =>
    exact B_X12_enough_34 p l e s m args below meth c D cA ad σ0 τ0 a1 n C  ih
set_option maxHeartbeats 4000000 in
theorem c_X12_enough (l : Launch) (D : va_G) (cA : Nat → ClassId) (ad : Nat → Nat) (hI : Inj ad) (σ0 : Nat → Nat → Int32) (τ0 : Nat → Nat → Int64) (hR : Rg σ0) (a1 : Int32)  : Met l yX12_enough wsX12_enough ({ frames := 6, cells := 0, slots := 0, locals := 140 } : Room) (WQc D cA ad [.ref (ad 387), .int a1] σ0 τ0) (va_Qi (fun (r : Int32) (u : SS) => P_X12_enough σ0 τ0 a1 r u.1 u.2) (WB D cA ad) (AA ad)) 0 0 (AA ad) := by
  refine Met.ofW (cc := cX12_enough) (maxL := 4) (ret := (some .int)) (by decide) rfl ?_
  intro p e s m args below meth c s₁ B hml hv
  obtain ⟨rfl, hP, hK, hN⟩ := hv
  have C : Cy p s m _ meth c cX12_enough 4 wsX12_enough RX12 D cA ad (some .int) := ⟨B.exec, B.bytes, hml, findClass_of_methodNamed B.named, atoms_spec (ws := wsX12_enough) B.pre, hK, B.notSynchronized, B.returns, hI, hN⟩
  have hl := lv_entry ([.ref (ad 387), .int a1]) (n := 4) (Nat.le_of_ble_eq_true rfl)
  rw [lg_entry_eq]
  generalize (lg_sl ([.ref (ad 387), .int a1]) ++ List.replicate (4 - (lg_sl ([.ref (ad 387), .int a1])).length) Slot.unset).toArray = ls at hl ⊢
  have hl : lv_has ls 4 [(0, .ref (ad 387)), (1, .int a1)] := hl
  have hS : va_S (AA ad) s.heap s.heap [] := va_S.rf
  have hF : Fr L_X12_enough σ0 σ0 := Fr.rf
  have hFL : FrL LL_X12_enough τ0 τ0 := FrL.rf
  have hA := A_X12_enough p l e s m _ below meth c D cA ad σ0 τ0 a1 C  42
  have K34 := hA
  clear hA
  obtain ⟨hx, hb, _, hown, hts, _, hk, hr, _, _⟩ := C
  refine lv_aload_n hx hb dX12_enough_0 rfl (lv_at hl 0 rfl) ?_
  refine r_iconst hx hb dX12_enough_1 (by decide) (fun z1 ez1 => ?_)
  refine fp_12_0 (k := 387) hx hb hts in_X12_enough_12 hown hK hP (by decide) (by decide) (hts _ lk_X12_enough_1) hI hR hS (by omega) dX12_enough_2 (fun σ2 H2 locs2 u2 v2 hR hP hS => ?_)
  have hF := hF.puts u2 0 rfl (by decide) (by decide) (by decide) (by decide)
  refine lv_aload_n hx hb dX12_enough_5 rfl (lv_at hl 0 rfl) ?_
  refine lv_iload_n hx hb dX12_enough_6 rfl (lv_at hl 1 rfl) ?_
  refine r_cVi (k := 387) (As := [.int a1]) (rest := []) ⟨hx, hb, hml, hown, hts⟩ hK hP hN hS (c_X12_isFlight l D cA ad hI σ2 τ0 hR a1) (cwV 1 hts gX12_enough_X12_isFlight rfl rfl rfl (by decide +kernel) ⟨by decide, by decide⟩) (rv_M hK hP (by decide) (by decide)) rfl hl.1 rfl (Nat.le_of_ble_eq_true rfl) dX12_enough_7 (Nat.zero_le _) (Nat.zero_le _) (fun r3 u3 H3 locs3 hp3 hP hS => ?_)
  obtain ⟨σ3, τ3⟩ := u3
  obtain ⟨hR, f3, fL3, hq3, hp3_0⟩ : P_X12_isFlight σ2 τ0 a1 r3 σ3 τ3 := hp3
  have hP : va_P D vwCl (gw cA ad σ3 τ3) H3 := hP
  obtain rfl := FrL.nil fL3
  obtain rfl := Fr.nil f3
  refine r_if_ne (tgt := 15) hx hb dX12_enough_10 (by decide) (fun c4 => ?_) (fun c4 => ?_)
  · replace hp3_0 := hp3_0.resolve_left (by omega)
    refine lv_aload_n hx hb dX12_enough_15 rfl (lv_at hl 0 rfl) ?_
    refine r_cVv (k := 387) (As := []) (rest := []) ⟨hx, hb, hml, hown, hts⟩ hK hP hN hS (c_X12_asNow l D cA ad hI σ2 τ0 hR) (cwV 0 hts gX12_enough_X12_asNow rfl rfl rfl (by decide +kernel) ⟨by decide, by decide⟩) (rv_M hK hP (by decide) (by decide)) rfl hl.1 rfl (Nat.le_of_ble_eq_true rfl) dX12_enough_16 (Nat.zero_le _) (Nat.zero_le _) (fun u5 H5 locs5 hp5 hP hS => ?_)
    obtain ⟨σ5, τ5⟩ := u5
    obtain ⟨hR, f5, fL5⟩ : P_X12_asNow σ2 τ0 σ5 τ5 := hp5
    have hP : va_P D vwCl (gw cA ad σ5 τ5) H5 := hP
    obtain rfl := FrL.nil fL5
    have hF := hF.step f5 (by decide)
    refine lv_aload_n hx hb dX12_enough_19 rfl (lv_at hl 0 rfl) ?_
    refine lv_iload_n hx hb dX12_enough_20 rfl (lv_at hl 1 rfl) ?_
    refine lv_aload_n hx hb dX12_enough_21 rfl (lv_at hl 0 rfl) ?_
    refine fg_12_6 (k := 387) hx hb hts in_X12_enough_12 hown hK hP (by decide) (by decide) (hts _ lk_X12_enough_33) dX12_enough_22 ?_
    refine r_iconst hx hb dX12_enough_25 (by decide) (fun z6 ez6 => ?_)
    refine ad_ms (k := 389) (j := 4) hx hb hK hP (by decide) (by decide) (by omega) (by omega) dX12_enough_26 ?_
    refine r_cVv (k := 387) (As := [.int a1, .int (σ5 389 4)]) (rest := []) ⟨hx, hb, hml, hown, hts⟩ hK hP hN hS (c_X12_sharesBy l D cA ad hI σ5 τ0 hR a1 (σ5 389 4) (by omega)) (cwV 2 hts gX12_enough_X12_sharesBy rfl rfl rfl (by decide +kernel) ⟨by decide, by decide⟩) (rv_M hK hP (by decide) (by decide)) rfl hl.1 rfl (Nat.le_of_ble_eq_true rfl) dX12_enough_27 (Nat.zero_le _) (Nat.zero_le _) (fun u7 H7 locs7 hp7 hP hS => ?_)
    obtain ⟨σ7, τ7⟩ := u7
    obtain ⟨hR, f7, fL7⟩ : P_X12_sharesBy σ5 τ0 a1 (σ5 389 4) σ7 τ7 := hp7
    have hP : va_P D vwCl (gw cA ad σ7 τ7) H7 := hP
    obtain rfl := FrL.nil fL7
    have hF := hF.step f7 (by decide)
    refine r_iconst hx hb dX12_enough_30 (by decide) (fun z8 ez8 => ?_)
    refine lv_istore_n (lv' := [(2, .int z8), (0, .ref (ad 387)), (1, .int a1)]) hx hb dX12_enough_31 rfl hl (by decide) rfl (fun ls hl => ?_)
    refine r_iconst hx hb dX12_enough_32 (by decide) (fun z9 ez9 => ?_)
    refine lv_istore_n (lv' := [(3, .int z9), (2, .int z8), (0, .ref (ad 387)), (1, .int a1)]) hx hb dX12_enough_33 rfl hl (by decide) rfl (fun ls hl => ?_)
    exact K34 σ7 τ0 H7 locs7 z8 z9 ls hR hF hFL hP hS (by omega) (by omega) (lv_sub hl [2, 3, 1, 0] rfl) (by omega)
  · clear hp3_0
    refine r_iconst hx hb dX12_enough_13 (by decide) (fun z10 ez10 => ?_)
    exact r_iret hx hb hr hK hP hS hk dX12_enough_14 (show P_X12_enough σ0 τ0 a1 z10 σ2 τ0 from ⟨hR, hF, hFL⟩)
theorem in_X12_least_12 : ∀ w ∈ u_ws RX12 TX12 47, w ∈ wsX12_least := by decide +kernel
theorem lk_X12_least_1 : Cond.fieldLink RX12 1 "CuckooSharesModel" "thrown" "I" ∈ wsX12_least := by decide +kernel
theorem lk_X12_least_305 : Cond.fieldLink RX12 305 "CuckooSharesModel" "sharers" "I" ∈ wsX12_least := by decide +kernel
theorem lk_X12_least_33 : Cond.fieldLink RX12 33 "CuckooSharesModel" "s" "[I" ∈ wsX12_least := by decide +kernel
theorem lk_X12_least_59 : Cond.fieldLink RX12 59 "CuckooSharesModel" "shares" "[I" ∈ wsX12_least := by decide +kernel
abbrev L_X12_least : List Rc := [(387, 387, 0, 0), (394, 394, 0, 7), (395, 395, 0, 7), (396, 396, 0, 7), (387, 387, 26, 26), (397, 397, 0, 7)]
abbrev LL_X12_least : List Rc := []
def P_X12_least (σ0 : Nat → Nat → Int32) (τ0 : Nat → Nat → Int64) (a1 : Int32) (r : Int32) (σ : Nat → Nat → Int32) (τ : Nat → Nat → Int64) : Prop := Rg σ ∧ Fr L_X12_least σ0 σ ∧ FrL LL_X12_least τ0 τ ∧ (-1 ≤ r.toInt ∧ r.toInt ≤ 999)
def J_X12_least_21 (p : Program) (l : Launch) (e : Env) (s : State) (m : MethodId) (args : Array Value) (below : List Frame) (meth : Method) (c : Code) (D : va_G) (cA : Nat → ClassId) (ad : Nat → Nat) (σ0 : Nat → Nat → Int32) (τ0 : Nat → Nat → Int64) (a1 : Int32) (n : Nat) : Prop := ∀ (σ : Nat → Nat → Int32) (τ : Nat → Nat → Int64) (H : Heap) (locs : List Loc) (x2 : Int32) (ls : Array Slot), Rg σ → Fr L_X12_least σ0 σ → FrL LL_X12_least τ0 τ → va_P D vwCl (gw cA ad σ τ) H → va_S (AA ad) s.heap H locs → (0 ≤ a1.toInt ∧ a1.toInt ≤ 3) → (0 ≤ x2.toInt ∧ x2.toInt ≤ 1000) → lv_has ls 5 [(0, .ref (ad 387)), (1, .int a1), (2, .int x2)] → 21 * (1000 - x2.toInt) + 20 < (n : Int) → W p l e ({ frames := 6, cells := 0, slots := 0, locals := 140 } : Room) s m args below meth c H locs 0 0 (MQ below (va_Qi (fun (r : Int32) (u : SS) => P_X12_least σ0 τ0 a1 r u.1 u.2) (WB D cA ad) (AA ad)) args s 0 0 (AA ad)) (F0 m 21 ls [])
def J_X12_least_50 (p : Program) (l : Launch) (e : Env) (s : State) (m : MethodId) (args : Array Value) (below : List Frame) (meth : Method) (c : Code) (D : va_G) (cA : Nat → ClassId) (ad : Nat → Nat) (σ0 : Nat → Nat → Int32) (τ0 : Nat → Nat → Int64) (a1 : Int32) (n : Nat) : Prop := ∀ (σ : Nat → Nat → Int32) (τ : Nat → Nat → Int64) (H : Heap) (locs : List Loc) (x2 : Int32) (x3 : Int32) (x4 : Int32) (ls : Array Slot), Rg σ → Fr L_X12_least σ0 σ → FrL LL_X12_least τ0 τ → va_P D vwCl (gw cA ad σ τ) H → va_S (AA ad) s.heap H locs → (0 ≤ a1.toInt ∧ a1.toInt ≤ 3) → (0 ≤ x2.toInt ∧ x2.toInt ≤ 999) → (0 ≤ x3.toInt ∧ x3.toInt ≤ 1) → (0 ≤ x4.toInt ∧ x4.toInt ≤ 8) → lv_has ls 5 [(0, .ref (ad 387)), (1, .int a1), (2, .int x2), (3, .int x3), (4, .int x4)] → 2 * (8 - x4.toInt) + 21 * (1000 - x2.toInt) + 1 < (n : Int) → W p l e ({ frames := 6, cells := 0, slots := 0, locals := 140 } : Room) s m args below meth c H locs 0 0 (MQ below (va_Qi (fun (r : Int32) (u : SS) => P_X12_least σ0 τ0 a1 r u.1 u.2) (WB D cA ad) (AA ad)) args s 0 0 (AA ad)) (F0 m 50 ls [])
set_option maxHeartbeats 4000000 in
theorem B_X12_least_21 (p : Program) (l : Launch) (e : Env) (s : State) (m : MethodId) (args : Array Value) (below : List Frame) (meth : Method) (c : Code) (D : va_G) (cA : Nat → ClassId) (ad : Nat → Nat) (σ0 : Nat → Nat → Int32) (τ0 : Nat → Nat → Int64) (a1 : Int32) (n : Nat) (C : Cy p s m args meth c cX12_least 5 wsX12_least RX12 D cA ad (some .int))  (K21 : J_X12_least_21 p l e s m args below meth c D cA ad σ0 τ0 a1 n) (K50 : J_X12_least_50 p l e s m args below meth c D cA ad σ0 τ0 a1 n) : J_X12_least_21 p l e s m args below meth c D cA ad σ0 τ0 a1 (n + 1) := by
  obtain ⟨hx, hb, hml, hown, hts, hK, hk, hr, hI, hN⟩ := C
  intro σ τ H locs x2 ls hR hF hFL hP hS hc0 hc1 hl hm
  obtain rfl := FrL.nil hFL
  refine lv_iload_n hx hb dX12_least_21 rfl (lv_at hl 2 rfl) ?_
  refine r_sipush hx hb dX12_least_22 (by decide) (fun z1 ez1 => ?_)
  refine r_icmp_ge (tgt := 123) hx hb dX12_least_25 (by decide) (fun c2 => ?_) (fun c2 => ?_)
  · refine r_iconst hx hb dX12_least_123 (by decide) (fun z3 ez3 => ?_)
    exact r_iret hx hb hr hK hP hS hk dX12_least_124 (show P_X12_least σ0 τ0 a1 z3 σ τ0 from ⟨hR, hF, hFL, by omega⟩)
  · refine lv_aload_n hx hb dX12_least_28 rfl (lv_at hl 0 rfl) ?_
    refine lv_iload_n hx hb dX12_least_29 rfl (lv_at hl 1 rfl) ?_
    refine lv_iload_n hx hb dX12_least_30 rfl (lv_at hl 2 rfl) ?_
    refine r_cVv (k := 387) (As := [.int a1, .int x2]) (rest := []) ⟨hx, hb, hml, hown, hts⟩ hK hP hN hS (c_X12_sharesBy l D cA ad hI σ τ0 hR a1 x2 (by omega)) (cwV 2 hts gX12_least_X12_sharesBy rfl rfl rfl (by decide +kernel) ⟨by decide, by decide⟩) (rv_M hK hP (by decide) (by decide)) rfl hl.1 rfl (Nat.le_of_ble_eq_true rfl) dX12_least_31 (Nat.zero_le _) (Nat.zero_le _) (fun u4 H4 locs4 hp4 hP hS => ?_)
    obtain ⟨σ4, τ4⟩ := u4
    obtain ⟨hR, f4, fL4⟩ : P_X12_sharesBy σ τ0 a1 x2 σ4 τ4 := hp4
    have hP : va_P D vwCl (gw cA ad σ4 τ4) H4 := hP
    obtain rfl := FrL.nil fL4
    have hF := hF.step f4 (by decide)
    refine lv_aload_n hx hb dX12_least_34 rfl (lv_at hl 0 rfl) ?_
    refine fg_12_26 (k := 387) hx hb hts in_X12_least_12 hown hK hP (by decide) (by decide) (hts _ lk_X12_least_305) dX12_least_35 ?_
    refine r_if_eq (tgt := 45) hx hb dX12_least_38 (by decide) (fun c5 => ?_) (fun c5 => ?_)
    · refine r_iconst hx hb dX12_least_45 (by decide) (fun z6 ez6 => ?_)
      refine lv_istore_n (lv' := [(3, .int z6), (0, .ref (ad 387)), (1, .int a1), (2, .int x2)]) hx hb dX12_least_46 rfl hl (by decide) rfl (fun ls hl => ?_)
      refine r_iconst hx hb dX12_least_47 (by decide) (fun z7 ez7 => ?_)
      refine lv_istore (lv' := [(4, .int z7), (3, .int z6), (0, .ref (ad 387)), (1, .int a1), (2, .int x2)]) hx hb dX12_least_48 hl (by decide) rfl (fun ls hl => ?_)
      exact K50 σ4 τ0 H4 locs4 x2 z6 z7 ls hR hF hFL hP hS (by omega) (by omega) (by omega) (by omega) (lv_sub hl [2, 3, 4, 1, 0] rfl) (by omega)
    · refine r_iconst hx hb dX12_least_41 (by decide) (fun z8 ez8 => ?_)
      refine lv_goto (tgt := 46) hx hb dX12_least_42 (by decide) ?_
      refine lv_istore_n (lv' := [(3, .int z8), (0, .ref (ad 387)), (1, .int a1), (2, .int x2)]) hx hb dX12_least_46 rfl hl (by decide) rfl (fun ls hl => ?_)
      refine r_iconst hx hb dX12_least_47 (by decide) (fun z9 ez9 => ?_)
      refine lv_istore (lv' := [(4, .int z9), (3, .int z8), (0, .ref (ad 387)), (1, .int a1), (2, .int x2)]) hx hb dX12_least_48 hl (by decide) rfl (fun ls hl => ?_)
      exact K50 σ4 τ0 H4 locs4 x2 z8 z9 ls hR hF hFL hP hS (by omega) (by omega) (by omega) (by omega) (lv_sub hl [2, 3, 4, 1, 0] rfl) (by omega)
set_option maxHeartbeats 4000000 in
theorem B_X12_least_50 (p : Program) (l : Launch) (e : Env) (s : State) (m : MethodId) (args : Array Value) (below : List Frame) (meth : Method) (c : Code) (D : va_G) (cA : Nat → ClassId) (ad : Nat → Nat) (σ0 : Nat → Nat → Int32) (τ0 : Nat → Nat → Int64) (a1 : Int32) (n : Nat) (C : Cy p s m args meth c cX12_least 5 wsX12_least RX12 D cA ad (some .int))  (K21 : J_X12_least_21 p l e s m args below meth c D cA ad σ0 τ0 a1 n) (K50 : J_X12_least_50 p l e s m args below meth c D cA ad σ0 τ0 a1 n) : J_X12_least_50 p l e s m args below meth c D cA ad σ0 τ0 a1 (n + 1) := by
  obtain ⟨hx, hb, hml, hown, hts, hK, hk, hr, hI, hN⟩ := C
  intro σ τ H locs x2 x3 x4 ls hR hF hFL hP hS hc0 hc1 hc2 hc3 hl hm
  obtain rfl := FrL.nil hFL
  refine lv_iload hx hb dX12_least_50 (lv_at hl 4 rfl) ?_
  refine lv_aload_n hx hb dX12_least_52 rfl (lv_at hl 0 rfl) ?_
  refine fg_12_6 (k := 387) hx hb hts in_X12_least_12 hown hK hP (by decide) (by decide) (hts _ lk_X12_least_33) dX12_least_53 ?_
  refine r_iconst hx hb dX12_least_56 (by decide) (fun z1 ez1 => ?_)
  refine ad_ms (k := 389) (j := 1) hx hb hK hP (by decide) (by decide) (by omega) (by omega) dX12_least_57 ?_
  have hr2 := ra_ms_0 hR (k := 389) (j := 1) (by decide) (by decide) (by decide) (by decide)
  refine r_icmp_ge (tgt := 111) hx hb dX12_least_58 (by decide) (fun c3 => ?_) (fun c3 => ?_)
  · refine lv_iload_n hx hb dX12_least_111 rfl (lv_at hl 3 rfl) ?_
    refine r_if_eq (tgt := 117) hx hb dX12_least_112 (by decide) (fun c4 => ?_) (fun c4 => ?_)
    · refine r_iinc (k := 2) (lv1 := fun z5 => [(2, .int z5), (0, .ref (ad 387)), (1, .int a1), (3, .int x3), (4, .int x4)]) hx hb dX12_least_117 hl rfl (by decide) (fun _ => rfl) (by decide) (by omega) (fun z5 ls ez5 hl => ?_)
      refine lv_goto (tgt := 21) hx hb dX12_least_120 (by decide) ?_
      exact K21 σ τ0 H locs z5 ls hR hF hFL hP hS (by omega) (by omega) (lv_sub hl [1, 2, 0] rfl) (by omega)
    · refine lv_iload_n hx hb dX12_least_115 rfl (lv_at hl 2 rfl) ?_
      exact r_iret hx hb hr hK hP hS hk dX12_least_116 (show P_X12_least σ0 τ0 a1 x2 σ τ0 from ⟨hR, hF, hFL, by omega⟩)
  · refine lv_iload_n hx hb dX12_least_61 rfl (lv_at hl 3 rfl) ?_
    refine r_if_eq (tgt := 103) hx hb dX12_least_62 (by decide) (fun c6 => ?_) (fun c6 => ?_)
    · refine r_iconst hx hb dX12_least_103 (by decide) (fun z7 ez7 => ?_)
      refine lv_istore_n (lv' := [(3, .int z7), (0, .ref (ad 387)), (1, .int a1), (2, .int x2), (4, .int x4)]) hx hb dX12_least_104 rfl hl (by decide) rfl (fun ls hl => ?_)
      refine r_iinc (k := 4) (lv1 := fun z8 => [(4, .int z8), (3, .int z7), (0, .ref (ad 387)), (1, .int a1), (2, .int x2)]) hx hb dX12_least_105 hl rfl (by decide) (fun _ => rfl) (by decide) (by omega) (fun z8 ls ez8 hl => ?_)
      refine lv_goto (tgt := 50) hx hb dX12_least_108 (by decide) ?_
      exact K50 σ τ0 H locs x2 z7 z8 ls hR hF hFL hP hS (by omega) (by omega) (by omega) (by omega) (lv_sub hl [2, 3, 4, 1, 0] rfl) (by omega)
    · refine lv_aload_n hx hb dX12_least_65 rfl (lv_at hl 0 rfl) ?_
      refine fg_12_26 (k := 387) hx hb hts in_X12_least_12 hown hK hP (by decide) (by decide) (hts _ lk_X12_least_305) dX12_least_66 ?_
      refine lv_iload hx hb dX12_least_69 (lv_at hl 4 rfl) ?_
      refine r_cSi (As := [.int (σ 387 26), .int x4]) (rest := []) ⟨hx, hb, hml, hown, hts⟩ hK hP hN hS (c_X12_bitOf l D cA ad hI σ τ0 hR (σ 387 26) x4 (by omega)) (va_cwS 2 hts gX12_least_X12_bitOf rfl rfl rfl (by decide +kernel) ⟨by decide, by decide⟩) rfl hl.1 rfl (Nat.le_of_ble_eq_true rfl) dX12_least_71 (Nat.zero_le _) (Nat.zero_le _) (fun r9 u9 H9 locs9 hp9 hP hS => ?_)
      obtain ⟨σ9, τ9⟩ := u9
      obtain ⟨hR, f9, fL9, hq9, hp9_0⟩ : P_X12_bitOf σ τ0 (σ 387 26) x4 r9 σ9 τ9 := hp9
      have hP : va_P D vwCl (gw cA ad σ9 τ9) H9 := hP
      obtain rfl := FrL.nil fL9
      obtain rfl := Fr.nil f9
      refine r_if_eq (tgt := 99) hx hb dX12_least_74 (by decide) (fun c10 => ?_) (fun c10 => ?_)
      · refine r_iconst hx hb dX12_least_99 (by decide) (fun z11 ez11 => ?_)
        refine lv_goto (tgt := 104) hx hb dX12_least_100 (by decide) ?_
        refine lv_istore_n (lv' := [(3, .int z11), (0, .ref (ad 387)), (1, .int a1), (2, .int x2), (4, .int x4)]) hx hb dX12_least_104 rfl hl (by decide) rfl (fun ls hl => ?_)
        refine r_iinc (k := 4) (lv1 := fun z12 => [(4, .int z12), (3, .int z11), (0, .ref (ad 387)), (1, .int a1), (2, .int x2)]) hx hb dX12_least_105 hl rfl (by decide) (fun _ => rfl) (by decide) (by omega) (fun z12 ls ez12 hl => ?_)
        refine lv_goto (tgt := 50) hx hb dX12_least_108 (by decide) ?_
        exact K50 σ τ0 H9 locs9 x2 z11 z12 ls hR hF hFL hP hS (by omega) (by omega) (by omega) (by omega) (lv_sub hl [2, 3, 4, 1, 0] rfl) (by omega)
      · refine lv_aload_n hx hb dX12_least_77 rfl (lv_at hl 0 rfl) ?_
        refine fg_12_25 (k := 387) hx hb hts in_X12_least_12 hown hK hP (by decide) (by decide) (hts _ lk_X12_least_59) dX12_least_78 ?_
        refine lv_iload hx hb dX12_least_81 (lv_at hl 4 rfl) ?_
        obtain ⟨j13, ej13⟩ : ∃ j : Nat, x4.toInt = (j : Int) := ⟨_, ti_nat (by omega)⟩
        refine ad_mp8 (k := 397) (j := j13) hx hb hK hP (by decide) (by decide) ej13 (by omega) dX12_least_83 ?_
        refine lv_aload_n hx hb dX12_least_84 rfl (lv_at hl 0 rfl) ?_
        refine fg_12_6 (k := 387) hx hb hts in_X12_least_12 hown hK hP (by decide) (by decide) (hts _ lk_X12_least_33) dX12_least_85 ?_
        refine r_bipush hx hb dX12_least_88 (by decide) (fun z14 ez14 => ?_)
        refine lv_iload hx hb dX12_least_90 (lv_at hl 4 rfl) ?_
        refine r_iadd hx hb dX12_least_92 (by omega) (fun z15 ez15 => ?_)
        obtain ⟨j16, ej16⟩ : ∃ j : Nat, z15.toInt = (j : Int) := ⟨_, ti_nat (by omega)⟩
        refine ad_ms (k := 389) (j := j16) hx hb hK hP (by decide) (by decide) ej16 (by omega) dX12_least_93 ?_
        refine r_iconst hx hb dX12_least_94 (by decide) (fun z17 ez17 => ?_)
        refine r_isubU hx hb dX12_least_95 (fun z18 => ?_)
        refine r_icmp_lt (tgt := 103) hx hb dX12_least_96 (by decide) (fun c19 => ?_) (fun c19 => ?_)
        · refine r_iconst hx hb dX12_least_103 (by decide) (fun z20 ez20 => ?_)
          refine lv_istore_n (lv' := [(3, .int z20), (0, .ref (ad 387)), (1, .int a1), (2, .int x2), (4, .int x4)]) hx hb dX12_least_104 rfl hl (by decide) rfl (fun ls hl => ?_)
          refine r_iinc (k := 4) (lv1 := fun z21 => [(4, .int z21), (3, .int z20), (0, .ref (ad 387)), (1, .int a1), (2, .int x2)]) hx hb dX12_least_105 hl rfl (by decide) (fun _ => rfl) (by decide) (by omega) (fun z21 ls ez21 hl => ?_)
          refine lv_goto (tgt := 50) hx hb dX12_least_108 (by decide) ?_
          exact K50 σ τ0 H9 locs9 x2 z20 z21 ls hR hF hFL hP hS (by omega) (by omega) (by omega) (by omega) (lv_sub hl [2, 3, 4, 1, 0] rfl) (by omega)
        · refine r_iconst hx hb dX12_least_99 (by decide) (fun z22 ez22 => ?_)
          refine lv_goto (tgt := 104) hx hb dX12_least_100 (by decide) ?_
          refine lv_istore_n (lv' := [(3, .int z22), (0, .ref (ad 387)), (1, .int a1), (2, .int x2), (4, .int x4)]) hx hb dX12_least_104 rfl hl (by decide) rfl (fun ls hl => ?_)
          refine r_iinc (k := 4) (lv1 := fun z23 => [(4, .int z23), (3, .int z22), (0, .ref (ad 387)), (1, .int a1), (2, .int x2)]) hx hb dX12_least_105 hl rfl (by decide) (fun _ => rfl) (by decide) (by omega) (fun z23 ls ez23 hl => ?_)
          refine lv_goto (tgt := 50) hx hb dX12_least_108 (by decide) ?_
          exact K50 σ τ0 H9 locs9 x2 z22 z23 ls hR hF hFL hP hS (by omega) (by omega) (by omega) (by omega) (lv_sub hl [2, 3, 4, 1, 0] rfl) (by omega)
theorem A_X12_least (p : Program) (l : Launch) (e : Env) (s : State) (m : MethodId) (args : Array Value) (below : List Frame) (meth : Method) (c : Code) (D : va_G) (cA : Nat → ClassId) (ad : Nat → Nat) (σ0 : Nat → Nat → Int32) (τ0 : Nat → Nat → Int64) (a1 : Int32) (C : Cy p s m args meth c cX12_least 5 wsX12_least RX12 D cA ad (some .int))  : ∀ n : Nat, J_X12_least_21 p l e s m args below meth c D cA ad σ0 τ0 a1 n ∧ J_X12_least_50 p l e s m args below meth c D cA ad σ0 τ0 a1 n := by
  intro n
  induction n with
  | zero =>
    exact ⟨(by intro σ τ H locs x2 ls hR hF hFL hP hS hc0 hc1 hl hm; exfalso; omega), (by intro σ τ H locs x2 x3 x4 ls hR hF hFL hP hS hc0 hc1 hc2 hc3 hl hm; exfalso; omega)⟩
  | succ n ih =>
    exact ⟨B_X12_least_21 p l e s m args below meth c D cA ad σ0 τ0 a1 n C  ih.1 ih.2, B_X12_least_50 p l e s m args below meth c D cA ad σ0 τ0 a1 n C  ih.1 ih.2⟩
set_option maxHeartbeats 4000000 in
theorem c_X12_least (l : Launch) (D : va_G) (cA : Nat → ClassId) (ad : Nat → Nat) (hI : Inj ad) (σ0 : Nat → Nat → Int32) (τ0 : Nat → Nat → Int64) (hR : Rg σ0) (a1 : Int32)  : Met l yX12_least wsX12_least ({ frames := 6, cells := 0, slots := 0, locals := 140 } : Room) (WQc D cA ad [.ref (ad 387), .int a1] σ0 τ0) (va_Qi (fun (r : Int32) (u : SS) => P_X12_least σ0 τ0 a1 r u.1 u.2) (WB D cA ad) (AA ad)) 0 0 (AA ad) := by
  refine Met.ofW (cc := cX12_least) (maxL := 5) (ret := (some .int)) (by decide) rfl ?_
  intro p e s m args below meth c s₁ B hml hv
  obtain ⟨rfl, hP, hK, hN⟩ := hv
  have C : Cy p s m _ meth c cX12_least 5 wsX12_least RX12 D cA ad (some .int) := ⟨B.exec, B.bytes, hml, findClass_of_methodNamed B.named, atoms_spec (ws := wsX12_least) B.pre, hK, B.notSynchronized, B.returns, hI, hN⟩
  have hl := lv_entry ([.ref (ad 387), .int a1]) (n := 5) (Nat.le_of_ble_eq_true rfl)
  rw [lg_entry_eq]
  generalize (lg_sl ([.ref (ad 387), .int a1]) ++ List.replicate (5 - (lg_sl ([.ref (ad 387), .int a1])).length) Slot.unset).toArray = ls at hl ⊢
  have hl : lv_has ls 5 [(0, .ref (ad 387)), (1, .int a1)] := hl
  have hS : va_S (AA ad) s.heap s.heap [] := va_S.rf
  have hF : Fr L_X12_least σ0 σ0 := Fr.rf
  have hFL : FrL LL_X12_least τ0 τ0 := FrL.rf
  have hA := A_X12_least p l e s m _ below meth c D cA ad σ0 τ0 a1 C  42085
  have K21 := hA.1
  have K50 := hA.2
  clear hA
  obtain ⟨hx, hb, _, hown, hts, _, hk, hr, _, _⟩ := C
  refine lv_aload_n hx hb dX12_least_0 rfl (lv_at hl 0 rfl) ?_
  refine r_iconst hx hb dX12_least_1 (by decide) (fun z1 ez1 => ?_)
  refine fp_12_0 (k := 387) hx hb hts in_X12_least_12 hown hK hP (by decide) (by decide) (hts _ lk_X12_least_1) hI hR hS (by omega) dX12_least_2 (fun σ2 H2 locs2 u2 v2 hR hP hS => ?_)
  have hF := hF.puts u2 0 rfl (by decide) (by decide) (by decide) (by decide)
  refine lv_aload_n hx hb dX12_least_5 rfl (lv_at hl 0 rfl) ?_
  refine lv_iload_n hx hb dX12_least_6 rfl (lv_at hl 1 rfl) ?_
  refine r_cVi (k := 387) (As := [.int a1]) (rest := []) ⟨hx, hb, hml, hown, hts⟩ hK hP hN hS (c_X12_isFlight l D cA ad hI σ2 τ0 hR a1) (cwV 1 hts gX12_least_X12_isFlight rfl rfl rfl (by decide +kernel) ⟨by decide, by decide⟩) (rv_M hK hP (by decide) (by decide)) rfl hl.1 rfl (Nat.le_of_ble_eq_true rfl) dX12_least_7 (Nat.zero_le _) (Nat.zero_le _) (fun r3 u3 H3 locs3 hp3 hP hS => ?_)
  obtain ⟨σ3, τ3⟩ := u3
  obtain ⟨hR, f3, fL3, hq3, hp3_0⟩ : P_X12_isFlight σ2 τ0 a1 r3 σ3 τ3 := hp3
  have hP : va_P D vwCl (gw cA ad σ3 τ3) H3 := hP
  obtain rfl := FrL.nil fL3
  obtain rfl := Fr.nil f3
  refine r_if_ne (tgt := 15) hx hb dX12_least_10 (by decide) (fun c4 => ?_) (fun c4 => ?_)
  · replace hp3_0 := hp3_0.resolve_left (by omega)
    refine lv_aload_n hx hb dX12_least_15 rfl (lv_at hl 0 rfl) ?_
    refine r_cVv (k := 387) (As := []) (rest := []) ⟨hx, hb, hml, hown, hts⟩ hK hP hN hS (c_X12_asNow l D cA ad hI σ2 τ0 hR) (cwV 0 hts gX12_least_X12_asNow rfl rfl rfl (by decide +kernel) ⟨by decide, by decide⟩) (rv_M hK hP (by decide) (by decide)) rfl hl.1 rfl (Nat.le_of_ble_eq_true rfl) dX12_least_16 (Nat.zero_le _) (Nat.zero_le _) (fun u5 H5 locs5 hp5 hP hS => ?_)
    obtain ⟨σ5, τ5⟩ := u5
    obtain ⟨hR, f5, fL5⟩ : P_X12_asNow σ2 τ0 σ5 τ5 := hp5
    have hP : va_P D vwCl (gw cA ad σ5 τ5) H5 := hP
    obtain rfl := FrL.nil fL5
    have hF := hF.step f5 (by decide)
    refine r_iconst hx hb dX12_least_19 (by decide) (fun z6 ez6 => ?_)
    refine lv_istore_n (lv' := [(2, .int z6), (0, .ref (ad 387)), (1, .int a1)]) hx hb dX12_least_20 rfl hl (by decide) rfl (fun ls hl => ?_)
    exact K21 σ5 τ0 H5 locs5 z6 ls hR hF hFL hP hS (by omega) (by omega) (lv_sub hl [1, 2, 0] rfl) (by omega)
  · clear hp3_0
    refine r_iconst hx hb dX12_least_13 (by decide) (fun z7 ez7 => ?_)
    exact r_iret hx hb hr hK hP hS hk dX12_least_14 (show P_X12_least σ0 τ0 a1 z7 σ2 τ0 from ⟨hR, hF, hFL, by omega⟩)
