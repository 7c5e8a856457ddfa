theorem in_X8_append_8 : ∀ w ∈ u_ws RX8 TX8 15, w ∈ wsX8_append := by decide +kernel
theorem lk_X8_append_29 : Cond.fieldLink RX8 29 "CuckooShares$Tape" "size" "I" ∈ wsX8_append := by decide +kernel
theorem lk_X8_append_9 : Cond.fieldLink RX8 9 "CuckooShares$Tape" "bytes" "[B" ∈ wsX8_append := by decide +kernel
abbrev L_X8_append : List Rc := [(35, 35, 0, 939), (1, 1, 5, 5)]
abbrev LL_X8_append : List Rc := []
def P_X8_append (σ0 : Nat → Nat → Int32) (τ0 : Nat → Nat → Int64) (a1 : Int32) (σ : Nat → Nat → Int32) (τ : Nat → Nat → Int64) : Prop := Rg σ ∧ Fr L_X8_append σ0 σ ∧ FrL LL_X8_append τ0 τ ∧ ((σ 1 5).toInt = (σ0 1 5).toInt + 4) ∧ (B4 σ0 σ 35 (σ0 1 5).toInt.toNat a1)
def J_X8_append_3 (p : Program) (l : Launch) (e : Env) (s : State) (m : MethodId) (args : Array Value) (below : List Frame) (meth : Method) (c : Code) (D : va_G) (cA : Nat → ClassId) (ad : Nat → Nat) (σ0 : Nat → Nat → Int32) (τ0 : Nat → Nat → Int64) (a1 : Int32) (n : Nat) : Prop := ∀ (σ : Nat → Nat → Int32) (τ : Nat → Nat → Int64) (H : Heap) (locs : List Loc) (x2 : Int32) (ls : Array Slot), Rg σ → Fr L_X8_append σ0 σ → FrL LL_X8_append τ0 τ → va_P D vwCl (gw cA ad σ τ) H → va_S (AA ad) s.heap H locs → (-8 ≤ x2.toInt ∧ x2.toInt ≤ 24) → (8 * (σ 1 5).toInt = 8 * (σ0 1 5).toInt + 24 - x2.toInt) → (∀ i : Nat, 8 * (i : Int) < 24 - x2.toInt → σ 35 ((σ0 1 5).toInt.toNat + i) = bt a1 (sh i)) → (∀ i : Nat, i < (σ0 1 5).toInt.toNat → σ 35 i = σ0 35 i) → lv_has ls 3 [(0, .ref (ad 1)), (1, .int a1), (2, .int x2)] → 2 * (x2.toInt - -8) + 1 < (n : Int) → W p l e ({ frames := 0, cells := 0, slots := 0, locals := 0 } : Room) s m args below meth c H locs 0 0 (MQ below (va_Qv (fun u : SS => P_X8_append σ0 τ0 a1 u.1 u.2) (WB D cA ad) (AA ad)) args s 0 0 (AA ad)) (F0 m 3 ls [])
set_option maxHeartbeats 4000000 in
theorem B_X8_append_3 (p : Program) (l : Launch) (e : Env) (s : State) (m : MethodId) (args : Array Value) (below : List Frame) (meth : Method) (c : Code) (D : va_G) (cA : Nat → ClassId) (ad : Nat → Nat) (σ0 : Nat → Nat → Int32) (τ0 : Nat → Nat → Int64) (a1 : Int32) (n : Nat) (C : Cy p s m args meth c cX8_append 3 wsX8_append RX8 D cA ad none) (hpre0 : 0 ≤ (σ0 1 5).toInt ∧ (σ0 1 5).toInt ≤ 936) (K3 : J_X8_append_3 p l e s m args below meth c D cA ad σ0 τ0 a1 n) : J_X8_append_3 p l e s m args below meth c D cA ad σ0 τ0 a1 (n + 1) := by
  obtain ⟨hx, hb, hml, hown, hts, hK, hk, hr, hI, hN⟩ := C
  intro σ τ H locs x2 ls hR hF hFL hP hS hc0 hi0 hi1 hi2 hl hm
  obtain rfl := FrL.nil hFL
  refine lv_iload_n hx hb dX8_append_3 rfl (lv_at hl 2 rfl) ?_
  refine r_if_lt (tgt := 46) hx hb dX8_append_4 (by decide) (fun c1 => ?_) (fun c1 => ?_)
  · exact r_vret hx hb hr hK hP hS hk dX8_append_46 (show P_X8_append σ0 τ0 a1 σ τ0 from ⟨hR, hF, hFL, by omega, ⟨fun i hi => hi1 i (by omega), hi2⟩⟩)
  · refine lv_aload_n hx hb dX8_append_7 rfl (lv_at hl 0 rfl) ?_
    refine fg_8_5 (k := 1) hx hb hts in_X8_append_8 hown hK hP (by decide) (by decide) (hts _ lk_X8_append_29) dX8_append_8 ?_
    have hr2 := rg_8_5 hR (k := 1) (by decide) (by decide)
    refine r_sipush hx hb dX8_append_11 (by decide) (fun z3 ez3 => ?_)
    refine r_icmp_ge (tgt := 40) hx hb dX8_append_14 (by decide) (fun c4 => ?_) (fun c4 => ?_)
    · refine r_iinc (k := 2) (lv1 := fun z5 => [(2, .int z5), (0, .ref (ad 1)), (1, .int a1)]) hx hb dX8_append_40 hl rfl (by decide) (fun _ => rfl) (by decide) (by omega) (fun z5 ls ez5 hl => ?_)
      refine lv_goto (tgt := 3) hx hb dX8_append_43 (by decide) ?_
      exact K3 σ τ0 H locs z5 ls hR hF hFL hP hS (by omega) (by omega) (by first | exact (fun i hi => absurd hi (by omega)) | exact BYs hi1 ub wb us (by decide) (by omega) (by omega) (by omega) | (exfalso; omega)) (by first | exact (fun _ _ => rfl) | exact BYk hi2 ub us (by decide) (by omega) | (exfalso; omega)) (lv_sub hl [1, 2, 0] rfl) (by omega)
    · refine lv_aload_n hx hb dX8_append_17 rfl (lv_at hl 0 rfl) ?_
      refine fg_8_0 (k := 1) hx hb hts in_X8_append_8 hown hK hP (by decide) (by decide) (hts _ lk_X8_append_9) dX8_append_18 ?_
      refine lv_aload_n hx hb dX8_append_21 rfl (lv_at hl 0 rfl) ?_
      refine fg_8_5 (k := 1) hx hb hts in_X8_append_8 hown hK hP (by decide) (by decide) (hts _ lk_X8_append_29) dX8_append_22 ?_
      refine lv_iload_n hx hb dX8_append_25 rfl (lv_at hl 1 rfl) ?_
      refine lv_iload_n hx hb dX8_append_26 rfl (lv_at hl 2 rfl) ?_
      refine lv_ishr hx hb dX8_append_27 ?_
      refine lv_i2b (v := ((a1 >>> (x2 &&& 31)).toInt8.toInt32)) hx hb dX8_append_28 rfl ?_
      obtain ⟨j6, ej6⟩ : ∃ j : Nat, (σ 1 5).toInt = (j : Int) := ⟨_, ti_nat (by omega)⟩
      refine as_bytesE (k := 35) (j := j6) hx hb hK hP hI hR hS (by decide) (by decide) ej6 (by omega) dX8_append_29 (fun σ7 H7 locs7 u7 v7 hR hP hS => ?_)
      have ub := u7
      have wb := v7
      have hF := hF.puts u7 0 rfl (by decide) (by decide) (by omega) (by omega)
      have t8 : (σ7 1 5).toInt = (σ 1 5).toInt := congrArg Int32.toInt (u7 1 5 (by omega))
      refine lv_aload_n hx hb dX8_append_30 rfl (lv_at hl 0 rfl) ?_
      refine lv_dup hx hb dX8_append_31 rfl ?_
      refine fg_8_5 (k := 1) hx hb hts in_X8_append_8 hown hK hP (by decide) (by decide) (hts _ lk_X8_append_29) dX8_append_32 ?_
      refine r_iconst hx hb dX8_append_35 (by decide) (fun z9 ez9 => ?_)
      refine r_iadd hx hb dX8_append_36 (by omega) (fun z10 ez10 => ?_)
      refine fp_8_5 (k := 1) hx hb hts in_X8_append_8 hown hK hP (by decide) (by decide) (hts _ lk_X8_append_29) hI hR hS (by omega) dX8_append_37 (fun σ11 H11 locs11 u11 v11 hR hP hS => ?_)
      have us := u11
      have vs := v11
      have hF := hF.puts u11 1 rfl (by decide) (by decide) (by decide) (by decide)
      refine r_iinc (k := 2) (lv1 := fun z12 => [(2, .int z12), (0, .ref (ad 1)), (1, .int a1)]) hx hb dX8_append_40 hl rfl (by decide) (fun _ => rfl) (by decide) (by omega) (fun z12 ls ez12 hl => ?_)
      refine lv_goto (tgt := 3) hx hb dX8_append_43 (by decide) ?_
      exact K3 σ11 τ0 H11 locs11 z12 ls hR hF hFL hP hS (by omega) (by omega) (by first | exact (fun i hi => absurd hi (by omega)) | exact BYs hi1 ub wb us (by decide) (by omega) (by omega) (by omega) | (exfalso; omega)) (by first | exact (fun _ _ => rfl) | exact BYk hi2 ub us (by decide) (by omega) | (exfalso; omega)) (lv_sub hl [1, 2, 0] rfl) (by omega)
theorem A_X8_append (p : Program) (l : Launch) (e : Env) (s : State) (m : MethodId) (args : Array Value) (below : List Frame) (meth : Method) (c : Code) (D : va_G) (cA : Nat → ClassId) (ad : Nat → Nat) (σ0 : Nat → Nat → Int32) (τ0 : Nat → Nat → Int64) (a1 : Int32) (C : Cy p s m args meth c cX8_append 3 wsX8_append RX8 D cA ad none) (hpre0 : 0 ≤ (σ0 1 5).toInt ∧ (σ0 1 5).toInt ≤ 936) : ∀ n : Nat, J_X8_append_3 p l e s m args below meth c D cA ad σ0 τ0 a1 n := by
  intro n
  induction n with
  | zero =>
    exact (by intro σ τ H locs x2 ls hR hF hFL hP hS hc0 hi0 hi1 hi2 hl hm; exfalso; omega)
  | succ n ih =>
    exact B_X8_append_3 p l e s m args below meth c D cA ad σ0 τ0 a1 n C hpre0 ih
set_option maxHeartbeats 4000000 in
theorem c_X8_append (l : Launch) (D : va_G) (cA : Nat → ClassId) (ad : Nat → Nat) (hI : Inj ad) (σ0 : Nat → Nat → Int32) (τ0 : Nat → Nat → Int64) (hR : Rg σ0) (a1 : Int32) (hpre0 : 0 ≤ (σ0 1 5).toInt ∧ (σ0 1 5).toInt ≤ 936) : Met l yX8_append wsX8_append ({ frames := 0, cells := 0, slots := 0, locals := 0 } : Room) (WQc D cA ad [.ref (ad 1), .int a1] σ0 τ0) (va_Qv (fun u : SS => P_X8_append σ0 τ0 a1 u.1 u.2) (WB D cA ad) (AA ad)) 0 0 (AA ad) := by
  refine Met.ofW (cc := cX8_append) (maxL := 3) (ret := none) (by decide) rfl ?_
  intro p e s m args below meth c s₁ B hml hv
  obtain ⟨rfl, hP, hK, hN⟩ := hv
  have C : Cy p s m _ meth c cX8_append 3 wsX8_append RX8 D cA ad none := ⟨B.exec, B.bytes, hml, findClass_of_methodNamed B.named, atoms_spec (ws := wsX8_append) B.pre, hK, B.notSynchronized, B.returns, hI, hN⟩
  have hl := lv_entry ([.ref (ad 1), .int a1]) (n := 3) (Nat.le_of_ble_eq_true rfl)
  rw [lg_entry_eq]
  generalize (lg_sl ([.ref (ad 1), .int a1]) ++ List.replicate (3 - (lg_sl ([.ref (ad 1), .int a1])).length) Slot.unset).toArray = ls at hl ⊢
  have hl : lv_has ls 3 [(0, .ref (ad 1)), (1, .int a1)] := hl
  have hS : va_S (AA ad) s.heap s.heap [] := va_S.rf
  have hF : Fr L_X8_append σ0 σ0 := Fr.rf
  have hFL : FrL LL_X8_append τ0 τ0 := FrL.rf
  have hA := A_X8_append p l e s m _ below meth c D cA ad σ0 τ0 a1 C hpre0 138
  have K3 := hA
  clear hA
  obtain ⟨hx, hb, _, hown, hts, _, hk, hr, _, _⟩ := C
  refine r_bipush hx hb dX8_append_0 (by decide) (fun z1 ez1 => ?_)
  refine lv_istore_n (lv' := [(2, .int z1), (0, .ref (ad 1)), (1, .int a1)]) hx hb dX8_append_2 rfl hl (by decide) rfl (fun ls hl => ?_)
  exact K3 σ0 τ0 s.heap [] z1 ls hR hF hFL hP hS (by omega) (by omega) (by first | exact (fun i hi => absurd hi (by omega)) | exact BYs hi1 ub wb us (by decide) (by omega) (by omega) (by omega) | (exfalso; omega)) (by first | exact (fun _ _ => rfl) | exact BYk hi2 ub us (by decide) (by omega) | (exfalso; omega)) (lv_sub hl [1, 2, 0] rfl) (by omega)
theorem in_X8_blame_8 : ∀ w ∈ u_ws RX8 TX8 15, w ∈ wsX8_blame := by decide +kernel
theorem lk_X8_blame_33 : Cond.fieldLink RX8 33 "CuckooShares$Tape" "fault" "I" ∈ wsX8_blame := by decide +kernel
theorem lk_X8_blame_36 : Cond.fieldLink RX8 36 "CuckooShares$Tape" "faultPlace" "I" ∈ wsX8_blame := by decide +kernel
theorem lk_X8_blame_88 : Cond.fieldLink RX8 88 "CuckooShares$Tape" "place" "I" ∈ wsX8_blame := by decide +kernel
abbrev L_X8_blame_v : List Rc := [(1, 1, 13, 14)]
abbrev LL_X8_blame_v : List Rc := []
def P_X8_blame_v (σ0 : Nat → Nat → Int32) (τ0 : Nat → Nat → Int64) (a1 : Int32) (b : Nat → Int) (N : Nat) (mo : Nat) (q : Nat) (r : Int32) (σ : Nat → Nat → Int32) (τ : Nat → Nat → Int64) : Prop := Rg σ ∧ Fr L_X8_blame_v σ0 σ ∧ FrL LL_X8_blame_v τ0 τ ∧ (0 ≤ r.toInt ∧ r.toInt ≤ 0) ∧ (r.toInt = 0) ∧ ((σ 1 13).toInt = a1.toInt) ∧ ((σ 1 14).toInt = (q : Int)) ∧ CT σ τ b N mo q
set_option maxHeartbeats 4000000 in
theorem c_X8_blame_v (l : Launch) (D : va_G) (cA : Nat → ClassId) (ad : Nat → Nat) (hI : Inj ad) (σ0 : Nat → Nat → Int32) (τ0 : Nat → Nat → Int64) (hR : Rg σ0) (a1 : Int32) (b : Nat → Int) (N : Nat) (mo : Nat) (q : Nat) (ha1 : 1 ≤ a1.toInt ∧ a1.toInt ≤ 4) (gCT0 : CT σ0 τ0 b N mo q) : Met l yX8_blame wsX8_blame ({ frames := 0, cells := 0, slots := 0, locals := 0 } : Room) (WQc D cA ad [.ref (ad 1), .int a1] σ0 τ0) (va_Qi (fun (r : Int32) (u : SS) => P_X8_blame_v σ0 τ0 a1 b N mo q r u.1 u.2) (WB D cA ad) (AA ad)) 0 0 (AA ad) := by
  refine Met.ofW (cc := cX8_blame) (maxL := 2) (ret := (some .boolean)) (by decide) rfl ?_
  intro p e s m args below meth c s₁ B hml hv
  obtain ⟨rfl, hP, hK, hN⟩ := hv
  have C : Cy p s m _ meth c cX8_blame 2 wsX8_blame RX8 D cA ad (some .boolean) := ⟨B.exec, B.bytes, hml, findClass_of_methodNamed B.named, atoms_spec (ws := wsX8_blame) B.pre, hK, B.notSynchronized, B.returns, hI, hN⟩
  have hl := lv_entry ([.ref (ad 1), .int a1]) (n := 2) (Nat.le_of_ble_eq_true rfl)
  rw [lg_entry_eq]
  generalize (lg_sl ([.ref (ad 1), .int a1]) ++ List.replicate (2 - (lg_sl ([.ref (ad 1), .int a1])).length) Slot.unset).toArray = ls at hl ⊢
  have hl : lv_has ls 2 [(0, .ref (ad 1)), (1, .int a1)] := hl
  have hS : va_S (AA ad) s.heap s.heap [] := va_S.rf
  have hF : Fr L_X8_blame_v σ0 σ0 := Fr.rf
  have hFL : FrL LL_X8_blame_v τ0 τ0 := FrL.rf
  have gCT := gCT0
  obtain ⟨hx, hb, _, hown, hts, _, hk, hr, _, _⟩ := C
  refine lv_aload_n hx hb dX8_blame_0 rfl (lv_at hl 0 rfl) ?_
  refine lv_iload_n hx hb dX8_blame_1 rfl (lv_at hl 1 rfl) ?_
  refine fp_8_13 (k := 1) hx hb hts in_X8_blame_8 hown hK hP (by decide) (by decide) (hts _ lk_X8_blame_33) hI hR hS dX8_blame_2 (fun σ1 H1 locs1 u1 v1 hR hP hS => ?_)
  have hF := hF.puts u1 0 rfl (by decide) (by decide) (by decide) (by decide)
  have gCT := gCT.ag (Agr.put u1 (by decide))
  refine lv_aload_n hx hb dX8_blame_5 rfl (lv_at hl 0 rfl) ?_
  refine lv_aload_n hx hb dX8_blame_6 rfl (lv_at hl 0 rfl) ?_
  refine fg_8_8 (k := 1) hx hb hts in_X8_blame_8 hown hK hP (by decide) (by decide) (hts _ lk_X8_blame_88) dX8_blame_7 ?_
  have hpl := gCT.pl
  refine fp_8_14 (k := 1) hx hb hts in_X8_blame_8 hown hK hP (by decide) (by decide) (hts _ lk_X8_blame_36) hI hR hS dX8_blame_10 (fun σ2 H2 locs2 u2 v2 hR hP hS => ?_)
  have hF := hF.puts u2 0 rfl (by decide) (by decide) (by decide) (by decide)
  have gCT := gCT.ag (Agr.put u2 (by decide))
  have t3 : (σ2 1 13).toInt = (σ1 1 13).toInt := congrArg Int32.toInt (u2 1 13 (by omega))
  refine r_iconst hx hb dX8_blame_13 (by decide) (fun z4 ez4 => ?_)
  exact r_zret hx hb hr hK hP hS hk (by omega) dX8_blame_14 (show P_X8_blame_v σ0 τ0 a1 b N mo q z4 σ2 τ0 from ⟨hR, hF, hFL, by omega, by omega, by omega, by omega, gCT⟩)
theorem in_X8_toldHere_8 : ∀ w ∈ u_ws RX8 TX8 15, w ∈ wsX8_toldHere := by decide +kernel
theorem lk_X8_toldHere_85 : Cond.fieldLink RX8 85 "CuckooShares$Tape" "token" "I" ∈ wsX8_toldHere := by decide +kernel
abbrev L_X8_toldHere_v : List Rc := [(1, 1, 13, 14)]
abbrev LL_X8_toldHere_v : List Rc := []
def P_X8_toldHere_v (σ0 : Nat → Nat → Int32) (τ0 : Nat → Nat → Int64) (a1 : Int32) (b : Nat → Int) (N : Nat) (mo : Nat) (q : Nat) (r : Int32) (σ : Nat → Nat → Int32) (τ : Nat → Nat → Int64) : Prop := Rg σ ∧ Fr L_X8_toldHere_v σ0 σ ∧ FrL LL_X8_toldHere_v τ0 τ ∧ (-1 ≤ r.toInt ∧ r.toInt ≤ 7) ∧ ((tkq b N mo q ≠ 47 ∧ r.toInt = -1 ∧ (σ 1 13).toInt = 1 ∧ (σ 1 14).toInt = (q : Int)) ∨ (tkq b N mo q = 47 ∧ a1.toInt = -1 ∧ r.toInt = -1 ∧ (σ 1 13).toInt = 3 ∧ (σ 1 14).toInt = (q : Int)) ∨ (tkq b N mo q = 47 ∧ a1.toInt ≠ -1 ∧ r.toInt = a1.toInt)) ∧ (r.toInt = -1 ∨ (σ 1 13).toInt = (σ0 1 13).toInt) ∧ CT σ τ b N mo q
set_option maxHeartbeats 4000000 in
theorem c_X8_toldHere_v (l : Launch) (D : va_G) (cA : Nat → ClassId) (ad : Nat → Nat) (hI : Inj ad) (σ0 : Nat → Nat → Int32) (τ0 : Nat → Nat → Int64) (hR : Rg σ0) (a1 : Int32) (b : Nat → Int) (N : Nat) (mo : Nat) (q : Nat) (ha1 : -1 ≤ a1.toInt ∧ a1.toInt ≤ 7) (gCT0 : CT σ0 τ0 b N mo q) : Met l yX8_toldHere wsX8_toldHere ({ frames := 1, cells := 0, slots := 0, locals := 21 } : Room) (WQc D cA ad [.ref (ad 1), .int a1] σ0 τ0) (va_Qi (fun (r : Int32) (u : SS) => P_X8_toldHere_v σ0 τ0 a1 b N mo q r u.1 u.2) (WB D cA ad) (AA ad)) 0 0 (AA ad) := by
  refine Met.ofW (cc := cX8_toldHere) (maxL := 2) (ret := (some .int)) (by decide) rfl ?_
  intro p e s m args below meth c s₁ B hml hv
  obtain ⟨rfl, hP, hK, hN⟩ := hv
  have C : Cy p s m _ meth c cX8_toldHere 2 wsX8_toldHere RX8 D cA ad (some .int) := ⟨B.exec, B.bytes, hml, findClass_of_methodNamed B.named, atoms_spec (ws := wsX8_toldHere) B.pre, hK, B.notSynchronized, B.returns, hI, hN⟩
  have hl := lv_entry ([.ref (ad 1), .int a1]) (n := 2) (Nat.le_of_ble_eq_true rfl)
  rw [lg_entry_eq]
  generalize (lg_sl ([.ref (ad 1), .int a1]) ++ List.replicate (2 - (lg_sl ([.ref (ad 1), .int a1])).length) Slot.unset).toArray = ls at hl ⊢
  have hl : lv_has ls 2 [(0, .ref (ad 1)), (1, .int a1)] := hl
  have hS : va_S (AA ad) s.heap s.heap [] := va_S.rf
  have hF : Fr L_X8_toldHere_v σ0 σ0 := Fr.rf
  have hFL : FrL LL_X8_toldHere_v τ0 τ0 := FrL.rf
  have gCT := gCT0
  obtain ⟨hx, hb, _, hown, hts, _, hk, hr, _, _⟩ := C
  have htk := gCT.tk
  refine lv_aload_n hx hb dX8_toldHere_0 rfl (lv_at hl 0 rfl) ?_
  refine fg_8_9 (k := 1) hx hb hts in_X8_toldHere_8 hown hK hP (by decide) (by decide) (hts _ lk_X8_toldHere_85) dX8_toldHere_1 ?_
  refine r_bipush hx hb dX8_toldHere_4 (by decide) (fun z1 ez1 => ?_)
  refine r_icmp_eq (tgt := 17) hx hb dX8_toldHere_6 (by decide) (fun c2 => ?_) (fun c2 => ?_)
  · refine lv_iload_n hx hb dX8_toldHere_17 rfl (lv_at hl 1 rfl) ?_
    refine r_iconst hx hb dX8_toldHere_18 (by decide) (fun z3 ez3 => ?_)
    refine r_icmp_ne (tgt := 28) hx hb dX8_toldHere_19 (by decide) (fun c4 => ?_) (fun c4 => ?_)
    · refine lv_iload_n hx hb dX8_toldHere_28 rfl (lv_at hl 1 rfl) ?_
      exact r_iret hx hb hr hK hP hS hk dX8_toldHere_29 (show P_X8_toldHere_v σ0 τ0 a1 b N mo q a1 σ0 τ0 from ⟨hR, hF, hFL, by omega, by omega, by omega, gCT⟩)
    · refine lv_aload_n hx hb dX8_toldHere_22 rfl (lv_at hl 0 rfl) ?_
      refine r_iconst hx hb dX8_toldHere_23 (by decide) (fun z5 ez5 => ?_)
      refine r_cVi (k := 1) (As := [.int z5]) (rest := []) ⟨hx, hb, hml, hown, hts⟩ hK hP hN hS (c_X8_blame_v l D cA ad hI σ0 τ0 hR z5 _ _ _ _ (by omega) gCT) (cwV 1 hts gX8_toldHere_X8_blame rfl rfl rfl (by decide +kernel) ⟨by decide, by decide⟩) (rv_Tape hK hP (by decide) (by decide)) rfl hl.1 rfl (Nat.le_of_ble_eq_true rfl) dX8_toldHere_24 (Nat.zero_le _) (Nat.zero_le _) (fun r6 u6 H6 locs6 hp6 hP hS => ?_)
      obtain ⟨σ6, τ6⟩ := u6
      obtain ⟨hR, f6, fL6, hq6, hp6_0, hp6_1, hp6_2, gnCT⟩ : P_X8_blame_v σ0 τ0 z5 _ _ _ _ r6 σ6 τ6 := hp6
      have hP : va_P D vwCl (gw cA ad σ6 τ6) H6 := hP
      obtain rfl := FrL.nil fL6
      have hF := hF.step f6 (by decide)
      have gCT := gCT.ag (Agr.fr f6 (by decide))
      refine lv_pop hx hb dX8_toldHere_27 rfl ?_
      refine lv_iload_n hx hb dX8_toldHere_28 rfl (lv_at hl 1 rfl) ?_
      exact r_iret hx hb hr hK hP hS hk dX8_toldHere_29 (show P_X8_toldHere_v σ0 τ0 a1 b N mo q a1 σ6 τ0 from ⟨hR, hF, hFL, by omega, by omega, by omega, gCT⟩)
  · refine lv_aload_n hx hb dX8_toldHere_9 rfl (lv_at hl 0 rfl) ?_
    refine r_iconst hx hb dX8_toldHere_10 (by decide) (fun z7 ez7 => ?_)
    refine r_cVi (k := 1) (As := [.int z7]) (rest := []) ⟨hx, hb, hml, hown, hts⟩ hK hP hN hS (c_X8_blame_v l D cA ad hI σ0 τ0 hR z7 _ _ _ _ (by omega) gCT) (cwV 1 hts gX8_toldHere_X8_blame rfl rfl rfl (by decide +kernel) ⟨by decide, by decide⟩) (rv_Tape hK hP (by decide) (by decide)) rfl hl.1 rfl (Nat.le_of_ble_eq_true rfl) dX8_toldHere_11 (Nat.zero_le _) (Nat.zero_le _) (fun r8 u8 H8 locs8 hp8 hP hS => ?_)
    obtain ⟨σ8, τ8⟩ := u8
    obtain ⟨hR, f8, fL8, hq8, hp8_0, hp8_1, hp8_2, gnCT⟩ : P_X8_blame_v σ0 τ0 z7 _ _ _ _ r8 σ8 τ8 := hp8
    have hP : va_P D vwCl (gw cA ad σ8 τ8) H8 := hP
    obtain rfl := FrL.nil fL8
    have hF := hF.step f8 (by decide)
    have gCT := gCT.ag (Agr.fr f8 (by decide))
    refine lv_pop hx hb dX8_toldHere_14 rfl ?_
    refine r_iconst hx hb dX8_toldHere_15 (by decide) (fun z9 ez9 => ?_)
    exact r_iret hx hb hr hK hP hS hk dX8_toldHere_16 (show P_X8_toldHere_v σ0 τ0 a1 b N mo q z9 σ8 τ0 from ⟨hR, hF, hFL, by omega, by omega, by omega, gCT⟩)
abbrev L_X9_numberOf : List Rc := []
abbrev LL_X9_numberOf : List Rc := []
def P_X9_numberOf (σ0 : Nat → Nat → Int32) (τ0 : Nat → Nat → Int64) (k0 : Nat) (a1 : Int64) (k2 : Nat) (a3 : Int32) (r : Int32) (σ : Nat → Nat → Int32) (τ : Nat → Nat → Int64) : Prop := Rg σ ∧ Fr L_X9_numberOf σ0 σ ∧ FrL LL_X9_numberOf τ0 τ ∧ (-1 ≤ r.toInt ∧ r.toInt ≤ 7) ∧ (r.toInt = fndq (τ0 k2) a1 a3.toInt.toNat)
def J_X9_numberOf_3 (p : Program) (l : Launch) (e : Env) (s : State) (m : MethodId) (args : Array Value) (below : List Frame) (meth : Method) (c : Code) (D : va_G) (cA : Nat → ClassId) (ad : Nat → Nat) (σ0 : Nat → Nat → Int32) (τ0 : Nat → Nat → Int64) (k0 : Nat) (a1 : Int64) (k2 : Nat) (a3 : Int32) (n : Nat) : Prop := ∀ (σ : Nat → Nat → Int32) (τ : Nat → Nat → Int64) (H : Heap) (locs : List Loc) (x5 : Int32) (ls : Array Slot), Rg σ → Fr L_X9_numberOf σ0 σ → FrL LL_X9_numberOf τ0 τ → va_P D vwCl (gw cA ad σ τ) H → va_S (AA ad) s.heap H locs → (0 ≤ x5.toInt ∧ x5.toInt ≤ 8) → (∀ i : Nat, (i : Int) < x5.toInt → τ0 k2 i ≠ a1) → lv_has ls 6 [(0, .ref (ad k0)), (1, .long a1), (3, .ref (ad k2)), (4, .int a3), (5, .int x5)] → 2 * (8 - x5.toInt) + 1 < (n : Int) → W p l e ({ frames := 0, cells := 0, slots := 0, locals := 0 } : Room) s m args below meth c H locs 0 0 (MQ below (va_Qi (fun (r : Int32) (u : SS) => P_X9_numberOf σ0 τ0 k0 a1 k2 a3 r u.1 u.2) (WB D cA ad) (AA ad)) args s 0 0 (AA ad)) (F0 m 3 ls [])
set_option maxHeartbeats 4000000 in
theorem B_X9_numberOf_3 (p : Program) (l : Launch) (e : Env) (s : State) (m : MethodId) (args : Array Value) (below : List Frame) (meth : Method) (c : Code) (D : va_G) (cA : Nat → ClassId) (ad : Nat → Nat) (σ0 : Nat → Nat → Int32) (τ0 : Nat → Nat → Int64) (k0 : Nat) (a1 : Int64) (k2 : Nat) (a3 : Int32) (n : Nat) (C : Cy p s m args meth c cX9_numberOf 6 wsX9_numberOf RX9 D cA ad (some .int)) (hk0 : 2 ≤ k0 ∧ k0 ≤ 3) (hk2 : 40 ≤ k2 ∧ k2 ≤ 45) (ha3 : 0 ≤ a3.toInt ∧ a3.toInt ≤ 8) (K3 : J_X9_numberOf_3 p l e s m args below meth c D cA ad σ0 τ0 k0 a1 k2 a3 n) : J_X9_numberOf_3 p l e s m args below meth c D cA ad σ0 τ0 k0 a1 k2 a3 (n + 1) := by
  obtain ⟨hx, hb, hml, hown, hts, hK, hk, hr, hI, hN⟩ := C
  intro σ τ H locs x5 ls hR hF hFL hP hS hc0 hi0 hl hm
  obtain rfl := Fr.nil hF
  obtain rfl := FrL.nil hFL
  refine lv_iload hx hb dX9_numberOf_3 (lv_at hl 4 rfl) ?_
  refine lv_iload hx hb dX9_numberOf_5 (lv_at hl 3 rfl) ?_
  refine r_icmp_ge (tgt := 35) hx hb dX9_numberOf_7 (by decide) (fun c1 => ?_) (fun c1 => ?_)
  · refine r_iconst hx hb dX9_numberOf_35 (by decide) (fun z2 ez2 => ?_)
    exact r_iret hx hb hr hK hP hS hk dX9_numberOf_36 (show P_X9_numberOf σ0 τ0 k0 a1 k2 a3 z2 σ0 τ0 from ⟨hR, hF, hFL, by omega, by first | (rw [fndq_at (i := 0) (lc.mp (by omega)) (fun j hj => hi0 j (by omega)) (by omega)]; omega) | (rw [fndq_no (fun i hi => hi0 i (by omega))]; omega)⟩)
  · refine lv_iload hx hb dX9_numberOf_10 (lv_at hl 4 rfl) ?_
    refine lv_aload_n hx hb dX9_numberOf_12 rfl (lv_at hl 2 rfl) ?_
    refine al_vnames (k := k2) hx hb hK hP (by omega) (by omega) dX9_numberOf_13 (fun z3 ez3 => ?_)
    refine r_icmp_ge (tgt := 35) hx hb dX9_numberOf_14 (by decide) (fun c4 => ?_) (fun c4 => ?_)
    · exfalso; omega
    · refine lv_aload_n hx hb dX9_numberOf_17 rfl (lv_at hl 2 rfl) ?_
      refine lv_iload hx hb dX9_numberOf_18 (lv_at hl 4 rfl) ?_
      obtain ⟨j5, ej5⟩ : ∃ j : Nat, x5.toInt = (j : Int) := ⟨_, ti_nat (by omega)⟩
      refine adL_vnames (k := k2) (j := j5) hx hb hK hP (by omega) (by omega) ej5 (by omega) dX9_numberOf_20 ?_
      refine lv_lload_n hx hb dX9_numberOf_21 rfl (lv_at hl 1 rfl) ?_
      refine r_lcmpE hx hb dX9_numberOf_22 (fun z6 ez6 => ?_)
      have lc := ez6
      refine r_if_ne (tgt := 29) hx hb dX9_numberOf_23 (by decide) (fun c7 => ?_) (fun c7 => ?_)
      · refine r_iinc (k := 4) (lv1 := fun z8 => [(5, .int z8), (0, .ref (ad k0)), (1, .long a1), (3, .ref (ad k2)), (4, .int a3)]) hx hb dX9_numberOf_29 hl rfl (by decide) (fun _ => rfl) (by decide) (by omega) (fun z8 ls ez8 hl => ?_)
        refine lv_goto (tgt := 3) hx hb dX9_numberOf_32 (by decide) ?_
        exact K3 σ0 τ0 H locs z8 ls hR hF hFL hP hS (by omega) (by first | exact (fun i hi => absurd hi (by omega)) | exact allS hi0 (fun g => absurd (lc.mpr (by rw [show j5 = x5.toInt.toNat by omega]; exact g)) (by omega)) (by omega) (by omega)) (lv_sub hl [1, 2, 3, 4, 0] rfl) (by omega)
      · refine lv_iload hx hb dX9_numberOf_26 (lv_at hl 4 rfl) ?_
        exact r_iret hx hb hr hK hP hS hk dX9_numberOf_28 (show P_X9_numberOf σ0 τ0 k0 a1 k2 a3 x5 σ0 τ0 from ⟨hR, hF, hFL, by omega, by first | (rw [fndq_at (i := j5) (lc.mp (by omega)) (fun j hj => hi0 j (by omega)) (by omega)]; omega) | (rw [fndq_no (fun i hi => hi0 i (by omega))]; omega)⟩)
theorem A_X9_numberOf (p : Program) (l : Launch) (e : Env) (s : State) (m : MethodId) (args : Array Value) (below : List Frame) (meth : Method) (c : Code) (D : va_G) (cA : Nat → ClassId) (ad : Nat → Nat) (σ0 : Nat → Nat → Int32) (τ0 : Nat → Nat → Int64) (k0 : Nat) (a1 : Int64) (k2 : Nat) (a3 : Int32) (C : Cy p s m args meth c cX9_numberOf 6 wsX9_numberOf RX9 D cA ad (some .int)) (hk0 : 2 ≤ k0 ∧ k0 ≤ 3) (hk2 : 40 ≤ k2 ∧ k2 ≤ 45) (ha3 : 0 ≤ a3.toInt ∧ a3.toInt ≤ 8) : ∀ n : Nat, J_X9_numberOf_3 p l e s m args below meth c D cA ad σ0 τ0 k0 a1 k2 a3 n := by
  intro n
  induction n with
  | zero =>
    exact (by intro σ τ H locs x5 ls hR hF hFL hP hS hc0 hi0 hl hm; exfalso; omega)
  | succ n ih =>
    exact B_X9_numberOf_3 p l e s m args below meth c D cA ad σ0 τ0 k0 a1 k2 a3 n C hk0 hk2 ha3 ih
set_option maxHeartbeats 4000000 in
theorem c_X9_numberOf (l : Launch) (D : va_G) (cA : Nat → ClassId) (ad : Nat → Nat) (hI : Inj ad) (σ0 : Nat → Nat → Int32) (τ0 : Nat → Nat → Int64) (hR : Rg σ0) (k0 : Nat) (a1 : Int64) (k2 : Nat) (a3 : Int32) (hk0 : 2 ≤ k0 ∧ k0 ≤ 3) (hk2 : 40 ≤ k2 ∧ k2 ≤ 45) (ha3 : 0 ≤ a3.toInt ∧ a3.toInt ≤ 8) : Met l yX9_numberOf wsX9_numberOf ({ frames := 0, cells := 0, slots := 0, locals := 0 } : Room) (WQc D cA ad [.ref (ad k0), .long a1, .ref (ad k2), .int a3] σ0 τ0) (va_Qi (fun (r : Int32) (u : SS) => P_X9_numberOf σ0 τ0 k0 a1 k2 a3 r u.1 u.2) (WB D cA ad) (AA ad)) 0 0 (AA ad) := by
  refine Met.ofW (cc := cX9_numberOf) (maxL := 6) (ret := (some .int)) (by decide) rfl ?_
  intro p e s m args below meth c s₁ B hml hv
  obtain ⟨rfl, hP, hK, hN⟩ := hv
  have C : Cy p s m _ meth c cX9_numberOf 6 wsX9_numberOf RX9 D cA ad (some .int) := ⟨B.exec, B.bytes, hml, findClass_of_methodNamed B.named, atoms_spec (ws := wsX9_numberOf) B.pre, hK, B.notSynchronized, B.returns, hI, hN⟩
  have hl := lv_entry ([.ref (ad k0), .long a1, .ref (ad k2), .int a3]) (n := 6) (Nat.le_of_ble_eq_true rfl)
  rw [lg_entry_eq]
  generalize (lg_sl ([.ref (ad k0), .long a1, .ref (ad k2), .int a3]) ++ List.replicate (6 - (lg_sl ([.ref (ad k0), .long a1, .ref (ad k2), .int a3])).length) Slot.unset).toArray = ls at hl ⊢
  have hl : lv_has ls 6 [(0, .ref (ad k0)), (1, .long a1), (3, .ref (ad k2)), (4, .int a3)] := hl
  have hS : va_S (AA ad) s.heap s.heap [] := va_S.rf
  have hF : Fr L_X9_numberOf σ0 σ0 := Fr.rf
  have hFL : FrL LL_X9_numberOf τ0 τ0 := FrL.rf
  have hA := A_X9_numberOf p l e s m _ below meth c D cA ad σ0 τ0 k0 a1 k2 a3 C hk0 hk2 ha3 42
  have K3 := hA
  clear hA
  obtain ⟨hx, hb, _, hown, hts, _, hk, hr, _, _⟩ := C
  refine r_iconst hx hb dX9_numberOf_0 (by decide) (fun z1 ez1 => ?_)
  refine lv_istore (lv' := [(5, .int z1), (0, .ref (ad k0)), (1, .long a1), (3, .ref (ad k2)), (4, .int a3)]) hx hb dX9_numberOf_1 hl (by decide) rfl (fun ls hl => ?_)
  exact K3 σ0 τ0 s.heap [] z1 ls hR hF hFL hP hS (by omega) (by first | exact (fun i hi => absurd hi (by omega)) | exact allS hi0 (fun g => absurd (lc.mpr (by rw [show 0 = x5.toInt.toNat by omega]; exact g)) (by omega)) (by omega) (by omega)) (lv_sub hl [1, 2, 3, 4, 0] rfl) (by omega)
theorem in_X8_manHere_8 : ∀ w ∈ u_ws RX8 TX8 15, w ∈ wsX8_manHere := by decide +kernel
theorem in_X8_manHere_9 : ∀ w ∈ u_ws RX9 TX9 14, w ∈ wsX8_manHere := by decide +kernel
theorem lk_X8_manHere_94 : Cond.fieldLink RX8 94 "CuckooShares$Tape" "name" "J" ∈ wsX8_manHere := by decide +kernel
abbrev L_X8_manHere_v : List Rc := [(1, 1, 13, 14)]
abbrev LL_X8_manHere_v : List Rc := []
def P_X8_manHere_v (σ0 : Nat → Nat → Int32) (τ0 : Nat → Nat → Int64) (b : Nat → Int) (N : Nat) (mo : Nat) (q : Nat) (h : Nat → Int) (nm : Nat → Int) (r : Int32) (σ : Nat → Nat → Int32) (τ : Nat → Nat → Int64) : Prop := Rg σ ∧ Fr L_X8_manHere_v σ0 σ ∧ FrL LL_X8_manHere_v τ0 τ ∧ (-1 ≤ r.toInt ∧ r.toInt ≤ 7) ∧ (RH r σ (lokP b N mo (n8 nm) (h 1).toNat q) True) ∧ (r.toInt = -1 ∨ (σ 1 13).toInt = (σ0 1 13).toInt) ∧ CT σ τ b N mo q ∧ CN τ b h nm ∧ CS σ h
set_option maxHeartbeats 4000000 in
theorem c_X8_manHere_v (l : Launch) (D : va_G) (cA : Nat → ClassId) (ad : Nat → Nat) (hI : Inj ad) (σ0 : Nat → Nat → Int32) (τ0 : Nat → Nat → Int64) (hR : Rg σ0) (b : Nat → Int) (N : Nat) (mo : Nat) (q : Nat) (h : Nat → Int) (nm : Nat → Int) (gCT0 : CT σ0 τ0 b N mo q) (gCN0 : CN τ0 b h nm) (gCS0 : CS σ0 h) : Met l yX8_manHere wsX8_manHere ({ frames := 2, cells := 0, slots := 0, locals := 42 } : Room) (WQc D cA ad [.ref (ad 1), .ref (ad 3)] σ0 τ0) (va_Qi (fun (r : Int32) (u : SS) => P_X8_manHere_v σ0 τ0 b N mo q h nm r u.1 u.2) (WB D cA ad) (AA ad)) 0 0 (AA ad) := by
  refine Met.ofW (cc := cX8_manHere) (maxL := 2) (ret := (some .int)) (by decide) rfl ?_
  intro p e s m args below meth c s₁ B hml hv
  obtain ⟨rfl, hP, hK, hN⟩ := hv
  have C : Cy p s m _ meth c cX8_manHere 2 wsX8_manHere RX8 D cA ad (some .int) := ⟨B.exec, B.bytes, hml, findClass_of_methodNamed B.named, atoms_spec (ws := wsX8_manHere) B.pre, hK, B.notSynchronized, B.returns, hI, hN⟩
  have hl := lv_entry ([.ref (ad 1), .ref (ad 3)]) (n := 2) (Nat.le_of_ble_eq_true rfl)
  rw [lg_entry_eq]
  generalize (lg_sl ([.ref (ad 1), .ref (ad 3)]) ++ List.replicate (2 - (lg_sl ([.ref (ad 1), .ref (ad 3)])).length) Slot.unset).toArray = ls at hl ⊢
  have hl : lv_has ls 2 [(0, .ref (ad 1)), (1, .ref (ad 3))] := hl
  have hS : va_S (AA ad) s.heap s.heap [] := va_S.rf
  have hF : Fr L_X8_manHere_v σ0 σ0 := Fr.rf
  have hFL : FrL LL_X8_manHere_v τ0 τ0 := FrL.rf
  have gCT := gCT0
  have gCN := gCN0
  have gCS := gCS0
  obtain ⟨hx, hb, _, hown, hts, _, hk, hr, _, _⟩ := C
  have hcs := gCS
  have hr8 := rg_9_5 hR (k := 3) (by decide) (by decide)
  refine lv_aload_n hx hb dX8_manHere_0 rfl (lv_at hl 0 rfl) ?_
  refine lv_aload_n hx hb dX8_manHere_1 rfl (lv_at hl 1 rfl) ?_
  refine lv_aload_n hx hb dX8_manHere_2 rfl (lv_at hl 0 rfl) ?_
  refine fg_8_11 (k := 1) hx hb hts in_X8_manHere_8 hown hK hP (by decide) (by decide) (hts _ lk_X8_manHere_94) dX8_manHere_3 ?_
  refine lv_aload_n hx hb dX8_manHere_6 rfl (lv_at hl 1 rfl) ?_
  refine fgN_9_8 (k := 3) hx hb hts in_X8_manHere_9 hown hK hP (by decide) (by decide) (hN.use nw_8_143) dX8_manHere_7 ?_
  refine lv_aload_n hx hb dX8_manHere_10 rfl (lv_at hl 1 rfl) ?_
  refine fgN_9_5 (k := 3) hx hb hts in_X8_manHere_9 hown hK hP (by decide) (by decide) (hN.use nw_8_146) dX8_manHere_11 ?_
  have hr1 := rg_9_5 hR (k := 3) (by decide) (by decide)
  refine r_cVi (k := 3) (As := [.long (τ0 1 11), .ref (ad 45), .int (σ0 3 5)]) (rest := [.ref (ad 1)]) ⟨hx, hb, hml, hown, hts⟩ hK hP hN hS (c_X9_numberOf l D cA ad hI σ0 τ0 hR 3 (τ0 1 11) 45 (σ0 3 5) ⟨by omega, by omega⟩ ⟨by omega, by omega⟩ (by omega)) (cwV 3 hts gX8_manHere_X9_numberOf rfl rfl rfl (by decide +kernel) ⟨by decide, by decide⟩) (rv_Valley hK hP (by decide) (by decide)) rfl hl.1 rfl (Nat.le_of_ble_eq_true rfl) dX8_manHere_14 (Nat.zero_le _) (Nat.zero_le _) (fun r2 u2 H2 locs2 hp2 hP hS => ?_)
  obtain ⟨σ2, τ2⟩ := u2
  obtain ⟨hR, f2, fL2, hq2, hp2_0⟩ : P_X9_numberOf σ0 τ0 3 (τ0 1 11) 45 (σ0 3 5) r2 σ2 τ2 := hp2
  have hP : va_P D vwCl (gw cA ad σ2 τ2) H2 := hP
  obtain rfl := FrL.nil fL2
  obtain rfl := Fr.nil f2
  rw [gCS.2.1] at hp2_0
  refine r_cVi (k := 1) (As := [.int r2]) (rest := []) ⟨hx, hb, hml, hown, hts⟩ hK hP hN hS (c_X8_toldHere_v l D cA ad hI σ0 τ0 hR r2 _ _ _ _ (by omega) gCT) (cwV 1 hts gX8_manHere_X8_toldHere rfl rfl rfl (by decide +kernel) ⟨by decide, by decide⟩) (rv_Tape hK hP (by decide) (by decide)) rfl hl.1 rfl (Nat.le_of_ble_eq_true rfl) dX8_manHere_17 (Nat.zero_le _) (Nat.zero_le _) (fun r3 u3 H3 locs3 hp3 hP hS => ?_)
  obtain ⟨σ3, τ3⟩ := u3
  obtain ⟨hR, f3, fL3, hq3, hp3_0, hp3_1, gnCT⟩ : P_X8_toldHere_v σ0 τ0 r2 _ _ _ _ r3 σ3 τ3 := hp3
  have ot := hp3_0
  have hP : va_P D vwCl (gw cA ad σ3 τ3) H3 := hP
  obtain rfl := FrL.nil fL3
  have hF := hF.step f3 (by decide)
  have gCS := gCS.ag (Agr.fr f3 (by decide))
  have gCT := gCT.ag (Agr.fr f3 (by decide))
  have hc := gCS.2.1
  have hrg := fndq_rg (n8 nm) (wdq b N q) (h 1).toNat
  have hr9 := rg_9_5 hR (k := 3) (by decide) (by decide)
  exact r_iret hx hb hr hK hP hS hk dX8_manHere_20 (show P_X8_manHere_v σ0 τ0 b N mo q h nm r3 σ3 τ0 from ⟨hR, hF, hFL, by omega, by rcases ot with ot | ot | ot <;> first | exact RH.ofk (by unfold lokP; rw [if_pos (by omega)]) (by omega) (by omega) (by omega) | (have hf := CN.f1 gCN (by omega) (gCT.nr (by omega)); exact RH.ofk (by unfold lokP; rw [if_neg (by omega), if_pos (by omega)]) (by omega) (by omega) (by omega)) | (have hf := CN.f1 gCN (by omega) (gCT.nr (by omega)); exact RH.ofr (by unfold lokP; rw [if_neg (by omega), if_neg (by omega)]) (by omega) (by omega) trivial), by omega, gCT, gCN, gCS⟩)
theorem in_X8_next_8 : ∀ w ∈ u_ws RX8 TX8 15, w ∈ wsX8_next := by decide +kernel
theorem lk_X8_next_15 : Cond.fieldLink RX8 15 "CuckooShares$Tape" "tokens" "[I" ∈ wsX8_next := by decide +kernel
theorem lk_X8_next_19 : Cond.fieldLink RX8 19 "CuckooShares$Tape" "places" "[I" ∈ wsX8_next := by decide +kernel
theorem lk_X8_next_22 : Cond.fieldLink RX8 22 "CuckooShares$Tape" "numbers" "[I" ∈ wsX8_next := by decide +kernel
theorem lk_X8_next_25 : Cond.fieldLink RX8 25 "CuckooShares$Tape" "names" "[J" ∈ wsX8_next := by decide +kernel
theorem lk_X8_next_39 : Cond.fieldLink RX8 39 "CuckooShares$Tape" "tokensRead" "I" ∈ wsX8_next := by decide +kernel
theorem lk_X8_next_69 : Cond.fieldLink RX8 69 "CuckooShares$Tape" "tokensTaken" "I" ∈ wsX8_next := by decide +kernel
theorem lk_X8_next_85 : Cond.fieldLink RX8 85 "CuckooShares$Tape" "token" "I" ∈ wsX8_next := by decide +kernel
theorem lk_X8_next_88 : Cond.fieldLink RX8 88 "CuckooShares$Tape" "place" "I" ∈ wsX8_next := by decide +kernel
theorem lk_X8_next_91 : Cond.fieldLink RX8 91 "CuckooShares$Tape" "number" "I" ∈ wsX8_next := by decide +kernel
theorem lk_X8_next_94 : Cond.fieldLink RX8 94 "CuckooShares$Tape" "name" "J" ∈ wsX8_next := by decide +kernel
abbrev L_X8_next_v : List Rc := [(1, 1, 7, 10)]
abbrev LL_X8_next_v : List Rc := [(1, 1, 11, 11)]
def P_X8_next_v (σ0 : Nat → Nat → Int32) (τ0 : Nat → Nat → Int64) (b : Nat → Int) (N : Nat) (mo : Nat) (q : Nat) (σ : Nat → Nat → Int32) (τ : Nat → Nat → Int64) : Prop := Rg σ ∧ Fr L_X8_next_v σ0 σ ∧ FrL LL_X8_next_v τ0 τ ∧ (CT σ τ b N mo (nxq b N mo q))
set_option maxHeartbeats 4000000 in
theorem c_X8_next_v (l : Launch) (D : va_G) (cA : Nat → ClassId) (ad : Nat → Nat) (hI : Inj ad) (σ0 : Nat → Nat → Int32) (τ0 : Nat → Nat → Int64) (hR : Rg σ0) (b : Nat → Int) (N : Nat) (mo : Nat) (q : Nat) (gCT0 : CT σ0 τ0 b N mo q) : Met l yX8_next wsX8_next ({ frames := 0, cells := 0, slots := 0, locals := 0 } : Room) (WQc D cA ad [.ref (ad 1)] σ0 τ0) (va_Qv (fun u : SS => P_X8_next_v σ0 τ0 b N mo q u.1 u.2) (WB D cA ad) (AA ad)) 0 0 (AA ad) := by
  refine Met.ofW (cc := cX8_next) (maxL := 1) (ret := none) (by decide) rfl ?_
  intro p e s m args below meth c s₁ B hml hv
  obtain ⟨rfl, hP, hK, hN⟩ := hv
  have C : Cy p s m _ meth c cX8_next 1 wsX8_next RX8 D cA ad none := ⟨B.exec, B.bytes, hml, findClass_of_methodNamed B.named, atoms_spec (ws := wsX8_next) B.pre, hK, B.notSynchronized, B.returns, hI, hN⟩
  have hl := lv_entry ([.ref (ad 1)]) (n := 1) (Nat.le_of_ble_eq_true rfl)
  rw [lg_entry_eq]
  generalize (lg_sl ([.ref (ad 1)]) ++ List.replicate (1 - (lg_sl ([.ref (ad 1)])).length) Slot.unset).toArray = ls at hl ⊢
  have hl : lv_has ls 1 [(0, .ref (ad 1))] := hl
  have hS : va_S (AA ad) s.heap s.heap [] := va_S.rf
  have hF : Fr L_X8_next_v σ0 σ0 := Fr.rf
  have hFL : FrL LL_X8_next_v τ0 τ0 := FrL.rf
  have gCT := gCT0
  obtain ⟨hx, hb, _, hown, hts, _, hk, hr, _, _⟩ := C
  refine lv_aload_n hx hb dX8_next_0 rfl (lv_at hl 0 rfl) ?_
  refine fg_8_7 (k := 1) hx hb hts in_X8_next_8 hown hK hP (by decide) (by decide) (hts _ lk_X8_next_69) dX8_next_1 ?_
  have hr1 := rg_8_7 hR (k := 1) (by decide) (by decide)
  refine lv_aload_n hx hb dX8_next_4 rfl (lv_at hl 0 rfl) ?_
  refine fg_8_6 (k := 1) hx hb hts in_X8_next_8 hown hK hP (by decide) (by decide) (hts _ lk_X8_next_39) dX8_next_5 ?_
  have hr2 := rg_8_6 hR (k := 1) (by decide) (by decide)
  refine r_icmp_ge (tgt := 85) hx hb dX8_next_8 (by decide) (fun c3 => ?_) (fun c3 => ?_)
  · exact r_vret hx hb hr hK hP hS hk dX8_next_85 (show P_X8_next_v σ0 τ0 b N mo q σ0 τ0 from ⟨hR, hF, hFL, by first | exact CT.nxt gCT0 u1 v1 u2 v2 u3 v3 uL vL u5 (by omega) (by omega) (by omega) (by omega) | exact CT.stay gCT0 (by omega)⟩)
  · refine lv_aload_n hx hb dX8_next_11 rfl (lv_at hl 0 rfl) ?_
    refine fg_8_7 (k := 1) hx hb hts in_X8_next_8 hown hK hP (by decide) (by decide) (hts _ lk_X8_next_69) dX8_next_12 ?_
    refine lv_aload_n hx hb dX8_next_15 rfl (lv_at hl 0 rfl) ?_
    refine fg_8_1 (k := 1) hx hb hts in_X8_next_8 hown hK hP (by decide) (by decide) (hts _ lk_X8_next_15) dX8_next_16 ?_
    refine al_tokens (k := 36) hx hb hK hP (by decide) (by decide) dX8_next_19 (fun z4 ez4 => ?_)
    refine r_icmp_ge (tgt := 85) hx hb dX8_next_20 (by decide) (fun c5 => ?_) (fun c5 => ?_)
    · exfalso; omega
    · refine lv_aload_n hx hb dX8_next_23 rfl (lv_at hl 0 rfl) ?_
      refine lv_aload_n hx hb dX8_next_24 rfl (lv_at hl 0 rfl) ?_
      refine fg_8_1 (k := 1) hx hb hts in_X8_next_8 hown hK hP (by decide) (by decide) (hts _ lk_X8_next_15) dX8_next_25 ?_
      refine lv_aload_n hx hb dX8_next_28 rfl (lv_at hl 0 rfl) ?_
      refine fg_8_7 (k := 1) hx hb hts in_X8_next_8 hown hK hP (by decide) (by decide) (hts _ lk_X8_next_69) dX8_next_29 ?_
      obtain ⟨j6, ej6⟩ : ∃ j : Nat, (σ0 1 7).toInt = (j : Int) := ⟨_, ti_nat (by omega)⟩
      refine ad_tokens (k := 36) (j := j6) hx hb hK hP (by decide) (by decide) ej6 (by omega) dX8_next_32 ?_
      refine fp_8_9 (k := 1) hx hb hts in_X8_next_8 hown hK hP (by decide) (by decide) (hts _ lk_X8_next_85) hI hR hS dX8_next_33 (fun σ7 H7 locs7 u7 v7 hR hP hS => ?_)
      have u1 := u7
      have v1 := v7
      have hF := hF.puts u7 0 rfl (by decide) (by decide) (by decide) (by decide)
      have t8 : (σ7 1 7).toInt = (σ0 1 7).toInt := congrArg Int32.toInt (u7 1 7 (by omega))
      have t9 : (σ7 1 6).toInt = (σ0 1 6).toInt := congrArg Int32.toInt (u7 1 6 (by omega))
      refine lv_aload_n hx hb dX8_next_36 rfl (lv_at hl 0 rfl) ?_
      refine lv_aload_n hx hb dX8_next_37 rfl (lv_at hl 0 rfl) ?_
      refine fg_8_2 (k := 1) hx hb hts in_X8_next_8 hown hK hP (by decide) (by decide) (hts _ lk_X8_next_19) dX8_next_38 ?_
      refine lv_aload_n hx hb dX8_next_41 rfl (lv_at hl 0 rfl) ?_
      refine fg_8_7 (k := 1) hx hb hts in_X8_next_8 hown hK hP (by decide) (by decide) (hts _ lk_X8_next_69) dX8_next_42 ?_
      refine ad_tokens (k := 37) (j := j6) hx hb hK hP (by decide) (by decide) (by omega) (by omega) dX8_next_45 ?_
      refine fp_8_8 (k := 1) hx hb hts in_X8_next_8 hown hK hP (by decide) (by decide) (hts _ lk_X8_next_88) hI hR hS dX8_next_46 (fun σ10 H10 locs10 u10 v10 hR hP hS => ?_)
      have u2 := u10
      have v2 := v10
      have hF := hF.puts u10 0 rfl (by decide) (by decide) (by decide) (by decide)
      have t11 : (σ10 1 7).toInt = (σ7 1 7).toInt := congrArg Int32.toInt (u10 1 7 (by omega))
      have t12 : (σ10 1 6).toInt = (σ7 1 6).toInt := congrArg Int32.toInt (u10 1 6 (by omega))
      refine lv_aload_n hx hb dX8_next_49 rfl (lv_at hl 0 rfl) ?_
      refine lv_aload_n hx hb dX8_next_50 rfl (lv_at hl 0 rfl) ?_
      refine fg_8_3 (k := 1) hx hb hts in_X8_next_8 hown hK hP (by decide) (by decide) (hts _ lk_X8_next_22) dX8_next_51 ?_
      refine lv_aload_n hx hb dX8_next_54 rfl (lv_at hl 0 rfl) ?_
      refine fg_8_7 (k := 1) hx hb hts in_X8_next_8 hown hK hP (by decide) (by decide) (hts _ lk_X8_next_69) dX8_next_55 ?_
      refine ad_tokens (k := 38) (j := j6) hx hb hK hP (by decide) (by decide) (by omega) (by omega) dX8_next_58 ?_
      refine fp_8_10 (k := 1) hx hb hts in_X8_next_8 hown hK hP (by decide) (by decide) (hts _ lk_X8_next_91) hI hR hS dX8_next_59 (fun σ13 H13 locs13 u13 v13 hR hP hS => ?_)
      have u3 := u13
      have v3 := v13
      have hF := hF.puts u13 0 rfl (by decide) (by decide) (by decide) (by decide)
      have t14 : (σ13 1 7).toInt = (σ10 1 7).toInt := congrArg Int32.toInt (u13 1 7 (by omega))
      have t15 : (σ13 1 6).toInt = (σ10 1 6).toInt := congrArg Int32.toInt (u13 1 6 (by omega))
      refine lv_aload_n hx hb dX8_next_62 rfl (lv_at hl 0 rfl) ?_
      refine lv_aload_n hx hb dX8_next_63 rfl (lv_at hl 0 rfl) ?_
      refine fg_8_4 (k := 1) hx hb hts in_X8_next_8 hown hK hP (by decide) (by decide) (hts _ lk_X8_next_25) dX8_next_64 ?_
      refine lv_aload_n hx hb dX8_next_67 rfl (lv_at hl 0 rfl) ?_
      refine fg_8_7 (k := 1) hx hb hts in_X8_next_8 hown hK hP (by decide) (by decide) (hts _ lk_X8_next_69) dX8_next_68 ?_
      refine adL_names (k := 39) (j := j6) hx hb hK hP (by decide) (by decide) (by omega) (by omega) dX8_next_71 ?_
      refine fpL_8_11 (k := 1) hx hb hts in_X8_next_8 hown hK hP (by decide) (by decide) (hts _ lk_X8_next_94) hI hS dX8_next_72 (fun τ16 H16 locs16 uL16 vL16 hP hS => ?_)
      have uL := uL16
      have vL := vL16
      have hFL := hFL.puts uL16 0 rfl (by decide) (by decide) (by decide) (by decide)
      refine lv_aload_n hx hb dX8_next_75 rfl (lv_at hl 0 rfl) ?_
      refine lv_dup hx hb dX8_next_76 rfl ?_
      refine fg_8_7 (k := 1) hx hb hts in_X8_next_8 hown hK hP (by decide) (by decide) (hts _ lk_X8_next_69) dX8_next_77 ?_
      refine r_iconst hx hb dX8_next_80 (by decide) (fun z17 ez17 => ?_)
      refine r_iadd hx hb dX8_next_81 (by omega) (fun z18 ez18 => ?_)
      refine fp_8_7 (k := 1) hx hb hts in_X8_next_8 hown hK hP (by decide) (by decide) (hts _ lk_X8_next_69) hI hR hS (by omega) dX8_next_82 (fun σ19 H19 locs19 u19 v19 hR hP hS => ?_)
      have u5 := u19
      have v5 := v19
      have hF := hF.puts u19 0 rfl (by decide) (by decide) (by decide) (by decide)
      have t20 : (σ19 1 6).toInt = (σ13 1 6).toInt := congrArg Int32.toInt (u19 1 6 (by omega))
      exact r_vret hx hb hr hK hP hS hk dX8_next_85 (show P_X8_next_v σ0 τ0 b N mo q σ19 τ16 from ⟨hR, hF, hFL, by first | exact CT.nxt gCT0 u1 v1 u2 v2 u3 v3 uL vL u5 (by omega) (by omega) (by omega) (by omega) | exact CT.stay gCT0 (by omega)⟩)
theorem in_X10_takeManOnce_10 : ∀ w ∈ u_ws RX10 TX10 5, w ∈ wsX10_takeManOnce := by decide +kernel
theorem in_X10_takeManOnce_9 : ∀ w ∈ u_ws RX9 TX9 14, w ∈ wsX10_takeManOnce := by decide +kernel
theorem lk_X10_takeManOnce_15 : Cond.fieldLink RX10 15 "CuckooShares$ValleyText" "into" "LCuckooShares$Valley;" ∈ wsX10_takeManOnce := by decide +kernel
theorem lk_X10_takeManOnce_9 : Cond.fieldLink RX10 9 "CuckooShares$ValleyText" "tape" "LCuckooShares$Tape;" ∈ wsX10_takeManOnce := by decide +kernel
abbrev L_X10_takeManOnce : List Rc := [(1, 1, 7, 10), (1, 1, 13, 14)]
abbrev LL_X10_takeManOnce : List Rc := [(1, 1, 11, 11)]
def P_X10_takeManOnce (σ0 : Nat → Nat → Int32) (τ0 : Nat → Nat → Int64) (a1 : Int32) (a2 : Int32) (b : Nat → Int) (N : Nat) (mo : Nat) (q : Nat) (h : Nat → Int) (nm : Nat → Int) (oo : Nat) (r : Int32) (σ : Nat → Nat → Int32) (τ : Nat → Nat → Int64) : Prop := Rg σ ∧ Fr L_X10_takeManOnce σ0 σ ∧ FrL LL_X10_takeManOnce τ0 τ ∧ (-1 ≤ r.toInt ∧ r.toInt ≤ 7) ∧ (RH r σ (mnoP b N mo oo h nm q) (CT σ τ b N mo (nxq b N mo (nxq b N mo q)))) ∧ (r.toInt = -1 ∨ (σ 1 13).toInt = (σ0 1 13).toInt) ∧ CN τ b h nm ∧ CS σ h ∧ CM σ h ∧ CF σ h
set_option maxHeartbeats 4000000 in
theorem c_X10_takeManOnce (l : Launch) (D : va_G) (cA : Nat → ClassId) (ad : Nat → Nat) (hI : Inj ad) (σ0 : Nat → Nat → Int32) (τ0 : Nat → Nat → Int64) (hR : Rg σ0) (a1 : Int32) (a2 : Int32) (b : Nat → Int) (N : Nat) (mo : Nat) (q : Nat) (h : Nat → Int) (nm : Nat → Int) (oo : Nat) (ha1 : 3 ≤ a1.toInt ∧ a1.toInt ≤ 5) (ha2 : -1 ≤ a2.toInt ∧ a2.toInt ≤ 0) (hpre0 : (a1.toInt = 3 ∧ a2.toInt = 0 ∧ oo = 55) ∨ (a1.toInt = 4 ∧ a2.toInt = -1 ∧ oo = 63) ∨ (a1.toInt = 5 ∧ a2.toInt = -1 ∧ oo = 71)) (gCT0 : CT σ0 τ0 b N mo q) (gCN0 : CN τ0 b h nm) (gCS0 : CS σ0 h) (gCM0 : CM σ0 h) (gCF0 : CF σ0 h) : Met l yX10_takeManOnce wsX10_takeManOnce ({ frames := 3, cells := 0, slots := 0, locals := 63 } : Room) (WQc D cA ad [.ref (ad 6), .int a1, .int a2] σ0 τ0) (va_Qi (fun (r : Int32) (u : SS) => P_X10_takeManOnce σ0 τ0 a1 a2 b N mo q h nm oo r u.1 u.2) (WB D cA ad) (AA ad)) 0 0 (AA ad) := by
  refine Met.ofW (cc := cX10_takeManOnce) (maxL := 4) (ret := (some .int)) (by decide) rfl ?_
  intro p e s m args below meth c s₁ B hml hv
  obtain ⟨rfl, hP, hK, hN⟩ := hv
  have C : Cy p s m _ meth c cX10_takeManOnce 4 wsX10_takeManOnce RX10 D cA ad (some .int) := ⟨B.exec, B.bytes, hml, findClass_of_methodNamed B.named, atoms_spec (ws := wsX10_takeManOnce) B.pre, hK, B.notSynchronized, B.returns, hI, hN⟩
  have hl := lv_entry ([.ref (ad 6), .int a1, .int a2]) (n := 4) (Nat.le_of_ble_eq_true rfl)
  rw [lg_entry_eq]
  generalize (lg_sl ([.ref (ad 6), .int a1, .int a2]) ++ List.replicate (4 - (lg_sl ([.ref (ad 6), .int a1, .int a2])).length) Slot.unset).toArray = ls at hl ⊢
  have hl : lv_has ls 4 [(0, .ref (ad 6)), (1, .int a1), (2, .int a2)] := hl
  have hS : va_S (AA ad) s.heap s.heap [] := va_S.rf
  have hF : Fr L_X10_takeManOnce σ0 σ0 := Fr.rf
  have hFL : FrL LL_X10_takeManOnce τ0 τ0 := FrL.rf
  have gCT := gCT0
  have gCN := gCN0
  have gCS := gCS0
  have gCM := gCM0
  have gCF := gCF0
  obtain ⟨hx, hb, _, hown, hts, _, hk, hr, _, _⟩ := C
  refine lv_aload_n hx hb dX10_takeManOnce_0 rfl (lv_at hl 0 rfl) ?_
  refine fg_10_0 (k := 6) hx hb hts in_X10_takeManOnce_10 hown hK hP (by decide) (by decide) (hts _ lk_X10_takeManOnce_9) dX10_takeManOnce_1 ?_
  refine r_cVv (k := 1) (As := []) (rest := []) ⟨hx, hb, hml, hown, hts⟩ hK hP hN hS (c_X8_next_v l D cA ad hI σ0 τ0 hR _ _ _ _ gCT) (cwV 0 hts gX10_takeManOnce_X8_next rfl rfl rfl (by decide +kernel) ⟨by decide, by decide⟩) (rv_Tape hK hP (by decide) (by decide)) rfl hl.1 rfl (Nat.le_of_ble_eq_true rfl) dX10_takeManOnce_4 (Nat.zero_le _) (Nat.zero_le _) (fun u1 H1 locs1 hp1 hP hS => ?_)
  obtain ⟨σ1, τ1⟩ := u1
  obtain ⟨hR, f1, fL1, hp1_0⟩ : P_X8_next_v σ0 τ0 _ _ _ _ σ1 τ1 := hp1
  have hP : va_P D vwCl (gw cA ad σ1 τ1) H1 := hP
  have hFL := hFL.step fL1 (by decide)
  have gCN := gCN.agL (AgrL.fr fL1 (by decide))
  have hF := hF.step f1 (by decide)
  have gCF := gCF.ag (Agr.fr f1 (by decide))
  have gCM := gCM.ag (Agr.fr f1 (by decide))
  have gCS := gCS.ag (Agr.fr f1 (by decide))
  have t2 : (σ1 1 13).toInt = (σ0 1 13).toInt := congrArg Int32.toInt (f1.at 1 13 (by decide))
  have gCT := hp1_0
  refine lv_aload_n hx hb dX10_takeManOnce_7 rfl (lv_at hl 0 rfl) ?_
  refine fg_10_0 (k := 6) hx hb hts in_X10_takeManOnce_10 hown hK hP (by decide) (by decide) (hts _ lk_X10_takeManOnce_9) dX10_takeManOnce_8 ?_
  refine lv_aload_n hx hb dX10_takeManOnce_11 rfl (lv_at hl 0 rfl) ?_
  refine fg_10_1 (k := 6) hx hb hts in_X10_takeManOnce_10 hown hK hP (by decide) (by decide) (hts _ lk_X10_takeManOnce_15) dX10_takeManOnce_12 ?_
  refine r_cVi (k := 1) (As := [.ref (ad 3)]) (rest := []) ⟨hx, hb, hml, hown, hts⟩ hK hP hN hS (c_X8_manHere_v l D cA ad hI σ1 τ1 hR _ _ _ _ _ _ gCT gCN gCS) (cwV 1 hts gX10_takeManOnce_X8_manHere rfl rfl rfl (by decide +kernel) ⟨by decide, by decide⟩) (rv_Tape hK hP (by decide) (by decide)) rfl hl.1 rfl (Nat.le_of_ble_eq_true rfl) dX10_takeManOnce_15 (Nat.zero_le _) (Nat.zero_le _) (fun r3 u3 H3 locs3 hp3 hP hS => ?_)
  obtain ⟨σ3, τ3⟩ := u3
  obtain ⟨hR, f3, fL3, hq3, hp3_0, hp3_1, gnCT, gnCN, gnCS⟩ : P_X8_manHere_v σ1 τ1 _ _ _ _ _ _ r3 σ3 τ3 := hp3
  have o1 := hp3_0
  have hP : va_P D vwCl (gw cA ad σ3 τ3) H3 := hP
  obtain rfl := FrL.nil fL3
  have hF := hF.step f3 (by decide)
  have gCF := gCF.ag (Agr.fr f3 (by decide))
  have gCM := gCM.ag (Agr.fr f3 (by decide))
  have gCS := gCS.ag (Agr.fr f3 (by decide))
  have gCT := gCT.ag (Agr.fr f3 (by decide))
  refine lv_istore_n (lv' := [(3, .int r3), (0, .ref (ad 6)), (1, .int a1), (2, .int a2)]) hx hb dX10_takeManOnce_18 rfl hl (by decide) rfl (fun ls hl => ?_)
  refine lv_iload_n hx hb dX10_takeManOnce_19 rfl (lv_at hl 0 rfl) ?_
  refine r_iconst hx hb dX10_takeManOnce_20 (by decide) (fun z4 ez4 => ?_)
  refine r_icmp_ne (tgt := 26) hx hb dX10_takeManOnce_21 (by decide) (fun c5 => ?_) (fun c5 => ?_)
  · obtain ⟨e1, k0, k7, _⟩ := o1.ye (by omega)
    have hlk := lok_ok e1
    refine lv_aload_n hx hb dX10_takeManOnce_26 rfl (lv_at hl 1 rfl) ?_
    refine fg_10_1 (k := 6) hx hb hts in_X10_takeManOnce_10 hown hK hP (by decide) (by decide) (hts _ lk_X10_takeManOnce_15) dX10_takeManOnce_27 ?_
    refine fgN_9_10 (k := 3) hx hb hts in_X10_takeManOnce_9 hown hK hP (by decide) (by decide) (hN.use nw_10_144) dX10_takeManOnce_30 ?_
    refine lv_iload_n hx hb dX10_takeManOnce_33 rfl (lv_at hl 0 rfl) ?_
    obtain ⟨j6, ej6⟩ : ∃ j : Nat, r3.toInt = (j : Int) := ⟨_, ti_nat (by omega)⟩
    refine ad_manA (k := 53) (j := j6) hx hb hK hP (by decide) (by decide) ej6 (by omega) dX10_takeManOnce_34 ?_
    refine lv_iload_n hx hb dX10_takeManOnce_35 rfl (lv_at hl 2 rfl) ?_
    obtain ⟨j7, ej7⟩ : ∃ j : Nat, a1.toInt = (j : Int) := ⟨_, ti_nat (by omega)⟩
    refine ad_manR (k := 108 + j6) (j := j7) hx hb hK hP (by omega) (by omega) ej7 (by omega) dX10_takeManOnce_36 ?_
    have hat := gCM.at (i := j6) (j := j7) (o := oo) (u := a2.toInt) (by omega) (by omega) (by omega)
    refine lv_iload_n hx hb dX10_takeManOnce_37 rfl (lv_at hl 3 rfl) ?_
    refine r_icmp_eq (tgt := 52) hx hb dX10_takeManOnce_38 (by decide) (fun c8 => ?_) (fun c8 => ?_)
    · refine lv_aload_n hx hb dX10_takeManOnce_52 rfl (lv_at hl 1 rfl) ?_
      refine fg_10_0 (k := 6) hx hb hts in_X10_takeManOnce_10 hown hK hP (by decide) (by decide) (hts _ lk_X10_takeManOnce_9) dX10_takeManOnce_53 ?_
      refine r_cVv (k := 1) (As := []) (rest := []) ⟨hx, hb, hml, hown, hts⟩ hK hP hN hS (c_X8_next_v l D cA ad hI σ3 τ1 hR _ _ _ _ gCT) (cwV 0 hts gX10_takeManOnce_X8_next rfl rfl rfl (by decide +kernel) ⟨by decide, by decide⟩) (rv_Tape hK hP (by decide) (by decide)) rfl hl.1 rfl (Nat.le_of_ble_eq_true rfl) dX10_takeManOnce_56 (Nat.zero_le _) (Nat.zero_le _) (fun u9 H9 locs9 hp9 hP hS => ?_)
      obtain ⟨σ9, τ9⟩ := u9
      obtain ⟨hR, f9, fL9, hp9_0⟩ : P_X8_next_v σ3 τ1 _ _ _ _ σ9 τ9 := hp9
      have hP : va_P D vwCl (gw cA ad σ9 τ9) H9 := hP
      have hFL := hFL.step fL9 (by decide)
      have gCN := gCN.agL (AgrL.fr fL9 (by decide))
      have hF := hF.step f9 (by decide)
      have gCF := gCF.ag (Agr.fr f9 (by decide))
      have gCM := gCM.ag (Agr.fr f9 (by decide))
      have gCS := gCS.ag (Agr.fr f9 (by decide))
      have t10 : (σ9 1 13).toInt = (σ3 1 13).toInt := congrArg Int32.toInt (f9.at 1 13 (by decide))
      have t11 : (σ9 (108 + j6) j7).toInt = (σ3 (108 + j6) j7).toInt := congrArg Int32.toInt (f9.atV (108 + j6) j7 (by intro q hq; simp only [L_X8_next_v, List.mem_cons, List.not_mem_nil, or_false] at hq; rcases hq with rfl <;> dsimp only <;> omega))
      have gCT := hp9_0
      refine lv_iload_n hx hb dX10_takeManOnce_59 rfl (lv_at hl 0 rfl) ?_
      exact r_iret hx hb hr hK hP hS hk dX10_takeManOnce_60 (show P_X10_takeManOnce σ0 τ0 a1 a2 b N mo q h nm oo r3 σ9 τ9 from ⟨hR, hF, hFL, by omega, by first | (obtain ⟨f, e1, x1, x2⟩ := o1.no (by omega); exact RH.ofl (by unfold mnoP; rw [e1, bnd_l]) (by omega) x1 x2) | exact RH.ofk (by unfold mnoP; rw [e1, bnd_r, if_pos (by rw [show r3.toInt.toNat = j6 by omega]; omega)]) (by omega) (by omega) (by omega) | exact RH.ofr (by unfold mnoP; rw [e1, bnd_r, if_neg (by rw [show r3.toInt.toNat = j6 by omega]; omega)]) (by omega) (by omega) gCT, by omega, gCN, gCS, gCM, gCF⟩)
    · refine lv_aload_n hx hb dX10_takeManOnce_41 rfl (lv_at hl 1 rfl) ?_
      refine fg_10_0 (k := 6) hx hb hts in_X10_takeManOnce_10 hown hK hP (by decide) (by decide) (hts _ lk_X10_takeManOnce_9) dX10_takeManOnce_42 ?_
      refine r_iconst hx hb dX10_takeManOnce_45 (by decide) (fun z12 ez12 => ?_)
      refine r_cVi (k := 1) (As := [.int z12]) (rest := []) ⟨hx, hb, hml, hown, hts⟩ hK hP hN hS (c_X8_blame_v l D cA ad hI σ3 τ1 hR z12 _ _ _ _ (by omega) gCT) (cwV 1 hts gX10_takeManOnce_X8_blame rfl rfl rfl (by decide +kernel) ⟨by decide, by decide⟩) (rv_Tape hK hP (by decide) (by decide)) rfl hl.1 rfl (Nat.le_of_ble_eq_true rfl) dX10_takeManOnce_46 (Nat.zero_le _) (Nat.zero_le _) (fun r13 u13 H13 locs13 hp13 hP hS => ?_)
      obtain ⟨σ13, τ13⟩ := u13
      obtain ⟨hR, f13, fL13, hq13, hp13_0, hp13_1, hp13_2, gnCT⟩ : P_X8_blame_v σ3 τ1 z12 _ _ _ _ r13 σ13 τ13 := hp13
      have hP : va_P D vwCl (gw cA ad σ13 τ13) H13 := hP
      obtain rfl := FrL.nil fL13
      have hF := hF.step f13 (by decide)
      have gCF := gCF.ag (Agr.fr f13 (by decide))
      have gCM := gCM.ag (Agr.fr f13 (by decide))
      have gCS := gCS.ag (Agr.fr f13 (by decide))
      have gCT := gCT.ag (Agr.fr f13 (by decide))
      have t14 : (σ13 (108 + j6) j7).toInt = (σ3 (108 + j6) j7).toInt := congrArg Int32.toInt (f13.atV (108 + j6) j7 (by intro q hq; simp only [L_X8_blame_v, List.mem_cons, List.not_mem_nil, or_false] at hq; rcases hq with rfl <;> dsimp only <;> omega))
      refine lv_pop hx hb dX10_takeManOnce_49 rfl ?_
      refine r_iconst hx hb dX10_takeManOnce_50 (by decide) (fun z15 ez15 => ?_)
      exact r_iret hx hb hr hK hP hS hk dX10_takeManOnce_51 (show P_X10_takeManOnce σ0 τ0 a1 a2 b N mo q h nm oo z15 σ13 τ1 from ⟨hR, hF, hFL, by omega, by first | (obtain ⟨f, e1, x1, x2⟩ := o1.no (by omega); exact RH.ofl (by unfold mnoP; rw [e1, bnd_l]) (by omega) x1 x2) | exact RH.ofk (by unfold mnoP; rw [e1, bnd_r, if_pos (by rw [show r3.toInt.toNat = j6 by omega]; omega)]) (by omega) (by omega) (by omega) | exact RH.ofr (by unfold mnoP; rw [e1, bnd_r, if_neg (by rw [show r3.toInt.toNat = j6 by omega]; omega)]) (by omega) (by omega) gCT, by omega, gCN, gCS, gCM, gCF⟩)
  · refine r_iconst hx hb dX10_takeManOnce_24 (by decide) (fun z16 ez16 => ?_)
    exact r_iret hx hb hr hK hP hS hk dX10_takeManOnce_25 (show P_X10_takeManOnce σ0 τ0 a1 a2 b N mo q h nm oo z16 σ3 τ1 from ⟨hR, hF, hFL, by omega, by first | (obtain ⟨f, e1, x1, x2⟩ := o1.no (by omega); exact RH.ofl (by unfold mnoP; rw [e1, bnd_l]) (by omega) x1 x2) | exact RH.ofk (by unfold mnoP; rw [e1, bnd_r, if_pos (by rw [show r3.toInt.toNat = 0 by omega]; omega)]) (by omega) (by omega) (by omega) | exact RH.ofr (by unfold mnoP; rw [e1, bnd_r, if_neg (by rw [show r3.toInt.toNat = 0 by omega]; omega)]) (by omega) (by omega) gCT, by omega, gCN, gCS, gCM, gCF⟩)
theorem in_X10_readDeaf_10 : ∀ w ∈ u_ws RX10 TX10 5, w ∈ wsX10_readDeaf := by decide +kernel
theorem in_X10_readDeaf_9 : ∀ w ∈ u_ws RX9 TX9 14, w ∈ wsX10_readDeaf := by decide +kernel
theorem lk_X10_readDeaf_15 : Cond.fieldLink RX10 15 "CuckooShares$ValleyText" "into" "LCuckooShares$Valley;" ∈ wsX10_readDeaf := by decide +kernel
theorem lk_X10_readDeaf_9 : Cond.fieldLink RX10 9 "CuckooShares$ValleyText" "tape" "LCuckooShares$Tape;" ∈ wsX10_readDeaf := by decide +kernel
abbrev L_X10_readDeaf : List Rc := [(1, 1, 7, 10), (1, 1, 13, 14), (108, 115, 4, 4)]
abbrev LL_X10_readDeaf : List Rc := [(1, 1, 11, 11)]
def P_X10_readDeaf (σ0 : Nat → Nat → Int32) (τ0 : Nat → Nat → Int64) (b : Nat → Int) (N : Nat) (mo : Nat) (q : Nat) (h : Nat → Int) (nm : Nat → Int) (r : Int32) (σ : Nat → Nat → Int32) (τ : Nat → Nat → Int64) : Prop := Rg σ ∧ Fr L_X10_readDeaf σ0 σ ∧ FrL LL_X10_readDeaf τ0 τ ∧ (0 ≤ r.toInt ∧ r.toInt ≤ 1) ∧ (RO r σ (deaP b N mo (q, h, nm, σ0 6 3, σ0 6 4)) (CR σ τ b N mo)) ∧ (r.toInt = 0 ∨ (σ 1 13).toInt = (σ0 1 13).toInt)
set_option maxHeartbeats 4000000 in
theorem c_X10_readDeaf (l : Launch) (D : va_G) (cA : Nat → ClassId) (ad : Nat → Nat) (hI : Inj ad) (σ0 : Nat → Nat → Int32) (τ0 : Nat → Nat → Int64) (hR : Rg σ0) (b : Nat → Int) (N : Nat) (mo : Nat) (q : Nat) (h : Nat → Int) (nm : Nat → Int) (gCT0 : CT σ0 τ0 b N mo q) (gCN0 : CN τ0 b h nm) (gCS0 : CS σ0 h) (gCM0 : CM σ0 h) (gCF0 : CF σ0 h) : Met l yX10_readDeaf wsX10_readDeaf ({ frames := 4, cells := 0, slots := 0, locals := 86 } : Room) (WQc D cA ad [.ref (ad 6)] σ0 τ0) (va_Qi (fun (r : Int32) (u : SS) => P_X10_readDeaf σ0 τ0 b N mo q h nm r u.1 u.2) (WB D cA ad) (AA ad)) 0 0 (AA ad) := by
  refine Met.ofW (cc := cX10_readDeaf) (maxL := 3) (ret := (some .boolean)) (by decide) rfl ?_
  intro p e s m args below meth c s₁ B hml hv
  obtain ⟨rfl, hP, hK, hN⟩ := hv
  have C : Cy p s m _ meth c cX10_readDeaf 3 wsX10_readDeaf RX10 D cA ad (some .boolean) := ⟨B.exec, B.bytes, hml, findClass_of_methodNamed B.named, atoms_spec (ws := wsX10_readDeaf) B.pre, hK, B.notSynchronized, B.returns, hI, hN⟩
  have hl := lv_entry ([.ref (ad 6)]) (n := 3) (Nat.le_of_ble_eq_true rfl)
  rw [lg_entry_eq]
  generalize (lg_sl ([.ref (ad 6)]) ++ List.replicate (3 - (lg_sl ([.ref (ad 6)])).length) Slot.unset).toArray = ls at hl ⊢
  have hl : lv_has ls 3 [(0, .ref (ad 6))] := hl
  have hS : va_S (AA ad) s.heap s.heap [] := va_S.rf
  have hF : Fr L_X10_readDeaf σ0 σ0 := Fr.rf
  have hFL : FrL LL_X10_readDeaf τ0 τ0 := FrL.rf
  have gCT := gCT0
  have gCN := gCN0
  have gCS := gCS0
  have gCM := gCM0
  have gCF := gCF0
  obtain ⟨hx, hb, _, hown, hts, _, hk, hr, _, _⟩ := C
  refine lv_aload_n hx hb dX10_readDeaf_0 rfl (lv_at hl 0 rfl) ?_
  refine r_iconst hx hb dX10_readDeaf_1 (by decide) (fun z1 ez1 => ?_)
  refine r_iconst hx hb dX10_readDeaf_2 (by decide) (fun z2 ez2 => ?_)
  refine r_cVi (k := 6) (As := [.int z1, .int z2]) (rest := []) ⟨hx, hb, hml, hown, hts⟩ hK hP hN hS (c_X10_takeManOnce l D cA ad hI σ0 τ0 hR z1 z2 b N mo q h nm 63 (by omega) (by omega) (by omega) gCT gCN gCS gCM gCF) (cwV 2 hts gX10_readDeaf_X10_takeManOnce rfl rfl rfl (by decide +kernel) ⟨by decide, by decide⟩) (rv_VText hK hP (by decide) (by decide)) rfl hl.1 rfl (Nat.le_of_ble_eq_true rfl) dX10_readDeaf_3 (Nat.zero_le _) (Nat.zero_le _) (fun r3 u3 H3 locs3 hp3 hP hS => ?_)
  obtain ⟨σ3, τ3⟩ := u3
  obtain ⟨hR, f3, fL3, hq3, hp3_0, hp3_1, gnCN, gnCS, gnCM, gnCF⟩ : P_X10_takeManOnce σ0 τ0 z1 z2 b N mo q h nm 63 r3 σ3 τ3 := hp3
  have o1 := hp3_0
  have hP : va_P D vwCl (gw cA ad σ3 τ3) H3 := hP
  have hFL := hFL.step fL3 (by decide)
  have gCN := gCN.agL (AgrL.fr fL3 (by decide))
  have hF := hF.step f3 (by decide)
  have gCF := gCF.ag (Agr.fr f3 (by decide))
  have gCM := gCM.ag (Agr.fr f3 (by decide))
  have gCS := gCS.ag (Agr.fr f3 (by decide))
  refine lv_istore_n (lv' := [(1, .int r3), (0, .ref (ad 6))]) hx hb dX10_readDeaf_6 rfl hl (by decide) rfl (fun ls hl => ?_)
  refine lv_iload_n hx hb dX10_readDeaf_7 rfl (lv_at hl 0 rfl) ?_
  refine r_iconst hx hb dX10_readDeaf_8 (by decide) (fun z4 ez4 => ?_)
  refine r_icmp_ne (tgt := 14) hx hb dX10_readDeaf_9 (by decide) (fun c5 => ?_) (fun c5 => ?_)
  · obtain ⟨e1, k0, k7, gCT⟩ := o1.ye (by omega)
    have hmk := mno_ok e1
    refine lv_aload_n hx hb dX10_readDeaf_14 rfl (lv_at hl 1 rfl) ?_
    refine fg_10_0 (k := 6) hx hb hts in_X10_readDeaf_10 hown hK hP (by decide) (by decide) (hts _ lk_X10_readDeaf_9) dX10_readDeaf_15 ?_
    refine lv_aload_n hx hb dX10_readDeaf_18 rfl (lv_at hl 1 rfl) ?_
    refine fg_10_1 (k := 6) hx hb hts in_X10_readDeaf_10 hown hK hP (by decide) (by decide) (hts _ lk_X10_readDeaf_15) dX10_readDeaf_19 ?_
    refine r_cVi (k := 1) (As := [.ref (ad 3)]) (rest := []) ⟨hx, hb, hml, hown, hts⟩ hK hP hN hS (c_X8_manHere_v l D cA ad hI σ3 τ3 hR _ _ _ _ _ _ gCT gCN gCS) (cwV 1 hts gX10_readDeaf_X8_manHere rfl rfl rfl (by decide +kernel) ⟨by decide, by decide⟩) (rv_Tape hK hP (by decide) (by decide)) rfl hl.1 rfl (Nat.le_of_ble_eq_true rfl) dX10_readDeaf_22 (Nat.zero_le _) (Nat.zero_le _) (fun r6 u6 H6 locs6 hp6 hP hS => ?_)
    obtain ⟨σ6, τ6⟩ := u6
    obtain ⟨hR, f6, fL6, hq6, hp6_0, hp6_1, gnCT, gnCN, gnCS⟩ : P_X8_manHere_v σ3 τ3 _ _ _ _ _ _ r6 σ6 τ6 := hp6
    have o2 := hp6_0
    have hP : va_P D vwCl (gw cA ad σ6 τ6) H6 := hP
    obtain rfl := FrL.nil fL6
    have hF := hF.step f6 (by decide)
    have gCF := gCF.ag (Agr.fr f6 (by decide))
    have gCM := gCM.ag (Agr.fr f6 (by decide))
    have gCS := gCS.ag (Agr.fr f6 (by decide))
    have gCT := gCT.ag (Agr.fr f6 (by decide))
    refine lv_istore_n (lv' := [(2, .int r6), (1, .int r3), (0, .ref (ad 6))]) hx hb dX10_readDeaf_25 rfl hl (by decide) rfl (fun ls hl => ?_)
    refine lv_iload_n hx hb dX10_readDeaf_26 rfl (lv_at hl 0 rfl) ?_
    refine r_iconst hx hb dX10_readDeaf_27 (by decide) (fun z7 ez7 => ?_)
    refine r_icmp_ne (tgt := 33) hx hb dX10_readDeaf_28 (by decide) (fun c8 => ?_) (fun c8 => ?_)
    · obtain ⟨e2, m0, m7, _⟩ := o2.ye (by omega)
      refine lv_iload_n hx hb dX10_readDeaf_33 rfl (lv_at hl 0 rfl) ?_
      refine lv_iload_n hx hb dX10_readDeaf_34 rfl (lv_at hl 1 rfl) ?_
      refine r_icmp_ne (tgt := 47) hx hb dX10_readDeaf_35 (by decide) (fun c9 => ?_) (fun c9 => ?_)
      · refine lv_aload_n hx hb dX10_readDeaf_47 rfl (lv_at hl 2 rfl) ?_
        refine fg_10_1 (k := 6) hx hb hts in_X10_readDeaf_10 hown hK hP (by decide) (by decide) (hts _ lk_X10_readDeaf_15) dX10_readDeaf_48 ?_
        refine fgN_9_10 (k := 3) hx hb hts in_X10_readDeaf_9 hown hK hP (by decide) (by decide) (hN.use nw_10_144) dX10_readDeaf_51 ?_
        refine lv_iload_n hx hb dX10_readDeaf_54 rfl (lv_at hl 1 rfl) ?_
        obtain ⟨j10, ej10⟩ : ∃ j : Nat, r3.toInt = (j : Int) := ⟨_, ti_nat (by omega)⟩
        refine ad_manA (k := 53) (j := j10) hx hb hK hP (by decide) (by decide) ej10 (by omega) dX10_readDeaf_55 ?_
        refine r_iconst hx hb dX10_readDeaf_56 (by decide) (fun z11 ez11 => ?_)
        refine lv_iload_n hx hb dX10_readDeaf_57 rfl (lv_at hl 0 rfl) ?_
        refine as_manR (k := 108 + j10) (j := 4) hx hb hK hP hI hR hS (by omega) (by omega) (by omega) (by omega) dX10_readDeaf_58 (fun σ12 H12 locs12 u12 v12 hR hP hS => ?_)
        have ud := u12
        have vd := v12
        have hF := hF.puts u12 2 rfl (by omega) (by omega) (by decide) (by decide)
        have gCF := gCF.ag (Agr.putV u12 (by intro q hq; simp only [Gd_CF, List.mem_cons, List.not_mem_nil, or_false] at hq; rcases hq with rfl | rfl <;> dsimp only [inRc] <;> omega))
        have gCS := gCS.ag (Agr.putV u12 (by intro q hq; simp only [Gd_CS, List.mem_cons, List.not_mem_nil, or_false] at hq; rcases hq with rfl | rfl <;> dsimp only [inRc] <;> omega))
        have gCT := gCT.ag (Agr.putV u12 (by intro q hq; simp only [Gd_CT, List.mem_cons, List.not_mem_nil, or_false] at hq; rcases hq with rfl | rfl <;> dsimp only [inRc] <;> omega))
        have t13 : (σ12 1 13).toInt = (σ6 1 13).toInt := congrArg Int32.toInt (u12 1 13 (by omega))
        have gCM := gCM.set (i := j10) (o := 63) (v := r6.toInt + 1) ud (by omega) (by omega) (by omega) (by omega)
        refine lv_aload_n hx hb dX10_readDeaf_59 rfl (lv_at hl 2 rfl) ?_
        refine fg_10_0 (k := 6) hx hb hts in_X10_readDeaf_10 hown hK hP (by decide) (by decide) (hts _ lk_X10_readDeaf_9) dX10_readDeaf_60 ?_
        refine r_cVv (k := 1) (As := []) (rest := []) ⟨hx, hb, hml, hown, hts⟩ hK hP hN hS (c_X8_next_v l D cA ad hI σ12 τ3 hR _ _ _ _ gCT) (cwV 0 hts gX10_readDeaf_X8_next rfl rfl rfl (by decide +kernel) ⟨by decide, by decide⟩) (rv_Tape hK hP (by decide) (by decide)) rfl hl.1 rfl (Nat.le_of_ble_eq_true rfl) dX10_readDeaf_63 (Nat.zero_le _) (Nat.zero_le _) (fun u14 H14 locs14 hp14 hP hS => ?_)
        obtain ⟨σ14, τ14⟩ := u14
        obtain ⟨hR, f14, fL14, hp14_0⟩ : P_X8_next_v σ12 τ3 _ _ _ _ σ14 τ14 := hp14
        have hP : va_P D vwCl (gw cA ad σ14 τ14) H14 := hP
        have hFL := hFL.step fL14 (by decide)
        have gCN := gCN.agL (AgrL.fr fL14 (by decide))
        have hF := hF.step f14 (by decide)
        have gCF := gCF.ag (Agr.fr f14 (by decide))
        have gCM := gCM.ag (Agr.fr f14 (by decide))
        have gCS := gCS.ag (Agr.fr f14 (by decide))
        have t15 : (σ14 1 13).toInt = (σ12 1 13).toInt := congrArg Int32.toInt (f14.at 1 13 (by decide))
        have t16 : (σ14 (108 + j10) 4).toInt = (σ12 (108 + j10) 4).toInt := congrArg Int32.toInt (f14.atV (108 + j10) 4 (by intro q hq; simp only [L_X8_next_v, List.mem_cons, List.not_mem_nil, or_false] at hq; rcases hq with rfl <;> dsimp only <;> omega))
        have gCT := hp14_0
        refine r_iconst hx hb dX10_readDeaf_66 (by decide) (fun z17 ez17 => ?_)
        exact r_zret hx hb hr hK hP hS hk (by omega) dX10_readDeaf_67 (show P_X10_readDeaf σ0 τ0 b N mo q h nm z17 σ14 τ14 from ⟨hR, hF, hFL, by omega, by first | (obtain ⟨f, e2, x1, x2⟩ := o2.no (by omega); exact RO.ofl (by unfold deaP; dsimp only; rw [e1, bnd_r, e2, bnd_l]) (by omega) x1 x2) | (obtain ⟨f, e1, x1, x2⟩ := o1.no (by omega); exact RO.ofl (by unfold deaP; dsimp only; rw [e1, bnd_l]) (by omega) x1 x2) | exact RO.ofk (by unfold deaP; dsimp only; rw [e1, bnd_r, e2, bnd_r, if_pos (by omega)]) (by omega) (by omega) (by omega) | exact RO.ofr (by unfold deaP; dsimp only; rw [e1, bnd_r, e2, bnd_r, if_neg (by omega), show r3.toInt.toNat = j10 by omega]) (by omega) (CR.mk gCT (gCN.h (uh_n _ _ (by omega)) (uh_n _ _ (by omega))) (gCS.h (fun j g1 => uh_n _ _ (by omega))) gCM (gCF.h (uh_n _ _ (by omega)) (fun j g1 => uh_n _ _ (by omega))) (hF.at 6 3 (by decide)) (hF.at 6 4 (by decide))), by omega⟩)
      · refine lv_aload_n hx hb dX10_readDeaf_38 rfl (lv_at hl 2 rfl) ?_
        refine fg_10_0 (k := 6) hx hb hts in_X10_readDeaf_10 hown hK hP (by decide) (by decide) (hts _ lk_X10_readDeaf_9) dX10_readDeaf_39 ?_
        refine r_iconst hx hb dX10_readDeaf_42 (by decide) (fun z18 ez18 => ?_)
        refine r_cVi (k := 1) (As := [.int z18]) (rest := []) ⟨hx, hb, hml, hown, hts⟩ hK hP hN hS (c_X8_blame_v l D cA ad hI σ6 τ3 hR z18 _ _ _ _ (by omega) gCT) (cwV 1 hts gX10_readDeaf_X8_blame rfl rfl rfl (by decide +kernel) ⟨by decide, by decide⟩) (rv_Tape hK hP (by decide) (by decide)) rfl hl.1 rfl (Nat.le_of_ble_eq_true rfl) dX10_readDeaf_43 (Nat.zero_le _) (Nat.zero_le _) (fun r19 u19 H19 locs19 hp19 hP hS => ?_)
        obtain ⟨σ19, τ19⟩ := u19
        obtain ⟨hR, f19, fL19, hq19, hp19_0, hp19_1, hp19_2, gnCT⟩ : P_X8_blame_v σ6 τ3 z18 _ _ _ _ r19 σ19 τ19 := hp19
        have hP : va_P D vwCl (gw cA ad σ19 τ19) H19 := hP
        obtain rfl := FrL.nil fL19
        have hF := hF.step f19 (by decide)
        have gCF := gCF.ag (Agr.fr f19 (by decide))
        have gCM := gCM.ag (Agr.fr f19 (by decide))
        have gCS := gCS.ag (Agr.fr f19 (by decide))
        have gCT := gCT.ag (Agr.fr f19 (by decide))
        exact r_zret hx hb hr hK hP hS hk (by omega) dX10_readDeaf_46 (show P_X10_readDeaf σ0 τ0 b N mo q h nm r19 σ19 τ3 from ⟨hR, hF, hFL, by omega, by first | (obtain ⟨f, e2, x1, x2⟩ := o2.no (by omega); exact RO.ofl (by unfold deaP; dsimp only; rw [e1, bnd_r, e2, bnd_l]) (by omega) x1 x2) | (obtain ⟨f, e1, x1, x2⟩ := o1.no (by omega); exact RO.ofl (by unfold deaP; dsimp only; rw [e1, bnd_l]) (by omega) x1 x2) | exact RO.ofk (by unfold deaP; dsimp only; rw [e1, bnd_r, e2, bnd_r, if_pos (by omega)]) (by omega) (by omega) (by omega) | exact RO.ofr (by unfold deaP; dsimp only; rw [e1, bnd_r, e2, bnd_r, if_neg (by omega), show r3.toInt.toNat = 0 by omega]) (by omega) (CR.mk gCT (gCN.h (uh_n _ _ (by omega)) (uh_n _ _ (by omega))) (gCS.h (fun j g1 => uh_n _ _ (by omega))) gCM (gCF.h (uh_n _ _ (by omega)) (fun j g1 => uh_n _ _ (by omega))) (hF.at 6 3 (by decide)) (hF.at 6 4 (by decide))), by omega⟩)
    · refine r_iconst hx hb dX10_readDeaf_31 (by decide) (fun z20 ez20 => ?_)
      exact r_zret hx hb hr hK hP hS hk (by omega) dX10_readDeaf_32 (show P_X10_readDeaf σ0 τ0 b N mo q h nm z20 σ6 τ3 from ⟨hR, hF, hFL, by omega, by first | (obtain ⟨f, e2, x1, x2⟩ := o2.no (by omega); exact RO.ofl (by unfold deaP; dsimp only; rw [e1, bnd_r, e2, bnd_l]) (by omega) x1 x2) | (obtain ⟨f, e1, x1, x2⟩ := o1.no (by omega); exact RO.ofl (by unfold deaP; dsimp only; rw [e1, bnd_l]) (by omega) x1 x2) | exact RO.ofk (by unfold deaP; dsimp only; rw [e1, bnd_r, e2, bnd_r, if_pos (by omega)]) (by omega) (by omega) (by omega) | exact RO.ofr (by unfold deaP; dsimp only; rw [e1, bnd_r, e2, bnd_r, if_neg (by omega), show r3.toInt.toNat = 0 by omega]) (by omega) (CR.mk gCT (gCN.h (uh_n _ _ (by omega)) (uh_n _ _ (by omega))) (gCS.h (fun j g1 => uh_n _ _ (by omega))) gCM (gCF.h (uh_n _ _ (by omega)) (fun j g1 => uh_n _ _ (by omega))) (hF.at 6 3 (by decide)) (hF.at 6 4 (by decide))), by omega⟩)
  · refine r_iconst hx hb dX10_readDeaf_12 (by decide) (fun z21 ez21 => ?_)
    exact r_zret hx hb hr hK hP hS hk (by omega) dX10_readDeaf_13 (show P_X10_readDeaf σ0 τ0 b N mo q h nm z21 σ3 τ3 from ⟨hR, hF, hFL, by omega, by first | (obtain ⟨f, e2, x1, x2⟩ := o2.no (by omega); exact RO.ofl (by unfold deaP; dsimp only; rw [e1, bnd_r, e2, bnd_l]) (by omega) x1 x2) | (obtain ⟨f, e1, x1, x2⟩ := o1.no (by omega); exact RO.ofl (by unfold deaP; dsimp only; rw [e1, bnd_l]) (by omega) x1 x2) | exact RO.ofk (by unfold deaP; dsimp only; rw [e1, bnd_r, e2, bnd_r, if_pos (by omega)]) (by omega) (by omega) (by omega) | exact RO.ofr (by unfold deaP; dsimp only; rw [e1, bnd_r, e2, bnd_r, if_neg (by omega), show r3.toInt.toNat = 0 by omega]) (by omega) (CR.mk gCT (gCN.h (uh_n _ _ (by omega)) (uh_n _ _ (by omega))) (gCS.h (fun j g1 => uh_n _ _ (by omega))) gCM (gCF.h (uh_n _ _ (by omega)) (fun j g1 => uh_n _ _ (by omega))) (hF.at 6 3 (by decide)) (hF.at 6 4 (by decide))), by omega⟩)
theorem in_X8_takeNumber_8 : ∀ w ∈ u_ws RX8 TX8 15, w ∈ wsX8_takeNumber := by decide +kernel
theorem lk_X8_takeNumber_125 : Cond.fieldLink RX8 125 "CuckooShares$Tape" "value" "I" ∈ wsX8_takeNumber := by decide +kernel
theorem lk_X8_takeNumber_85 : Cond.fieldLink RX8 85 "CuckooShares$Tape" "token" "I" ∈ wsX8_takeNumber := by decide +kernel
theorem lk_X8_takeNumber_91 : Cond.fieldLink RX8 91 "CuckooShares$Tape" "number" "I" ∈ wsX8_takeNumber := by decide +kernel
abbrev L_X8_takeNumber_v : List Rc := [(1, 1, 12, 14), (1, 1, 7, 10)]
abbrev LL_X8_takeNumber_v : List Rc := [(1, 1, 11, 11)]
def P_X8_takeNumber_v (σ0 : Nat → Nat → Int32) (τ0 : Nat → Nat → Int64) (a1 : Int32) (a2 : Int32) (b : Nat → Int) (N : Nat) (mo : Nat) (q : Nat) (lo : Int) (hi : Int) (r : Int32) (σ : Nat → Nat → Int32) (τ : Nat → Nat → Int64) : Prop := Rg σ ∧ Fr L_X8_takeNumber_v σ0 σ ∧ FrL LL_X8_takeNumber_v τ0 τ ∧ (0 ≤ r.toInt ∧ r.toInt ≤ 1) ∧ (RO r σ (numP b N mo lo hi q) (fun z => CT σ τ b N mo z.1 ∧ (σ 1 12).toInt = z.2)) ∧ (r.toInt = 0 ∨ (σ 1 13).toInt = (σ0 1 13).toInt)
set_option maxHeartbeats 4000000 in
theorem c_X8_takeNumber_v (l : Launch) (D : va_G) (cA : Nat → ClassId) (ad : Nat → Nat) (hI : Inj ad) (σ0 : Nat → Nat → Int32) (τ0 : Nat → Nat → Int64) (hR : Rg σ0) (a1 : Int32) (a2 : Int32) (b : Nat → Int) (N : Nat) (mo : Nat) (q : Nat) (lo : Int) (hi : Int) (ha1 : 0 ≤ a1.toInt ∧ a1.toInt ≤ 100) (ha2 : 3 ≤ a2.toInt ∧ a2.toInt ≤ 999) (hpre0 : a1.toInt = lo) (hpre1 : a2.toInt = hi) (gCT0 : CT σ0 τ0 b N mo q) : Met l yX8_takeNumber wsX8_takeNumber ({ frames := 1, cells := 0, slots := 0, locals := 21 } : Room) (WQc D cA ad [.ref (ad 1), .int a1, .int a2] σ0 τ0) (va_Qi (fun (r : Int32) (u : SS) => P_X8_takeNumber_v σ0 τ0 a1 a2 b N mo q lo hi r u.1 u.2) (WB D cA ad) (AA ad)) 0 0 (AA ad) := by
  refine Met.ofW (cc := cX8_takeNumber) (maxL := 3) (ret := (some .boolean)) (by decide) rfl ?_
  intro p e s m args below meth c s₁ B hml hv
  obtain ⟨rfl, hP, hK, hN⟩ := hv
  have C : Cy p s m _ meth c cX8_takeNumber 3 wsX8_takeNumber RX8 D cA ad (some .boolean) := ⟨B.exec, B.bytes, hml, findClass_of_methodNamed B.named, atoms_spec (ws := wsX8_takeNumber) B.pre, hK, B.notSynchronized, B.returns, hI, hN⟩
  have hl := lv_entry ([.ref (ad 1), .int a1, .int a2]) (n := 3) (Nat.le_of_ble_eq_true rfl)
  rw [lg_entry_eq]
  generalize (lg_sl ([.ref (ad 1), .int a1, .int a2]) ++ List.replicate (3 - (lg_sl ([.ref (ad 1), .int a1, .int a2])).length) Slot.unset).toArray = ls at hl ⊢
  have hl : lv_has ls 3 [(0, .ref (ad 1)), (1, .int a1), (2, .int a2)] := hl
  have hS : va_S (AA ad) s.heap s.heap [] := va_S.rf
  have hF : Fr L_X8_takeNumber_v σ0 σ0 := Fr.rf
  have hFL : FrL LL_X8_takeNumber_v τ0 τ0 := FrL.rf
  have gCT := gCT0
  obtain ⟨hx, hb, _, hown, hts, _, hk, hr, _, _⟩ := C
  have htk := gCT.tk
  have hnu := gCT.nu
  refine lv_aload_n hx hb dX8_takeNumber_0 rfl (lv_at hl 0 rfl) ?_
  refine fg_8_9 (k := 1) hx hb hts in_X8_takeNumber_8 hown hK hP (by decide) (by decide) (hts _ lk_X8_takeNumber_85) dX8_takeNumber_1 ?_
  refine r_bipush hx hb dX8_takeNumber_4 (by decide) (fun z1 ez1 => ?_)
  refine r_icmp_eq (tgt := 15) hx hb dX8_takeNumber_6 (by decide) (fun c2 => ?_) (fun c2 => ?_)
  · refine lv_aload_n hx hb dX8_takeNumber_15 rfl (lv_at hl 0 rfl) ?_
    refine fg_8_10 (k := 1) hx hb hts in_X8_takeNumber_8 hown hK hP (by decide) (by decide) (hts _ lk_X8_takeNumber_91) dX8_takeNumber_16 ?_
    refine lv_iload_n hx hb dX8_takeNumber_19 rfl (lv_at hl 1 rfl) ?_
    refine r_icmp_lt (tgt := 31) hx hb dX8_takeNumber_20 (by decide) (fun c3 => ?_) (fun c3 => ?_)
    · refine lv_aload_n hx hb dX8_takeNumber_31 rfl (lv_at hl 0 rfl) ?_
      refine r_iconst hx hb dX8_takeNumber_32 (by decide) (fun z4 ez4 => ?_)
      refine r_cVi (k := 1) (As := [.int z4]) (rest := []) ⟨hx, hb, hml, hown, hts⟩ hK hP hN hS (c_X8_blame_v l D cA ad hI σ0 τ0 hR z4 _ _ _ _ (by omega) gCT) (cwV 1 hts gX8_takeNumber_X8_blame rfl rfl rfl (by decide +kernel) ⟨by decide, by decide⟩) (rv_Tape hK hP (by decide) (by decide)) rfl hl.1 rfl (Nat.le_of_ble_eq_true rfl) dX8_takeNumber_33 (Nat.zero_le _) (Nat.zero_le _) (fun r5 u5 H5 locs5 hp5 hP hS => ?_)
      obtain ⟨σ5, τ5⟩ := u5
      obtain ⟨hR, f5, fL5, hq5, hp5_0, hp5_1, hp5_2, gnCT⟩ : P_X8_blame_v σ0 τ0 z4 _ _ _ _ r5 σ5 τ5 := hp5
      have hP : va_P D vwCl (gw cA ad σ5 τ5) H5 := hP
      obtain rfl := FrL.nil fL5
      have hF := hF.step f5 (by decide)
      have gCT := gCT.ag (Agr.fr f5 (by decide))
      have t6 : (σ5 1 10).toInt = (σ0 1 10).toInt := congrArg Int32.toInt (f5.at 1 10 (by decide))
      exact r_zret hx hb hr hK hP hS hk (by omega) dX8_takeNumber_36 (show P_X8_takeNumber_v σ0 τ0 a1 a2 b N mo q lo hi r5 σ5 τ0 from ⟨hR, hF, hFL, by omega, by first | exact RO.ofk (by unfold numP; rw [if_pos (by omega)]) (by omega) (by omega) (by omega) | exact RO.ofk (by unfold numP; rw [if_neg (by omega), if_pos (by omega)]) (by omega) (by omega) (by omega) | exact RO.ofr (by unfold numP; rw [if_neg (by omega), if_neg (by omega)]) (by omega) ⟨gCT, by show _ = nuq b N q; omega⟩, by omega⟩)
    · refine lv_aload_n hx hb dX8_takeNumber_23 rfl (lv_at hl 0 rfl) ?_
      refine fg_8_10 (k := 1) hx hb hts in_X8_takeNumber_8 hown hK hP (by decide) (by decide) (hts _ lk_X8_takeNumber_91) dX8_takeNumber_24 ?_
      refine lv_iload_n hx hb dX8_takeNumber_27 rfl (lv_at hl 2 rfl) ?_
      refine r_icmp_le (tgt := 37) hx hb dX8_takeNumber_28 (by decide) (fun c7 => ?_) (fun c7 => ?_)
      · refine lv_aload_n hx hb dX8_takeNumber_37 rfl (lv_at hl 0 rfl) ?_
        refine lv_aload_n hx hb dX8_takeNumber_38 rfl (lv_at hl 0 rfl) ?_
        refine fg_8_10 (k := 1) hx hb hts in_X8_takeNumber_8 hown hK hP (by decide) (by decide) (hts _ lk_X8_takeNumber_91) dX8_takeNumber_39 ?_
        refine fp_8_12 (k := 1) hx hb hts in_X8_takeNumber_8 hown hK hP (by decide) (by decide) (hts _ lk_X8_takeNumber_125) hI hR hS dX8_takeNumber_42 (fun σ8 H8 locs8 u8 v8 hR hP hS => ?_)
        have hF := hF.puts u8 0 rfl (by decide) (by decide) (by decide) (by decide)
        have gCT := gCT.ag (Agr.put u8 (by decide))
        have t9 : (σ8 1 13).toInt = (σ0 1 13).toInt := congrArg Int32.toInt (u8 1 13 (by omega))
        have t10 : (σ8 1 10).toInt = (σ0 1 10).toInt := congrArg Int32.toInt (u8 1 10 (by omega))
        refine lv_aload_n hx hb dX8_takeNumber_45 rfl (lv_at hl 0 rfl) ?_
        refine r_cVv (k := 1) (As := []) (rest := []) ⟨hx, hb, hml, hown, hts⟩ hK hP hN hS (c_X8_next_v l D cA ad hI σ8 τ0 hR _ _ _ _ gCT) (cwV 0 hts gX8_takeNumber_X8_next rfl rfl rfl (by decide +kernel) ⟨by decide, by decide⟩) (rv_Tape hK hP (by decide) (by decide)) rfl hl.1 rfl (Nat.le_of_ble_eq_true rfl) dX8_takeNumber_46 (Nat.zero_le _) (Nat.zero_le _) (fun u11 H11 locs11 hp11 hP hS => ?_)
        obtain ⟨σ11, τ11⟩ := u11
        obtain ⟨hR, f11, fL11, hp11_0⟩ : P_X8_next_v σ8 τ0 _ _ _ _ σ11 τ11 := hp11
        have hP : va_P D vwCl (gw cA ad σ11 τ11) H11 := hP
        have hFL := hFL.step fL11 (by decide)
        have hF := hF.step f11 (by decide)
        have t12 : (σ11 1 13).toInt = (σ8 1 13).toInt := congrArg Int32.toInt (f11.at 1 13 (by decide))
        have t13 : (σ11 1 12).toInt = (σ8 1 12).toInt := congrArg Int32.toInt (f11.at 1 12 (by decide))
        have gCT := hp11_0
        refine r_iconst hx hb dX8_takeNumber_49 (by decide) (fun z14 ez14 => ?_)
        exact r_zret hx hb hr hK hP hS hk (by omega) dX8_takeNumber_50 (show P_X8_takeNumber_v σ0 τ0 a1 a2 b N mo q lo hi z14 σ11 τ11 from ⟨hR, hF, hFL, by omega, by first | exact RO.ofk (by unfold numP; rw [if_pos (by omega)]) (by omega) (by omega) (by omega) | exact RO.ofk (by unfold numP; rw [if_neg (by omega), if_pos (by omega)]) (by omega) (by omega) (by omega) | exact RO.ofr (by unfold numP; rw [if_neg (by omega), if_neg (by omega)]) (by omega) ⟨gCT, by show _ = nuq b N q; omega⟩, by omega⟩)
      · refine lv_aload_n hx hb dX8_takeNumber_31 rfl (lv_at hl 0 rfl) ?_
        refine r_iconst hx hb dX8_takeNumber_32 (by decide) (fun z15 ez15 => ?_)
        refine r_cVi (k := 1) (As := [.int z15]) (rest := []) ⟨hx, hb, hml, hown, hts⟩ hK hP hN hS (c_X8_blame_v l D cA ad hI σ0 τ0 hR z15 _ _ _ _ (by omega) gCT) (cwV 1 hts gX8_takeNumber_X8_blame rfl rfl rfl (by decide +kernel) ⟨by decide, by decide⟩) (rv_Tape hK hP (by decide) (by decide)) rfl hl.1 rfl (Nat.le_of_ble_eq_true rfl) dX8_takeNumber_33 (Nat.zero_le _) (Nat.zero_le _) (fun r16 u16 H16 locs16 hp16 hP hS => ?_)
        obtain ⟨σ16, τ16⟩ := u16
        obtain ⟨hR, f16, fL16, hq16, hp16_0, hp16_1, hp16_2, gnCT⟩ : P_X8_blame_v σ0 τ0 z15 _ _ _ _ r16 σ16 τ16 := hp16
        have hP : va_P D vwCl (gw cA ad σ16 τ16) H16 := hP
        obtain rfl := FrL.nil fL16
        have hF := hF.step f16 (by decide)
        have gCT := gCT.ag (Agr.fr f16 (by decide))
        have t17 : (σ16 1 10).toInt = (σ0 1 10).toInt := congrArg Int32.toInt (f16.at 1 10 (by decide))
        exact r_zret hx hb hr hK hP hS hk (by omega) dX8_takeNumber_36 (show P_X8_takeNumber_v σ0 τ0 a1 a2 b N mo q lo hi r16 σ16 τ0 from ⟨hR, hF, hFL, by omega, by first | exact RO.ofk (by unfold numP; rw [if_pos (by omega)]) (by omega) (by omega) (by omega) | exact RO.ofk (by unfold numP; rw [if_neg (by omega), if_pos (by omega)]) (by omega) (by omega) (by omega) | exact RO.ofr (by unfold numP; rw [if_neg (by omega), if_neg (by omega)]) (by omega) ⟨gCT, by show _ = nuq b N q; omega⟩, by omega⟩)
  · refine lv_aload_n hx hb dX8_takeNumber_9 rfl (lv_at hl 0 rfl) ?_
    refine r_iconst hx hb dX8_takeNumber_10 (by decide) (fun z18 ez18 => ?_)
    refine r_cVi (k := 1) (As := [.int z18]) (rest := []) ⟨hx, hb, hml, hown, hts⟩ hK hP hN hS (c_X8_blame_v l D cA ad hI σ0 τ0 hR z18 _ _ _ _ (by omega) gCT) (cwV 1 hts gX8_takeNumber_X8_blame rfl rfl rfl (by decide +kernel) ⟨by decide, by decide⟩) (rv_Tape hK hP (by decide) (by decide)) rfl hl.1 rfl (Nat.le_of_ble_eq_true rfl) dX8_takeNumber_11 (Nat.zero_le _) (Nat.zero_le _) (fun r19 u19 H19 locs19 hp19 hP hS => ?_)
    obtain ⟨σ19, τ19⟩ := u19
    obtain ⟨hR, f19, fL19, hq19, hp19_0, hp19_1, hp19_2, gnCT⟩ : P_X8_blame_v σ0 τ0 z18 _ _ _ _ r19 σ19 τ19 := hp19
    have hP : va_P D vwCl (gw cA ad σ19 τ19) H19 := hP
    obtain rfl := FrL.nil fL19
    have hF := hF.step f19 (by decide)
    have gCT := gCT.ag (Agr.fr f19 (by decide))
    exact r_zret hx hb hr hK hP hS hk (by omega) dX8_takeNumber_14 (show P_X8_takeNumber_v σ0 τ0 a1 a2 b N mo q lo hi r19 σ19 τ0 from ⟨hR, hF, hFL, by omega, by first | exact RO.ofk (by unfold numP; rw [if_pos (by omega)]) (by omega) (by omega) (by omega) | exact RO.ofk (by unfold numP; rw [if_neg (by omega), if_pos (by omega)]) (by omega) (by omega) (by omega) | exact RO.ofr (by unfold numP; rw [if_neg (by omega), if_neg (by omega)]) (by omega) ⟨gCT, by show _ = nuq b N q; omega⟩, by omega⟩)
theorem in_X10_readInto_10 : ∀ w ∈ u_ws RX10 TX10 5, w ∈ wsX10_readInto := by decide +kernel
theorem in_X10_readInto_8 : ∀ w ∈ u_ws RX8 TX8 15, w ∈ wsX10_readInto := by decide +kernel
theorem lk_X10_readInto_9 : Cond.fieldLink RX10 9 "CuckooShares$ValleyText" "tape" "LCuckooShares$Tape;" ∈ wsX10_readInto := by decide +kernel
abbrev L_X10_readInto_hillR_2 : List Rc := [(1, 1, 12, 14), (1, 1, 7, 10), (76, 83, 2, 2)]
abbrev LL_X10_readInto_hillR_2 : List Rc := [(1, 1, 11, 11)]
def P_X10_readInto_hillR_2 (σ0 : Nat → Nat → Int32) (τ0 : Nat → Nat → Int64) (k1 : Nat) (a2 : Int32) (a3 : Int32) (a4 : Int32) (b : Nat → Int) (N : Nat) (mo : Nat) (q : Nat) (lo : Int) (hi : Int) (r : Int32) (σ : Nat → Nat → Int32) (τ : Nat → Nat → Int64) : Prop := Rg σ ∧ Fr L_X10_readInto_hillR_2 σ0 σ ∧ FrL LL_X10_readInto_hillR_2 τ0 τ ∧ (0 ≤ r.toInt ∧ r.toInt ≤ 1) ∧ (RO r σ (numP b N mo lo hi q) (fun z => CT σ τ b N mo z.1 ∧ (σ k1 2).toInt = z.2)) ∧ (Fr [(1, 1, 7, 14), (k1, k1, 2, 2)] σ0 σ) ∧ (r.toInt = 0 ∨ (σ 1 13).toInt = (σ0 1 13).toInt)
set_option maxHeartbeats 4000000 in
theorem c_X10_readInto_hillR_2 (l : Launch) (D : va_G) (cA : Nat → ClassId) (ad : Nat → Nat) (hI : Inj ad) (σ0 : Nat → Nat → Int32) (τ0 : Nat → Nat → Int64) (hR : Rg σ0) (k1 : Nat) (a2 : Int32) (a3 : Int32) (a4 : Int32) (b : Nat → Int) (N : Nat) (mo : Nat) (q : Nat) (lo : Int) (hi : Int) (hk1 : 76 ≤ k1 ∧ k1 ≤ 83) (ha2 : 2 ≤ a2.toInt ∧ a2.toInt ≤ 2) (ha3 : 0 ≤ a3.toInt ∧ a3.toInt ≤ 0) (ha4 : 9 ≤ a4.toInt ∧ a4.toInt ≤ 9) (hpre0 : a3.toInt = lo) (hpre1 : a4.toInt = hi) (gCT0 : CT σ0 τ0 b N mo q) : Met l yX10_readInto wsX10_readInto ({ frames := 2, cells := 0, slots := 0, locals := 43 } : Room) (WQc D cA ad [.ref (ad 6), .ref (ad k1), .int a2, .int a3, .int a4] σ0 τ0) (va_Qi (fun (r : Int32) (u : SS) => P_X10_readInto_hillR_2 σ0 τ0 k1 a2 a3 a4 b N mo q lo hi r u.1 u.2) (WB D cA ad) (AA ad)) 0 0 (AA ad) := by
  refine Met.ofW (cc := cX10_readInto) (maxL := 5) (ret := (some .boolean)) (by decide) rfl ?_
  intro p e s m args below meth c s₁ B hml hv
  obtain ⟨rfl, hP, hK, hN⟩ := hv
  have C : Cy p s m _ meth c cX10_readInto 5 wsX10_readInto RX10 D cA ad (some .boolean) := ⟨B.exec, B.bytes, hml, findClass_of_methodNamed B.named, atoms_spec (ws := wsX10_readInto) B.pre, hK, B.notSynchronized, B.returns, hI, hN⟩
  have hl := lv_entry ([.ref (ad 6), .ref (ad k1), .int a2, .int a3, .int a4]) (n := 5) (Nat.le_of_ble_eq_true rfl)
  rw [lg_entry_eq]
  generalize (lg_sl ([.ref (ad 6), .ref (ad k1), .int a2, .int a3, .int a4]) ++ List.replicate (5 - (lg_sl ([.ref (ad 6), .ref (ad k1), .int a2, .int a3, .int a4])).length) Slot.unset).toArray = ls at hl ⊢
  have hl : lv_has ls 5 [(0, .ref (ad 6)), (1, .ref (ad k1)), (2, .int a2), (3, .int a3), (4, .int a4)] := hl
  have hS : va_S (AA ad) s.heap s.heap [] := va_S.rf
  have hF : Fr L_X10_readInto_hillR_2 σ0 σ0 := Fr.rf
  have hFL : FrL LL_X10_readInto_hillR_2 τ0 τ0 := FrL.rf
  have gCT := gCT0
  obtain ⟨hx, hb, _, hown, hts, _, hk, hr, _, _⟩ := C
  refine lv_iload_n hx hb dX10_readInto_0 rfl (lv_at hl 2 rfl) ?_
  refine r_if_lt (tgt := 23) hx hb dX10_readInto_1 (by decide) (fun c1 => ?_) (fun c1 => ?_)
  · exfalso; omega
  · refine lv_iload_n hx hb dX10_readInto_4 rfl (lv_at hl 2 rfl) ?_
    refine lv_aload_n hx hb dX10_readInto_5 rfl (lv_at hl 1 rfl) ?_
    refine al_hillR (k := k1) hx hb hK hP (by omega) (by omega) dX10_readInto_6 (fun z2 ez2 => ?_)
    refine r_icmp_ge (tgt := 23) hx hb dX10_readInto_7 (by decide) (fun c3 => ?_) (fun c3 => ?_)
    · exfalso; omega
    · refine lv_aload_n hx hb dX10_readInto_10 rfl (lv_at hl 0 rfl) ?_
      refine fg_10_0 (k := 6) hx hb hts in_X10_readInto_10 hown hK hP (by decide) (by decide) (hts _ lk_X10_readInto_9) dX10_readInto_11 ?_
      refine lv_iload_n hx hb dX10_readInto_14 rfl (lv_at hl 3 rfl) ?_
      refine lv_iload hx hb dX10_readInto_15 (lv_at hl 4 rfl) ?_
      refine r_cVi (k := 1) (As := [.int a3, .int a4]) (rest := []) ⟨hx, hb, hml, hown, hts⟩ hK hP hN hS (c_X8_takeNumber_v l D cA ad hI σ0 τ0 hR a3 a4 b N mo _ lo hi (by omega) (by omega) (by omega) (by omega) gCT) (cwV 2 hts gX10_readInto_X8_takeNumber rfl rfl rfl (by decide +kernel) ⟨by decide, by decide⟩) (rv_Tape hK hP (by decide) (by decide)) rfl hl.1 rfl (Nat.le_of_ble_eq_true rfl) dX10_readInto_17 (Nat.zero_le _) (Nat.zero_le _) (fun r4 u4 H4 locs4 hp4 hP hS => ?_)
      obtain ⟨σ4, τ4⟩ := u4
      obtain ⟨hR, f4, fL4, hq4, hp4_0, hp4_1⟩ : P_X8_takeNumber_v σ0 τ0 a3 a4 b N mo _ lo hi r4 σ4 τ4 := hp4
      have o1 := hp4_0
      have ft := f4
      have hP : va_P D vwCl (gw cA ad σ4 τ4) H4 := hP
      have hFL := hFL.step fL4 (by decide)
      have hF := hF.step f4 (by decide)
      refine r_if_ne (tgt := 25) hx hb dX10_readInto_20 (by decide) (fun c5 => ?_) (fun c5 => ?_)
      · replace hp4_1 := hp4_1.resolve_left (by omega)
        obtain ⟨y, e1, gCT, gvl⟩ := o1.ye (by omega)
        refine lv_aload_n hx hb dX10_readInto_25 rfl (lv_at hl 1 rfl) ?_
        refine lv_iload_n hx hb dX10_readInto_26 rfl (lv_at hl 2 rfl) ?_
        refine lv_aload_n hx hb dX10_readInto_27 rfl (lv_at hl 0 rfl) ?_
        refine fg_10_0 (k := 6) hx hb hts in_X10_readInto_10 hown hK hP (by decide) (by decide) (hts _ lk_X10_readInto_9) dX10_readInto_28 ?_
        refine fgN_8_12 (k := 1) hx hb hts in_X10_readInto_8 hown hK hP (by decide) (by decide) (hN.use nw_10_93) dX10_readInto_31 ?_
        refine as_hillR (k := k1) (j := 2) hx hb hK hP hI hR hS (by omega) (by omega) (by omega) (by omega) dX10_readInto_34 (fun σ6 H6 locs6 u6 v6 hR hP hS => ?_)
        have uw := u6
        have vw := v6
        have hF := hF.puts u6 2 rfl (by omega) (by omega) (by decide) (by decide)
        have gCT := gCT.ag (Agr.putV u6 (by intro q hq; simp only [Gd_CT, List.mem_cons, List.not_mem_nil, or_false] at hq; rcases hq with rfl | rfl <;> dsimp only [inRc] <;> omega))
        have t7 : (σ6 1 13).toInt = (σ4 1 13).toInt := congrArg Int32.toInt (u6 1 13 (by omega))
        have t8 : (σ6 1 12).toInt = (σ4 1 12).toInt := congrArg Int32.toInt (u6 1 12 (by omega))
        refine r_iconst hx hb dX10_readInto_35 (by decide) (fun z9 ez9 => ?_)
        exact r_zret hx hb hr hK hP hS hk (by omega) dX10_readInto_36 (show P_X10_readInto_hillR_2 σ0 τ0 k1 a2 a3 a4 b N mo q lo hi z9 σ6 τ4 from ⟨hR, hF, hFL, by omega, by first | exact RO.ofr e1 (by omega) ⟨gCT, by omega⟩ | (obtain ⟨f, e1, x1, x2⟩ := o1.no (by omega); exact RO.ofl e1 (by omega) x1 x2), by first | exact Fr.r2b (Fr.r2a ft (by decide)) uw | exact Fr.r2a ft (by decide), by omega⟩)
      · clear hp4_1
        refine r_iconst hx hb dX10_readInto_23 (by decide) (fun z10 ez10 => ?_)
        exact r_zret hx hb hr hK hP hS hk (by omega) dX10_readInto_24 (show P_X10_readInto_hillR_2 σ0 τ0 k1 a2 a3 a4 b N mo q lo hi z10 σ4 τ4 from ⟨hR, hF, hFL, by omega, by first | exact RO.ofr e1 (by omega) ⟨gCT, by omega⟩ | (obtain ⟨f, e1, x1, x2⟩ := o1.no (by omega); exact RO.ofl e1 (by omega) x1 x2), by first | exact Fr.r2b (Fr.r2a ft (by decide)) uw | exact Fr.r2a ft (by decide), by omega⟩)
theorem in_X8_hillHere_8 : ∀ w ∈ u_ws RX8 TX8 15, w ∈ wsX8_hillHere := by decide +kernel
theorem in_X8_hillHere_9 : ∀ w ∈ u_ws RX9 TX9 14, w ∈ wsX8_hillHere := by decide +kernel
theorem lk_X8_hillHere_94 : Cond.fieldLink RX8 94 "CuckooShares$Tape" "name" "J" ∈ wsX8_hillHere := by decide +kernel
abbrev L_X8_hillHere_v : List Rc := [(1, 1, 13, 14)]
abbrev LL_X8_hillHere_v : List Rc := []
def P_X8_hillHere_v (σ0 : Nat → Nat → Int32) (τ0 : Nat → Nat → Int64) (b : Nat → Int) (N : Nat) (mo : Nat) (q : Nat) (h : Nat → Int) (nm : Nat → Int) (r : Int32) (σ : Nat → Nat → Int32) (τ : Nat → Nat → Int64) : Prop := Rg σ ∧ Fr L_X8_hillHere_v σ0 σ ∧ FrL LL_X8_hillHere_v τ0 τ ∧ (-1 ≤ r.toInt ∧ r.toInt ≤ 7) ∧ (RH r σ (lokP b N mo nm (h 0).toNat q) True) ∧ (r.toInt = -1 ∨ (σ 1 13).toInt = (σ0 1 13).toInt) ∧ CT σ τ b N mo q ∧ CN τ b h nm ∧ CS σ h
set_option maxHeartbeats 4000000 in
theorem c_X8_hillHere_v (l : Launch) (D : va_G) (cA : Nat → ClassId) (ad : Nat → Nat) (hI : Inj ad) (σ0 : Nat → Nat → Int32) (τ0 : Nat → Nat → Int64) (hR : Rg σ0) (b : Nat → Int) (N : Nat) (mo : Nat) (q : Nat) (h : Nat → Int) (nm : Nat → Int) (gCT0 : CT σ0 τ0 b N mo q) (gCN0 : CN τ0 b h nm) (gCS0 : CS σ0 h) : Met l yX8_hillHere wsX8_hillHere ({ frames := 2, cells := 0, slots := 0, locals := 42 } : Room) (WQc D cA ad [.ref (ad 1), .ref (ad 3)] σ0 τ0) (va_Qi (fun (r : Int32) (u : SS) => P_X8_hillHere_v σ0 τ0 b N mo q h nm r u.1 u.2) (WB D cA ad) (AA ad)) 0 0 (AA ad) := by
  refine Met.ofW (cc := cX8_hillHere) (maxL := 2) (ret := (some .int)) (by decide) rfl ?_
  intro p e s m args below meth c s₁ B hml hv
  obtain ⟨rfl, hP, hK, hN⟩ := hv
  have C : Cy p s m _ meth c cX8_hillHere 2 wsX8_hillHere RX8 D cA ad (some .int) := ⟨B.exec, B.bytes, hml, findClass_of_methodNamed B.named, atoms_spec (ws := wsX8_hillHere) B.pre, hK, B.notSynchronized, B.returns, hI, hN⟩
  have hl := lv_entry ([.ref (ad 1), .ref (ad 3)]) (n := 2) (Nat.le_of_ble_eq_true rfl)
  rw [lg_entry_eq]
  generalize (lg_sl ([.ref (ad 1), .ref (ad 3)]) ++ List.replicate (2 - (lg_sl ([.ref (ad 1), .ref (ad 3)])).length) Slot.unset).toArray = ls at hl ⊢
  have hl : lv_has ls 2 [(0, .ref (ad 1)), (1, .ref (ad 3))] := hl
  have hS : va_S (AA ad) s.heap s.heap [] := va_S.rf
  have hF : Fr L_X8_hillHere_v σ0 σ0 := Fr.rf
  have hFL : FrL LL_X8_hillHere_v τ0 τ0 := FrL.rf
  have gCT := gCT0
  have gCN := gCN0
  have gCS := gCS0
  obtain ⟨hx, hb, _, hown, hts, _, hk, hr, _, _⟩ := C
  have hcs := gCS
  have hr8 := rg_9_4 hR (k := 3) (by decide) (by decide)
  refine lv_aload_n hx hb dX8_hillHere_0 rfl (lv_at hl 0 rfl) ?_
  refine lv_aload_n hx hb dX8_hillHere_1 rfl (lv_at hl 1 rfl) ?_
  refine lv_aload_n hx hb dX8_hillHere_2 rfl (lv_at hl 0 rfl) ?_
  refine fg_8_11 (k := 1) hx hb hts in_X8_hillHere_8 hown hK hP (by decide) (by decide) (hts _ lk_X8_hillHere_94) dX8_hillHere_3 ?_
  refine lv_aload_n hx hb dX8_hillHere_6 rfl (lv_at hl 1 rfl) ?_
  refine fgN_9_7 (k := 3) hx hb hts in_X8_hillHere_9 hown hK hP (by decide) (by decide) (hN.use nw_8_128) dX8_hillHere_7 ?_
  refine lv_aload_n hx hb dX8_hillHere_10 rfl (lv_at hl 1 rfl) ?_
  refine fgN_9_4 (k := 3) hx hb hts in_X8_hillHere_9 hown hK hP (by decide) (by decide) (hN.use nw_8_133) dX8_hillHere_11 ?_
  have hr1 := rg_9_4 hR (k := 3) (by decide) (by decide)
  refine r_cVi (k := 3) (As := [.long (τ0 1 11), .ref (ad 41), .int (σ0 3 4)]) (rest := [.ref (ad 1)]) ⟨hx, hb, hml, hown, hts⟩ hK hP hN hS (c_X9_numberOf l D cA ad hI σ0 τ0 hR 3 (τ0 1 11) 41 (σ0 3 4) ⟨by omega, by omega⟩ ⟨by omega, by omega⟩ (by omega)) (cwV 3 hts gX8_hillHere_X9_numberOf rfl rfl rfl (by decide +kernel) ⟨by decide, by decide⟩) (rv_Valley hK hP (by decide) (by decide)) rfl hl.1 rfl (Nat.le_of_ble_eq_true rfl) dX8_hillHere_14 (Nat.zero_le _) (Nat.zero_le _) (fun r2 u2 H2 locs2 hp2 hP hS => ?_)
  obtain ⟨σ2, τ2⟩ := u2
  obtain ⟨hR, f2, fL2, hq2, hp2_0⟩ : P_X9_numberOf σ0 τ0 3 (τ0 1 11) 41 (σ0 3 4) r2 σ2 τ2 := hp2
  have hP : va_P D vwCl (gw cA ad σ2 τ2) H2 := hP
  obtain rfl := FrL.nil fL2
  obtain rfl := Fr.nil f2
  rw [gCS.1] at hp2_0
  refine r_cVi (k := 1) (As := [.int r2]) (rest := []) ⟨hx, hb, hml, hown, hts⟩ hK hP hN hS (c_X8_toldHere_v l D cA ad hI σ0 τ0 hR r2 _ _ _ _ (by omega) gCT) (cwV 1 hts gX8_hillHere_X8_toldHere rfl rfl rfl (by decide +kernel) ⟨by decide, by decide⟩) (rv_Tape hK hP (by decide) (by decide)) rfl hl.1 rfl (Nat.le_of_ble_eq_true rfl) dX8_hillHere_17 (Nat.zero_le _) (Nat.zero_le _) (fun r3 u3 H3 locs3 hp3 hP hS => ?_)
  obtain ⟨σ3, τ3⟩ := u3
  obtain ⟨hR, f3, fL3, hq3, hp3_0, hp3_1, gnCT⟩ : P_X8_toldHere_v σ0 τ0 r2 _ _ _ _ r3 σ3 τ3 := hp3
  have ot := hp3_0
  have hP : va_P D vwCl (gw cA ad σ3 τ3) H3 := hP
  obtain rfl := FrL.nil fL3
  have hF := hF.step f3 (by decide)
  have gCS := gCS.ag (Agr.fr f3 (by decide))
  have gCT := gCT.ag (Agr.fr f3 (by decide))
  have hc := gCS.1
  have hrg := fndq_rg nm (wdq b N q) (h 0).toNat
  have hr9 := rg_9_4 hR (k := 3) (by decide) (by decide)
  exact r_iret hx hb hr hK hP hS hk dX8_hillHere_20 (show P_X8_hillHere_v σ0 τ0 b N mo q h nm r3 σ3 τ0 from ⟨hR, hF, hFL, by omega, by rcases ot with ot | ot | ot <;> first | exact RH.ofk (by unfold lokP; rw [if_pos (by omega)]) (by omega) (by omega) (by omega) | (have hf := CN.f0 gCN (by omega) (gCT.nr (by omega)); exact RH.ofk (by unfold lokP; rw [if_neg (by omega), if_pos (by omega)]) (by omega) (by omega) (by omega)) | (have hf := CN.f0 gCN (by omega) (gCT.nr (by omega)); exact RH.ofr (by unfold lokP; rw [if_neg (by omega), if_neg (by omega)]) (by omega) (by omega) trivial), by omega, gCT, gCN, gCS⟩)
theorem in_X10_readFall_10 : ∀ w ∈ u_ws RX10 TX10 5, w ∈ wsX10_readFall := by decide +kernel
theorem in_X10_readFall_9 : ∀ w ∈ u_ws RX9 TX9 14, w ∈ wsX10_readFall := by decide +kernel
theorem lk_X10_readFall_15 : Cond.fieldLink RX10 15 "CuckooShares$ValleyText" "into" "LCuckooShares$Valley;" ∈ wsX10_readFall := by decide +kernel
theorem lk_X10_readFall_31 : Cond.fieldLink RX10 31 "CuckooShares$ValleyText" "fallsTold" "I" ∈ wsX10_readFall := by decide +kernel
theorem lk_X10_readFall_9 : Cond.fieldLink RX10 9 "CuckooShares$ValleyText" "tape" "LCuckooShares$Tape;" ∈ wsX10_readFall := by decide +kernel
abbrev L_X10_readFall : List Rc := [(1, 1, 7, 10), (6, 6, 4, 4), (1, 1, 12, 14), (76, 83, 2, 2)]
abbrev LL_X10_readFall : List Rc := [(1, 1, 11, 11)]
def P_X10_readFall (σ0 : Nat → Nat → Int32) (τ0 : Nat → Nat → Int64) (b : Nat → Int) (N : Nat) (mo : Nat) (q : Nat) (h : Nat → Int) (nm : Nat → Int) (r : Int32) (σ : Nat → Nat → Int32) (τ : Nat → Nat → Int64) : Prop := Rg σ ∧ Fr L_X10_readFall σ0 σ ∧ FrL LL_X10_readFall τ0 τ ∧ (0 ≤ r.toInt ∧ r.toInt ≤ 1) ∧ (RO r σ (falP b N mo (q, h, nm, σ0 6 3, σ0 6 4)) (CR σ τ b N mo)) ∧ (r.toInt = 0 ∨ (σ 1 13).toInt = (σ0 1 13).toInt)
set_option maxHeartbeats 4000000 in
theorem c_X10_readFall (l : Launch) (D : va_G) (cA : Nat → ClassId) (ad : Nat → Nat) (hI : Inj ad) (σ0 : Nat → Nat → Int32) (τ0 : Nat → Nat → Int64) (hR : Rg σ0) (b : Nat → Int) (N : Nat) (mo : Nat) (q : Nat) (h : Nat → Int) (nm : Nat → Int) (gCT0 : CT σ0 τ0 b N mo q) (gCN0 : CN τ0 b h nm) (gCS0 : CS σ0 h) (gCM0 : CM σ0 h) (gCF0 : CF σ0 h) : Met l yX10_readFall wsX10_readFall ({ frames := 3, cells := 0, slots := 0, locals := 67 } : Room) (WQc D cA ad [.ref (ad 6)] σ0 τ0) (va_Qi (fun (r : Int32) (u : SS) => P_X10_readFall σ0 τ0 b N mo q h nm r u.1 u.2) (WB D cA ad) (AA ad)) 0 0 (AA ad) := by
  refine Met.ofW (cc := cX10_readFall) (maxL := 2) (ret := (some .boolean)) (by decide) rfl ?_
  intro p e s m args below meth c s₁ B hml hv
  obtain ⟨rfl, hP, hK, hN⟩ := hv
  have C : Cy p s m _ meth c cX10_readFall 2 wsX10_readFall RX10 D cA ad (some .boolean) := ⟨B.exec, B.bytes, hml, findClass_of_methodNamed B.named, atoms_spec (ws := wsX10_readFall) B.pre, hK, B.notSynchronized, B.returns, hI, hN⟩
  have hl := lv_entry ([.ref (ad 6)]) (n := 2) (Nat.le_of_ble_eq_true rfl)
  rw [lg_entry_eq]
  generalize (lg_sl ([.ref (ad 6)]) ++ List.replicate (2 - (lg_sl ([.ref (ad 6)])).length) Slot.unset).toArray = ls at hl ⊢
  have hl : lv_has ls 2 [(0, .ref (ad 6))] := hl
  have hS : va_S (AA ad) s.heap s.heap [] := va_S.rf
  have hF : Fr L_X10_readFall σ0 σ0 := Fr.rf
  have hFL : FrL LL_X10_readFall τ0 τ0 := FrL.rf
  have gCT := gCT0
  have gCN := gCN0
  have gCS := gCS0
  have gCM := gCM0
  have gCF := gCF0
  obtain ⟨hx, hb, _, hown, hts, _, hk, hr, _, _⟩ := C
  refine lv_aload_n hx hb dX10_readFall_0 rfl (lv_at hl 0 rfl) ?_
  refine fg_10_0 (k := 6) hx hb hts in_X10_readFall_10 hown hK hP (by decide) (by decide) (hts _ lk_X10_readFall_9) dX10_readFall_1 ?_
  refine r_cVv (k := 1) (As := []) (rest := []) ⟨hx, hb, hml, hown, hts⟩ hK hP hN hS (c_X8_next_v l D cA ad hI σ0 τ0 hR _ _ _ _ gCT) (cwV 0 hts gX10_readFall_X8_next rfl rfl rfl (by decide +kernel) ⟨by decide, by decide⟩) (rv_Tape hK hP (by decide) (by decide)) rfl hl.1 rfl (Nat.le_of_ble_eq_true rfl) dX10_readFall_4 (Nat.zero_le _) (Nat.zero_le _) (fun u1 H1 locs1 hp1 hP hS => ?_)
  obtain ⟨σ1, τ1⟩ := u1
  obtain ⟨hR, f1, fL1, hp1_0⟩ : P_X8_next_v σ0 τ0 _ _ _ _ σ1 τ1 := hp1
  have fz := f1
  have hP : va_P D vwCl (gw cA ad σ1 τ1) H1 := hP
  have hFL := hFL.step fL1 (by decide)
  have gCN := gCN.agL (AgrL.fr fL1 (by decide))
  have hF := hF.step f1 (by decide)
  have gCF := gCF.ag (Agr.fr f1 (by decide))
  have gCM := gCM.ag (Agr.fr f1 (by decide))
  have gCS := gCS.ag (Agr.fr f1 (by decide))
  have t2 : (σ1 1 13).toInt = (σ0 1 13).toInt := congrArg Int32.toInt (f1.at 1 13 (by decide))
  have gCT := hp1_0
  refine lv_aload_n hx hb dX10_readFall_7 rfl (lv_at hl 0 rfl) ?_
  refine fg_10_0 (k := 6) hx hb hts in_X10_readFall_10 hown hK hP (by decide) (by decide) (hts _ lk_X10_readFall_9) dX10_readFall_8 ?_
  refine lv_aload_n hx hb dX10_readFall_11 rfl (lv_at hl 0 rfl) ?_
  refine fg_10_1 (k := 6) hx hb hts in_X10_readFall_10 hown hK hP (by decide) (by decide) (hts _ lk_X10_readFall_15) dX10_readFall_12 ?_
  refine r_cVi (k := 1) (As := [.ref (ad 3)]) (rest := []) ⟨hx, hb, hml, hown, hts⟩ hK hP hN hS (c_X8_hillHere_v l D cA ad hI σ1 τ1 hR _ _ _ _ _ _ gCT gCN gCS) (cwV 1 hts gX10_readFall_X8_hillHere rfl rfl rfl (by decide +kernel) ⟨by decide, by decide⟩) (rv_Tape hK hP (by decide) (by decide)) rfl hl.1 rfl (Nat.le_of_ble_eq_true rfl) dX10_readFall_15 (Nat.zero_le _) (Nat.zero_le _) (fun r3 u3 H3 locs3 hp3 hP hS => ?_)
  obtain ⟨σ3, τ3⟩ := u3
  obtain ⟨hR, f3, fL3, hq3, hp3_0, hp3_1, gnCT, gnCN, gnCS⟩ : P_X8_hillHere_v σ1 τ1 _ _ _ _ _ _ r3 σ3 τ3 := hp3
  have o1 := hp3_0
  have f0 := f3
  have hP : va_P D vwCl (gw cA ad σ3 τ3) H3 := hP
  obtain rfl := FrL.nil fL3
  have hF := hF.step f3 (by decide)
  have gCF := gCF.ag (Agr.fr f3 (by decide))
  have gCM := gCM.ag (Agr.fr f3 (by decide))
  have gCS := gCS.ag (Agr.fr f3 (by decide))
  have gCT := gCT.ag (Agr.fr f3 (by decide))
  refine lv_istore_n (lv' := [(1, .int r3), (0, .ref (ad 6))]) hx hb dX10_readFall_18 rfl hl (by decide) rfl (fun ls hl => ?_)
  refine lv_iload_n hx hb dX10_readFall_19 rfl (lv_at hl 0 rfl) ?_
  refine r_iconst hx hb dX10_readFall_20 (by decide) (fun z4 ez4 => ?_)
  refine r_icmp_ne (tgt := 26) hx hb dX10_readFall_21 (by decide) (fun c5 => ?_) (fun c5 => ?_)
  · obtain ⟨e1, k0, k7, _⟩ := o1.ye (by omega)
    have hw4 := (f0.at 6 4 (by decide)).trans (fz.at 6 4 (by decide))
    refine lv_aload_n hx hb dX10_readFall_26 rfl (lv_at hl 1 rfl) ?_
    refine fg_10_4 (k := 6) hx hb hts in_X10_readFall_10 hown hK hP (by decide) (by decide) (hts _ lk_X10_readFall_31) dX10_readFall_27 ?_
    refine lv_iload_n hx hb dX10_readFall_30 rfl (lv_at hl 0 rfl) ?_
    refine lv_ishr hx hb dX10_readFall_31 ?_
    refine lv_iconst (v := 1) hx hb dX10_readFall_32 (by decide) ?_
    have kcz6 : (1 : Int32).toInt = 1 := rfl
    refine lv_iand hx hb dX10_readFall_33 ?_
    refine r_iconst hx hb dX10_readFall_34 (by decide) (fun z7 ez7 => ?_)
    refine r_icmp_ne (tgt := 47) hx hb dX10_readFall_35 (by decide) (fun c8 => ?_) (fun c8 => ?_)
    · refine lv_aload_n hx hb dX10_readFall_47 rfl (lv_at hl 1 rfl) ?_
      refine lv_dup hx hb dX10_readFall_48 rfl ?_
      refine fg_10_4 (k := 6) hx hb hts in_X10_readFall_10 hown hK hP (by decide) (by decide) (hts _ lk_X10_readFall_31) dX10_readFall_49 ?_
      refine lv_iconst (v := 1) hx hb dX10_readFall_52 (by decide) ?_
      have kcz9 : (1 : Int32).toInt = 1 := rfl
      refine lv_iload_n hx hb dX10_readFall_53 rfl (lv_at hl 0 rfl) ?_
      refine lv_ishl hx hb dX10_readFall_54 ?_
      refine lv_ior hx hb dX10_readFall_55 ?_
      refine fp_10_4 (k := 6) hx hb hts in_X10_readFall_10 hown hK hP (by decide) (by decide) (hts _ lk_X10_readFall_31) hI hR hS dX10_readFall_56 (fun σ10 H10 locs10 u10 v10 hR hP hS => ?_)
      have us := u10
      have vs := v10
      have hF := hF.puts u10 1 rfl (by decide) (by decide) (by decide) (by decide)
      have gCF := gCF.ag (Agr.put u10 (by decide))
      have gCM := gCM.ag (Agr.put u10 (by decide))
      have gCS := gCS.ag (Agr.put u10 (by decide))
      have gCT := gCT.ag (Agr.put u10 (by decide))
      have t11 : (σ10 1 13).toInt = (σ3 1 13).toInt := congrArg Int32.toInt (u10 1 13 (by omega))
      have hsb := sb_e (k := r3.toInt.toNat) (x := r3) (by omega) (by omega) vs
      refine lv_aload_n hx hb dX10_readFall_59 rfl (lv_at hl 1 rfl) ?_
      refine fg_10_0 (k := 6) hx hb hts in_X10_readFall_10 hown hK hP (by decide) (by decide) (hts _ lk_X10_readFall_9) dX10_readFall_60 ?_
      refine r_cVv (k := 1) (As := []) (rest := []) ⟨hx, hb, hml, hown, hts⟩ hK hP hN hS (c_X8_next_v l D cA ad hI σ10 τ1 hR _ _ _ _ gCT) (cwV 0 hts gX10_readFall_X8_next rfl rfl rfl (by decide +kernel) ⟨by decide, by decide⟩) (rv_Tape hK hP (by decide) (by decide)) rfl hl.1 rfl (Nat.le_of_ble_eq_true rfl) dX10_readFall_63 (Nat.zero_le _) (Nat.zero_le _) (fun u12 H12 locs12 hp12 hP hS => ?_)
      obtain ⟨σ12, τ12⟩ := u12
      obtain ⟨hR, f12, fL12, hp12_0⟩ : P_X8_next_v σ10 τ1 _ _ _ _ σ12 τ12 := hp12
      have f1 := f12
      have hP : va_P D vwCl (gw cA ad σ12 τ12) H12 := hP
      have hFL := hFL.step fL12 (by decide)
      have gCN := gCN.agL (AgrL.fr fL12 (by decide))
      have hF := hF.step f12 (by decide)
      have gCF := gCF.ag (Agr.fr f12 (by decide))
      have gCM := gCM.ag (Agr.fr f12 (by decide))
      have gCS := gCS.ag (Agr.fr f12 (by decide))
      have t13 : (σ12 1 13).toInt = (σ10 1 13).toInt := congrArg Int32.toInt (f12.at 1 13 (by decide))
      have t14 : (σ12 6 4).toInt = (σ10 6 4).toInt := congrArg Int32.toInt (f12.at 6 4 (by decide))
      have gCT := hp12_0
      refine lv_aload_n hx hb dX10_readFall_66 rfl (lv_at hl 1 rfl) ?_
      refine lv_aload_n hx hb dX10_readFall_67 rfl (lv_at hl 1 rfl) ?_
      refine fg_10_1 (k := 6) hx hb hts in_X10_readFall_10 hown hK hP (by decide) (by decide) (hts _ lk_X10_readFall_15) dX10_readFall_68 ?_
      refine fgN_9_9 (k := 3) hx hb hts in_X10_readFall_9 hown hK hP (by decide) (by decide) (hN.use nw_10_126) dX10_readFall_71 ?_
      refine lv_iload_n hx hb dX10_readFall_74 rfl (lv_at hl 0 rfl) ?_
      obtain ⟨j15, ej15⟩ : ∃ j : Nat, r3.toInt = (j : Int) := ⟨_, ti_nat (by omega)⟩
      refine ad_hillA (k := 49) (j := j15) hx hb hK hP (by decide) (by decide) ej15 (by omega) dX10_readFall_75 ?_
      refine r_iconst hx hb dX10_readFall_76 (by decide) (fun z16 ez16 => ?_)
      refine r_iconst hx hb dX10_readFall_77 (by decide) (fun z17 ez17 => ?_)
      refine r_bipush hx hb dX10_readFall_78 (by decide) (fun z18 ez18 => ?_)
      refine r_cVi (k := 6) (As := [.ref (ad (76 + j15)), .int z16, .int z17, .int z18]) (rest := []) ⟨hx, hb, hml, hown, hts⟩ hK hP hN hS (c_X10_readInto_hillR_2 l D cA ad hI σ12 τ12 hR (76 + j15) z16 z17 z18 b N mo _ 0 9 ⟨by omega, by omega⟩ (by omega) (by omega) (by omega) (by omega) (by omega) gCT) (cwV 4 hts gX10_readFall_X10_readInto rfl rfl rfl (by decide +kernel) ⟨by decide, by decide⟩) (rv_VText hK hP (by decide) (by decide)) rfl hl.1 rfl (Nat.le_of_ble_eq_true rfl) dX10_readFall_80 (Nat.zero_le _) (Nat.zero_le _) (fun r19 u19 H19 locs19 hp19 hP hS => ?_)
      obtain ⟨σ19, τ19⟩ := u19
      obtain ⟨hR, f19, fL19, hq19, hp19_0, hp19_1, hp19_2⟩ : P_X10_readInto_hillR_2 σ12 τ12 (76 + j15) z16 z17 z18 b N mo _ 0 9 r19 σ19 τ19 := hp19
      have o2 := hp19_0
      have f2 := f19
      have hP : va_P D vwCl (gw cA ad σ19 τ19) H19 := hP
      have hFL := hFL.step fL19 (by decide)
      have gCN := gCN.agL (AgrL.fr fL19 (by decide))
      have hF := hF.step f19 (by decide)
      have gCF := gCF.ag (Agr.fr f19 (by decide))
      have gCM := gCM.ag (Agr.fr f19 (by decide))
      have gCS := gCS.ag (Agr.fr f19 (by decide))
      have t20 : (σ19 6 4).toInt = (σ12 6 4).toInt := congrArg Int32.toInt (f19.at 6 4 (by decide))
      exact r_zret hx hb hr hK hP hS hk (by omega) dX10_readFall_83 (show P_X10_readFall σ0 τ0 b N mo q h nm r19 σ19 τ19 from ⟨hR, hF, hFL, by omega, by first | (obtain ⟨f, e1, x1, x2⟩ := o1.no (by omega); exact RO.ofl (by unfold falP; dsimp only; rw [e1, bnd_l]) (by omega) x1 x2) | exact RO.ofk (by unfold falP; dsimp only; rw [e1, bnd_r, if_pos (by rw [← hw4]; exact tb_y2 (x := r3) (by omega) (by omega) (by omega))]) (by omega) (by omega) (by omega) | exact o2.r01.elim (fun hc0 => by obtain ⟨f, e2, x1, x2⟩ := o2.no hc0; exact RO.ofl (by unfold falP; dsimp only; rw [e1, bnd_r, if_neg (by rw [← hw4]; exact tb_n2 (x := r3) (by omega) (by omega) (by omega)), e2, bnd_l]) hc0 x1 x2) (fun hc1 => by obtain ⟨y, e2, gCT, gvl⟩ := o2.ye (by omega); exact RO.ofr (by unfold falP; dsimp only; rw [e1, bnd_r, if_neg (by rw [← hw4]; exact tb_n2 (x := r3) (by omega) (by omega) (by omega)), e2, bnd_r]) hc1 (CR.mk gCT (gCN.h (uh_n _ _ (by omega)) (uh_n _ _ (by omega))) (gCS.h (fun j g1 => uh_n _ _ (by omega))) (gCM.h (uh_n _ _ (by omega)) (fun j g1 g2 => uh_n _ _ (by omega))) (gCF.h (uh_n _ _ (by omega)) (fun j g1 => uh_n _ _ (by omega))) (hF.at 6 3 (by decide)) ((f2.at 6 4 (by decide)).trans ((f1.at 6 4 (by decide)).trans (hsb.trans (by rw [hw4])))))), by omega⟩)
    · refine lv_aload_n hx hb dX10_readFall_38 rfl (lv_at hl 1 rfl) ?_
      refine fg_10_0 (k := 6) hx hb hts in_X10_readFall_10 hown hK hP (by decide) (by decide) (hts _ lk_X10_readFall_9) dX10_readFall_39 ?_
      refine r_iconst hx hb dX10_readFall_42 (by decide) (fun z21 ez21 => ?_)
      refine r_cVi (k := 1) (As := [.int z21]) (rest := []) ⟨hx, hb, hml, hown, hts⟩ hK hP hN hS (c_X8_blame_v l D cA ad hI σ3 τ1 hR z21 _ _ _ _ (by omega) gCT) (cwV 1 hts gX10_readFall_X8_blame rfl rfl rfl (by decide +kernel) ⟨by decide, by decide⟩) (rv_Tape hK hP (by decide) (by decide)) rfl hl.1 rfl (Nat.le_of_ble_eq_true rfl) dX10_readFall_43 (Nat.zero_le _) (Nat.zero_le _) (fun r22 u22 H22 locs22 hp22 hP hS => ?_)
      obtain ⟨σ22, τ22⟩ := u22
      obtain ⟨hR, f22, fL22, hq22, hp22_0, hp22_1, hp22_2, gnCT⟩ : P_X8_blame_v σ3 τ1 z21 _ _ _ _ r22 σ22 τ22 := hp22
      have hP : va_P D vwCl (gw cA ad σ22 τ22) H22 := hP
      obtain rfl := FrL.nil fL22
      have hF := hF.step f22 (by decide)
      have gCF := gCF.ag (Agr.fr f22 (by decide))
      have gCM := gCM.ag (Agr.fr f22 (by decide))
      have gCS := gCS.ag (Agr.fr f22 (by decide))
      have gCT := gCT.ag (Agr.fr f22 (by decide))
      have t23 : (σ22 6 4).toInt = (σ3 6 4).toInt := congrArg Int32.toInt (f22.at 6 4 (by decide))
      exact r_zret hx hb hr hK hP hS hk (by omega) dX10_readFall_46 (show P_X10_readFall σ0 τ0 b N mo q h nm r22 σ22 τ1 from ⟨hR, hF, hFL, by omega, by first | (obtain ⟨f, e1, x1, x2⟩ := o1.no (by omega); exact RO.ofl (by unfold falP; dsimp only; rw [e1, bnd_l]) (by omega) x1 x2) | exact RO.ofk (by unfold falP; dsimp only; rw [e1, bnd_r, if_pos (by rw [← hw4]; exact tb_y2 (x := r3) (by omega) (by omega) (by omega))]) (by omega) (by omega) (by omega) | exact o2.r01.elim (fun hc0 => by obtain ⟨f, e2, x1, x2⟩ := o2.no hc0; exact RO.ofl (by unfold falP; dsimp only; rw [e1, bnd_r, if_neg (by rw [← hw4]; exact tb_n2 (x := r3) (by omega) (by omega) (by omega)), e2, bnd_l]) hc0 x1 x2) (fun hc1 => by obtain ⟨y, e2, gCT, gvl⟩ := o2.ye (by omega); exact RO.ofr (by unfold falP; dsimp only; rw [e1, bnd_r, if_neg (by rw [← hw4]; exact tb_n2 (x := r3) (by omega) (by omega) (by omega)), e2, bnd_r]) hc1 (CR.mk gCT (gCN.h (uh_n _ _ (by omega)) (uh_n _ _ (by omega))) (gCS.h (fun j g1 => uh_n _ _ (by omega))) (gCM.h (uh_n _ _ (by omega)) (fun j g1 g2 => uh_n _ _ (by omega))) (gCF.h (uh_n _ _ (by omega)) (fun j g1 => uh_n _ _ (by omega))) (hF.at 6 3 (by decide)) ((f2.at 6 4 (by decide)).trans ((f1.at 6 4 (by decide)).trans (hsb.trans (by rw [hw4])))))), by omega⟩)
  · refine r_iconst hx hb dX10_readFall_24 (by decide) (fun z24 ez24 => ?_)
    exact r_zret hx hb hr hK hP hS hk (by omega) dX10_readFall_25 (show P_X10_readFall σ0 τ0 b N mo q h nm z24 σ3 τ1 from ⟨hR, hF, hFL, by omega, by first | (obtain ⟨f, e1, x1, x2⟩ := o1.no (by omega); exact RO.ofl (by unfold falP; dsimp only; rw [e1, bnd_l]) (by omega) x1 x2) | exact RO.ofk (by unfold falP; dsimp only; rw [e1, bnd_r, if_pos (by rw [← hw4]; exact tb_y2 (x := r3) (by omega) (by omega) (by omega))]) (by omega) (by omega) (by omega) | exact o2.r01.elim (fun hc0 => by obtain ⟨f, e2, x1, x2⟩ := o2.no hc0; exact RO.ofl (by unfold falP; dsimp only; rw [e1, bnd_r, if_neg (by rw [← hw4]; exact tb_n2 (x := r3) (by omega) (by omega) (by omega)), e2, bnd_l]) hc0 x1 x2) (fun hc1 => by obtain ⟨y, e2, gCT, gvl⟩ := o2.ye (by omega); exact RO.ofr (by unfold falP; dsimp only; rw [e1, bnd_r, if_neg (by rw [← hw4]; exact tb_n2 (x := r3) (by omega) (by omega) (by omega)), e2, bnd_r]) hc1 (CR.mk gCT (gCN.h (uh_n _ _ (by omega)) (uh_n _ _ (by omega))) (gCS.h (fun j g1 => uh_n _ _ (by omega))) (gCM.h (uh_n _ _ (by omega)) (fun j g1 g2 => uh_n _ _ (by omega))) (gCF.h (uh_n _ _ (by omega)) (fun j g1 => uh_n _ _ (by omega))) (hF.at 6 3 (by decide)) ((f2.at 6 4 (by decide)).trans ((f1.at 6 4 (by decide)).trans (hsb.trans (by rw [hw4])))))), by omega⟩)
abbrev L_X10_readInto_callR_0 : List Rc := [(1, 1, 12, 14), (1, 1, 7, 10), (188, 227, 0, 0)]
abbrev LL_X10_readInto_callR_0 : List Rc := [(1, 1, 11, 11)]
def P_X10_readInto_callR_0 (σ0 : Nat → Nat → Int32) (τ0 : Nat → Nat → Int64) (k1 : Nat) (a2 : Int32) (a3 : Int32) (a4 : Int32) (b : Nat → Int) (N : Nat) (mo : Nat) (q : Nat) (lo : Int) (hi : Int) (r : Int32) (σ : Nat → Nat → Int32) (τ : Nat → Nat → Int64) : Prop := Rg σ ∧ Fr L_X10_readInto_callR_0 σ0 σ ∧ FrL LL_X10_readInto_callR_0 τ0 τ ∧ (0 ≤ r.toInt ∧ r.toInt ≤ 1) ∧ (RO r σ (numP b N mo lo hi q) (fun z => CT σ τ b N mo z.1 ∧ (σ k1 0).toInt = z.2)) ∧ (Fr [(1, 1, 7, 14), (k1, k1, 0, 0)] σ0 σ) ∧ (r.toInt = 0 ∨ (σ 1 13).toInt = (σ0 1 13).toInt)
set_option maxHeartbeats 4000000 in
theorem c_X10_readInto_callR_0 (l : Launch) (D : va_G) (cA : Nat → ClassId) (ad : Nat → Nat) (hI : Inj ad) (σ0 : Nat → Nat → Int32) (τ0 : Nat → Nat → Int64) (hR : Rg σ0) (k1 : Nat) (a2 : Int32) (a3 : Int32) (a4 : Int32) (b : Nat → Int) (N : Nat) (mo : Nat) (q : Nat) (lo : Int) (hi : Int) (hk1 : 188 ≤ k1 ∧ k1 ≤ 227) (ha2 : 0 ≤ a2.toInt ∧ a2.toInt ≤ 0) (ha3 : 0 ≤ a3.toInt ∧ a3.toInt ≤ 100) (ha4 : 99 ≤ a4.toInt ∧ a4.toInt ≤ 99) (hpre0 : a3.toInt = lo) (hpre1 : a4.toInt = hi) (gCT0 : CT σ0 τ0 b N mo q) : Met l yX10_readInto wsX10_readInto ({ frames := 2, cells := 0, slots := 0, locals := 43 } : Room) (WQc D cA ad [.ref (ad 6), .ref (ad k1), .int a2, .int a3, .int a4] σ0 τ0) (va_Qi (fun (r : Int32) (u : SS) => P_X10_readInto_callR_0 σ0 τ0 k1 a2 a3 a4 b N mo q lo hi r u.1 u.2) (WB D cA ad) (AA ad)) 0 0 (AA ad) := by
  refine Met.ofW (cc := cX10_readInto) (maxL := 5) (ret := (some .boolean)) (by decide) rfl ?_
  intro p e s m args below meth c s₁ B hml hv
  obtain ⟨rfl, hP, hK, hN⟩ := hv
  have C : Cy p s m _ meth c cX10_readInto 5 wsX10_readInto RX10 D cA ad (some .boolean) := ⟨B.exec, B.bytes, hml, findClass_of_methodNamed B.named, atoms_spec (ws := wsX10_readInto) B.pre, hK, B.notSynchronized, B.returns, hI, hN⟩
  have hl := lv_entry ([.ref (ad 6), .ref (ad k1), .int a2, .int a3, .int a4]) (n := 5) (Nat.le_of_ble_eq_true rfl)
  rw [lg_entry_eq]
  generalize (lg_sl ([.ref (ad 6), .ref (ad k1), .int a2, .int a3, .int a4]) ++ List.replicate (5 - (lg_sl ([.ref (ad 6), .ref (ad k1), .int a2, .int a3, .int a4])).length) Slot.unset).toArray = ls at hl ⊢
  have hl : lv_has ls 5 [(0, .ref (ad 6)), (1, .ref (ad k1)), (2, .int a2), (3, .int a3), (4, .int a4)] := hl
  have hS : va_S (AA ad) s.heap s.heap [] := va_S.rf
  have hF : Fr L_X10_readInto_callR_0 σ0 σ0 := Fr.rf
  have hFL : FrL LL_X10_readInto_callR_0 τ0 τ0 := FrL.rf
  have gCT := gCT0
  obtain ⟨hx, hb, _, hown, hts, _, hk, hr, _, _⟩ := C
  refine lv_iload_n hx hb dX10_readInto_0 rfl (lv_at hl 2 rfl) ?_
  refine r_if_lt (tgt := 23) hx hb dX10_readInto_1 (by decide) (fun c1 => ?_) (fun c1 => ?_)
  · exfalso; omega
  · refine lv_iload_n hx hb dX10_readInto_4 rfl (lv_at hl 2 rfl) ?_
    refine lv_aload_n hx hb dX10_readInto_5 rfl (lv_at hl 1 rfl) ?_
    refine al_callR (k := k1) hx hb hK hP (by omega) (by omega) dX10_readInto_6 (fun z2 ez2 => ?_)
    refine r_icmp_ge (tgt := 23) hx hb dX10_readInto_7 (by decide) (fun c3 => ?_) (fun c3 => ?_)
    · exfalso; omega
    · refine lv_aload_n hx hb dX10_readInto_10 rfl (lv_at hl 0 rfl) ?_
      refine fg_10_0 (k := 6) hx hb hts in_X10_readInto_10 hown hK hP (by decide) (by decide) (hts _ lk_X10_readInto_9) dX10_readInto_11 ?_
      refine lv_iload_n hx hb dX10_readInto_14 rfl (lv_at hl 3 rfl) ?_
      refine lv_iload hx hb dX10_readInto_15 (lv_at hl 4 rfl) ?_
      refine r_cVi (k := 1) (As := [.int a3, .int a4]) (rest := []) ⟨hx, hb, hml, hown, hts⟩ hK hP hN hS (c_X8_takeNumber_v l D cA ad hI σ0 τ0 hR a3 a4 b N mo _ lo hi (by omega) (by omega) (by omega) (by omega) gCT) (cwV 2 hts gX10_readInto_X8_takeNumber rfl rfl rfl (by decide +kernel) ⟨by decide, by decide⟩) (rv_Tape hK hP (by decide) (by decide)) rfl hl.1 rfl (Nat.le_of_ble_eq_true rfl) dX10_readInto_17 (Nat.zero_le _) (Nat.zero_le _) (fun r4 u4 H4 locs4 hp4 hP hS => ?_)
      obtain ⟨σ4, τ4⟩ := u4
      obtain ⟨hR, f4, fL4, hq4, hp4_0, hp4_1⟩ : P_X8_takeNumber_v σ0 τ0 a3 a4 b N mo _ lo hi r4 σ4 τ4 := hp4
      have o1 := hp4_0
      have ft := f4
      have hP : va_P D vwCl (gw cA ad σ4 τ4) H4 := hP
      have hFL := hFL.step fL4 (by decide)
      have hF := hF.step f4 (by decide)
      refine r_if_ne (tgt := 25) hx hb dX10_readInto_20 (by decide) (fun c5 => ?_) (fun c5 => ?_)
      · replace hp4_1 := hp4_1.resolve_left (by omega)
        obtain ⟨y, e1, gCT, gvl⟩ := o1.ye (by omega)
        refine lv_aload_n hx hb dX10_readInto_25 rfl (lv_at hl 1 rfl) ?_
        refine lv_iload_n hx hb dX10_readInto_26 rfl (lv_at hl 2 rfl) ?_
        refine lv_aload_n hx hb dX10_readInto_27 rfl (lv_at hl 0 rfl) ?_
        refine fg_10_0 (k := 6) hx hb hts in_X10_readInto_10 hown hK hP (by decide) (by decide) (hts _ lk_X10_readInto_9) dX10_readInto_28 ?_
        refine fgN_8_12 (k := 1) hx hb hts in_X10_readInto_8 hown hK hP (by decide) (by decide) (hN.use nw_10_93) dX10_readInto_31 ?_
        refine as_callR (k := k1) (j := 0) hx hb hK hP hI hR hS (by omega) (by omega) (by omega) (by omega) dX10_readInto_34 (fun σ6 H6 locs6 u6 v6 hR hP hS => ?_)
        have uw := u6
        have vw := v6
        have hF := hF.puts u6 2 rfl (by omega) (by omega) (by decide) (by decide)
        have gCT := gCT.ag (Agr.putV u6 (by intro q hq; simp only [Gd_CT, List.mem_cons, List.not_mem_nil, or_false] at hq; rcases hq with rfl | rfl <;> dsimp only [inRc] <;> omega))
        have t7 : (σ6 1 13).toInt = (σ4 1 13).toInt := congrArg Int32.toInt (u6 1 13 (by omega))
        have t8 : (σ6 1 12).toInt = (σ4 1 12).toInt := congrArg Int32.toInt (u6 1 12 (by omega))
        refine r_iconst hx hb dX10_readInto_35 (by decide) (fun z9 ez9 => ?_)
        exact r_zret hx hb hr hK hP hS hk (by omega) dX10_readInto_36 (show P_X10_readInto_callR_0 σ0 τ0 k1 a2 a3 a4 b N mo q lo hi z9 σ6 τ4 from ⟨hR, hF, hFL, by omega, by first | exact RO.ofr e1 (by omega) ⟨gCT, by omega⟩ | (obtain ⟨f, e1, x1, x2⟩ := o1.no (by omega); exact RO.ofl e1 (by omega) x1 x2), by first | exact Fr.r2b (Fr.r2a ft (by decide)) uw | exact Fr.r2a ft (by decide), by omega⟩)
      · clear hp4_1
        refine r_iconst hx hb dX10_readInto_23 (by decide) (fun z10 ez10 => ?_)
        exact r_zret hx hb hr hK hP hS hk (by omega) dX10_readInto_24 (show P_X10_readInto_callR_0 σ0 τ0 k1 a2 a3 a4 b N mo q lo hi z10 σ4 τ4 from ⟨hR, hF, hFL, by omega, by first | exact RO.ofr e1 (by omega) ⟨gCT, by omega⟩ | (obtain ⟨f, e1, x1, x2⟩ := o1.no (by omega); exact RO.ofl e1 (by omega) x1 x2), by first | exact Fr.r2b (Fr.r2a ft (by decide)) uw | exact Fr.r2a ft (by decide), by omega⟩)
abbrev L_X10_readInto_callR_1 : List Rc := [(1, 1, 12, 14), (1, 1, 7, 10), (188, 227, 1, 1)]
abbrev LL_X10_readInto_callR_1 : List Rc := [(1, 1, 11, 11)]
def P_X10_readInto_callR_1 (σ0 : Nat → Nat → Int32) (τ0 : Nat → Nat → Int64) (k1 : Nat) (a2 : Int32) (a3 : Int32) (a4 : Int32) (b : Nat → Int) (N : Nat) (mo : Nat) (q : Nat) (lo : Int) (hi : Int) (r : Int32) (σ : Nat → Nat → Int32) (τ : Nat → Nat → Int64) : Prop := Rg σ ∧ Fr L_X10_readInto_callR_1 σ0 σ ∧ FrL LL_X10_readInto_callR_1 τ0 τ ∧ (0 ≤ r.toInt ∧ r.toInt ≤ 1) ∧ (RO r σ (numP b N mo lo hi q) (fun z => CT σ τ b N mo z.1 ∧ (σ k1 1).toInt = z.2)) ∧ (Fr [(1, 1, 7, 14), (k1, k1, 1, 1)] σ0 σ) ∧ (r.toInt = 0 ∨ (σ 1 13).toInt = (σ0 1 13).toInt)
set_option maxHeartbeats 4000000 in
theorem c_X10_readInto_callR_1 (l : Launch) (D : va_G) (cA : Nat → ClassId) (ad : Nat → Nat) (hI : Inj ad) (σ0 : Nat → Nat → Int32) (τ0 : Nat → Nat → Int64) (hR : Rg σ0) (k1 : Nat) (a2 : Int32) (a3 : Int32) (a4 : Int32) (b : Nat → Int) (N : Nat) (mo : Nat) (q : Nat) (lo : Int) (hi : Int) (hk1 : 188 ≤ k1 ∧ k1 ≤ 227) (ha2 : 1 ≤ a2.toInt ∧ a2.toInt ≤ 1) (ha3 : 0 ≤ a3.toInt ∧ a3.toInt ≤ 0) (ha4 : 20 ≤ a4.toInt ∧ a4.toInt ≤ 20) (hpre0 : a3.toInt = lo) (hpre1 : a4.toInt = hi) (gCT0 : CT σ0 τ0 b N mo q) : Met l yX10_readInto wsX10_readInto ({ frames := 2, cells := 0, slots := 0, locals := 43 } : Room) (WQc D cA ad [.ref (ad 6), .ref (ad k1), .int a2, .int a3, .int a4] σ0 τ0) (va_Qi (fun (r : Int32) (u : SS) => P_X10_readInto_callR_1 σ0 τ0 k1 a2 a3 a4 b N mo q lo hi r u.1 u.2) (WB D cA ad) (AA ad)) 0 0 (AA ad) := by
  refine Met.ofW (cc := cX10_readInto) (maxL := 5) (ret := (some .boolean)) (by decide) rfl ?_
  intro p e s m args below meth c s₁ B hml hv
  obtain ⟨rfl, hP, hK, hN⟩ := hv
  have C : Cy p s m _ meth c cX10_readInto 5 wsX10_readInto RX10 D cA ad (some .boolean) := ⟨B.exec, B.bytes, hml, findClass_of_methodNamed B.named, atoms_spec (ws := wsX10_readInto) B.pre, hK, B.notSynchronized, B.returns, hI, hN⟩
  have hl := lv_entry ([.ref (ad 6), .ref (ad k1), .int a2, .int a3, .int a4]) (n := 5) (Nat.le_of_ble_eq_true rfl)
  rw [lg_entry_eq]
  generalize (lg_sl ([.ref (ad 6), .ref (ad k1), .int a2, .int a3, .int a4]) ++ List.replicate (5 - (lg_sl ([.ref (ad 6), .ref (ad k1), .int a2, .int a3, .int a4])).length) Slot.unset).toArray = ls at hl ⊢
  have hl : lv_has ls 5 [(0, .ref (ad 6)), (1, .ref (ad k1)), (2, .int a2), (3, .int a3), (4, .int a4)] := hl
  have hS : va_S (AA ad) s.heap s.heap [] := va_S.rf
  have hF : Fr L_X10_readInto_callR_1 σ0 σ0 := Fr.rf
  have hFL : FrL LL_X10_readInto_callR_1 τ0 τ0 := FrL.rf
  have gCT := gCT0
  obtain ⟨hx, hb, _, hown, hts, _, hk, hr, _, _⟩ := C
  refine lv_iload_n hx hb dX10_readInto_0 rfl (lv_at hl 2 rfl) ?_
  refine r_if_lt (tgt := 23) hx hb dX10_readInto_1 (by decide) (fun c1 => ?_) (fun c1 => ?_)
  · exfalso; omega
  · refine lv_iload_n hx hb dX10_readInto_4 rfl (lv_at hl 2 rfl) ?_
    refine lv_aload_n hx hb dX10_readInto_5 rfl (lv_at hl 1 rfl) ?_
    refine al_callR (k := k1) hx hb hK hP (by omega) (by omega) dX10_readInto_6 (fun z2 ez2 => ?_)
    refine r_icmp_ge (tgt := 23) hx hb dX10_readInto_7 (by decide) (fun c3 => ?_) (fun c3 => ?_)
    · exfalso; omega
    · refine lv_aload_n hx hb dX10_readInto_10 rfl (lv_at hl 0 rfl) ?_
      refine fg_10_0 (k := 6) hx hb hts in_X10_readInto_10 hown hK hP (by decide) (by decide) (hts _ lk_X10_readInto_9) dX10_readInto_11 ?_
      refine lv_iload_n hx hb dX10_readInto_14 rfl (lv_at hl 3 rfl) ?_
      refine lv_iload hx hb dX10_readInto_15 (lv_at hl 4 rfl) ?_
      refine r_cVi (k := 1) (As := [.int a3, .int a4]) (rest := []) ⟨hx, hb, hml, hown, hts⟩ hK hP hN hS (c_X8_takeNumber_v l D cA ad hI σ0 τ0 hR a3 a4 b N mo _ lo hi (by omega) (by omega) (by omega) (by omega) gCT) (cwV 2 hts gX10_readInto_X8_takeNumber rfl rfl rfl (by decide +kernel) ⟨by decide, by decide⟩) (rv_Tape hK hP (by decide) (by decide)) rfl hl.1 rfl (Nat.le_of_ble_eq_true rfl) dX10_readInto_17 (Nat.zero_le _) (Nat.zero_le _) (fun r4 u4 H4 locs4 hp4 hP hS => ?_)
      obtain ⟨σ4, τ4⟩ := u4
      obtain ⟨hR, f4, fL4, hq4, hp4_0, hp4_1⟩ : P_X8_takeNumber_v σ0 τ0 a3 a4 b N mo _ lo hi r4 σ4 τ4 := hp4
      have o1 := hp4_0
      have ft := f4
      have hP : va_P D vwCl (gw cA ad σ4 τ4) H4 := hP
      have hFL := hFL.step fL4 (by decide)
      have hF := hF.step f4 (by decide)
      refine r_if_ne (tgt := 25) hx hb dX10_readInto_20 (by decide) (fun c5 => ?_) (fun c5 => ?_)
      · replace hp4_1 := hp4_1.resolve_left (by omega)
        obtain ⟨y, e1, gCT, gvl⟩ := o1.ye (by omega)
        refine lv_aload_n hx hb dX10_readInto_25 rfl (lv_at hl 1 rfl) ?_
        refine lv_iload_n hx hb dX10_readInto_26 rfl (lv_at hl 2 rfl) ?_
        refine lv_aload_n hx hb dX10_readInto_27 rfl (lv_at hl 0 rfl) ?_
        refine fg_10_0 (k := 6) hx hb hts in_X10_readInto_10 hown hK hP (by decide) (by decide) (hts _ lk_X10_readInto_9) dX10_readInto_28 ?_
        refine fgN_8_12 (k := 1) hx hb hts in_X10_readInto_8 hown hK hP (by decide) (by decide) (hN.use nw_10_93) dX10_readInto_31 ?_
        refine as_callR (k := k1) (j := 1) hx hb hK hP hI hR hS (by omega) (by omega) (by omega) (by omega) dX10_readInto_34 (fun σ6 H6 locs6 u6 v6 hR hP hS => ?_)
        have uw := u6
        have vw := v6
        have hF := hF.puts u6 2 rfl (by omega) (by omega) (by decide) (by decide)
        have gCT := gCT.ag (Agr.putV u6 (by intro q hq; simp only [Gd_CT, List.mem_cons, List.not_mem_nil, or_false] at hq; rcases hq with rfl | rfl <;> dsimp only [inRc] <;> omega))
        have t7 : (σ6 1 13).toInt = (σ4 1 13).toInt := congrArg Int32.toInt (u6 1 13 (by omega))
        have t8 : (σ6 1 12).toInt = (σ4 1 12).toInt := congrArg Int32.toInt (u6 1 12 (by omega))
        refine r_iconst hx hb dX10_readInto_35 (by decide) (fun z9 ez9 => ?_)
        exact r_zret hx hb hr hK hP hS hk (by omega) dX10_readInto_36 (show P_X10_readInto_callR_1 σ0 τ0 k1 a2 a3 a4 b N mo q lo hi z9 σ6 τ4 from ⟨hR, hF, hFL, by omega, by first | exact RO.ofr e1 (by omega) ⟨gCT, by omega⟩ | (obtain ⟨f, e1, x1, x2⟩ := o1.no (by omega); exact RO.ofl e1 (by omega) x1 x2), by first | exact Fr.r2b (Fr.r2a ft (by decide)) uw | exact Fr.r2a ft (by decide), by omega⟩)
      · clear hp4_1
        refine r_iconst hx hb dX10_readInto_23 (by decide) (fun z10 ez10 => ?_)
        exact r_zret hx hb hr hK hP hS hk (by omega) dX10_readInto_24 (show P_X10_readInto_callR_1 σ0 τ0 k1 a2 a3 a4 b N mo q lo hi z10 σ4 τ4 from ⟨hR, hF, hFL, by omega, by first | exact RO.ofr e1 (by omega) ⟨gCT, by omega⟩ | (obtain ⟨f, e1, x1, x2⟩ := o1.no (by omega); exact RO.ofl e1 (by omega) x1 x2), by first | exact Fr.r2b (Fr.r2a ft (by decide)) uw | exact Fr.r2a ft (by decide), by omega⟩)
abbrev L_X10_readInto_callR_2 : List Rc := [(1, 1, 12, 14), (1, 1, 7, 10), (188, 227, 2, 2)]
abbrev LL_X10_readInto_callR_2 : List Rc := [(1, 1, 11, 11)]
def P_X10_readInto_callR_2 (σ0 : Nat → Nat → Int32) (τ0 : Nat → Nat → Int64) (k1 : Nat) (a2 : Int32) (a3 : Int32) (a4 : Int32) (b : Nat → Int) (N : Nat) (mo : Nat) (q : Nat) (lo : Int) (hi : Int) (r : Int32) (σ : Nat → Nat → Int32) (τ : Nat → Nat → Int64) : Prop := Rg σ ∧ Fr L_X10_readInto_callR_2 σ0 σ ∧ FrL LL_X10_readInto_callR_2 τ0 τ ∧ (0 ≤ r.toInt ∧ r.toInt ≤ 1) ∧ (RO r σ (numP b N mo lo hi q) (fun z => CT σ τ b N mo z.1 ∧ (σ k1 2).toInt = z.2)) ∧ (Fr [(1, 1, 7, 14), (k1, k1, 2, 2)] σ0 σ) ∧ (r.toInt = 0 ∨ (σ 1 13).toInt = (σ0 1 13).toInt)
set_option maxHeartbeats 4000000 in
theorem c_X10_readInto_callR_2 (l : Launch) (D : va_G) (cA : Nat → ClassId) (ad : Nat → Nat) (hI : Inj ad) (σ0 : Nat → Nat → Int32) (τ0 : Nat → Nat → Int64) (hR : Rg σ0) (k1 : Nat) (a2 : Int32) (a3 : Int32) (a4 : Int32) (b : Nat → Int) (N : Nat) (mo : Nat) (q : Nat) (lo : Int) (hi : Int) (hk1 : 188 ≤ k1 ∧ k1 ≤ 227) (ha2 : 2 ≤ a2.toInt ∧ a2.toInt ≤ 2) (ha3 : 0 ≤ a3.toInt ∧ a3.toInt ≤ 0) (ha4 : 20 ≤ a4.toInt ∧ a4.toInt ≤ 20) (hpre0 : a3.toInt = lo) (hpre1 : a4.toInt = hi) (gCT0 : CT σ0 τ0 b N mo q) : Met l yX10_readInto wsX10_readInto ({ frames := 2, cells := 0, slots := 0, locals := 43 } : Room) (WQc D cA ad [.ref (ad 6), .ref (ad k1), .int a2, .int a3, .int a4] σ0 τ0) (va_Qi (fun (r : Int32) (u : SS) => P_X10_readInto_callR_2 σ0 τ0 k1 a2 a3 a4 b N mo q lo hi r u.1 u.2) (WB D cA ad) (AA ad)) 0 0 (AA ad) := by
  refine Met.ofW (cc := cX10_readInto) (maxL := 5) (ret := (some .boolean)) (by decide) rfl ?_
  intro p e s m args below meth c s₁ B hml hv
  obtain ⟨rfl, hP, hK, hN⟩ := hv
  have C : Cy p s m _ meth c cX10_readInto 5 wsX10_readInto RX10 D cA ad (some .boolean) := ⟨B.exec, B.bytes, hml, findClass_of_methodNamed B.named, atoms_spec (ws := wsX10_readInto) B.pre, hK, B.notSynchronized, B.returns, hI, hN⟩
  have hl := lv_entry ([.ref (ad 6), .ref (ad k1), .int a2, .int a3, .int a4]) (n := 5) (Nat.le_of_ble_eq_true rfl)
  rw [lg_entry_eq]
  generalize (lg_sl ([.ref (ad 6), .ref (ad k1), .int a2, .int a3, .int a4]) ++ List.replicate (5 - (lg_sl ([.ref (ad 6), .ref (ad k1), .int a2, .int a3, .int a4])).length) Slot.unset).toArray = ls at hl ⊢
  have hl : lv_has ls 5 [(0, .ref (ad 6)), (1, .ref (ad k1)), (2, .int a2), (3, .int a3), (4, .int a4)] := hl
  have hS : va_S (AA ad) s.heap s.heap [] := va_S.rf
  have hF : Fr L_X10_readInto_callR_2 σ0 σ0 := Fr.rf
  have hFL : FrL LL_X10_readInto_callR_2 τ0 τ0 := FrL.rf
  have gCT := gCT0
  obtain ⟨hx, hb, _, hown, hts, _, hk, hr, _, _⟩ := C
  refine lv_iload_n hx hb dX10_readInto_0 rfl (lv_at hl 2 rfl) ?_
  refine r_if_lt (tgt := 23) hx hb dX10_readInto_1 (by decide) (fun c1 => ?_) (fun c1 => ?_)
  · exfalso; omega
  · refine lv_iload_n hx hb dX10_readInto_4 rfl (lv_at hl 2 rfl) ?_
    refine lv_aload_n hx hb dX10_readInto_5 rfl (lv_at hl 1 rfl) ?_
    refine al_callR (k := k1) hx hb hK hP (by omega) (by omega) dX10_readInto_6 (fun z2 ez2 => ?_)
    refine r_icmp_ge (tgt := 23) hx hb dX10_readInto_7 (by decide) (fun c3 => ?_) (fun c3 => ?_)
    · exfalso; omega
    · refine lv_aload_n hx hb dX10_readInto_10 rfl (lv_at hl 0 rfl) ?_
      refine fg_10_0 (k := 6) hx hb hts in_X10_readInto_10 hown hK hP (by decide) (by decide) (hts _ lk_X10_readInto_9) dX10_readInto_11 ?_
      refine lv_iload_n hx hb dX10_readInto_14 rfl (lv_at hl 3 rfl) ?_
      refine lv_iload hx hb dX10_readInto_15 (lv_at hl 4 rfl) ?_
      refine r_cVi (k := 1) (As := [.int a3, .int a4]) (rest := []) ⟨hx, hb, hml, hown, hts⟩ hK hP hN hS (c_X8_takeNumber_v l D cA ad hI σ0 τ0 hR a3 a4 b N mo _ lo hi (by omega) (by omega) (by omega) (by omega) gCT) (cwV 2 hts gX10_readInto_X8_takeNumber rfl rfl rfl (by decide +kernel) ⟨by decide, by decide⟩) (rv_Tape hK hP (by decide) (by decide)) rfl hl.1 rfl (Nat.le_of_ble_eq_true rfl) dX10_readInto_17 (Nat.zero_le _) (Nat.zero_le _) (fun r4 u4 H4 locs4 hp4 hP hS => ?_)
      obtain ⟨σ4, τ4⟩ := u4
      obtain ⟨hR, f4, fL4, hq4, hp4_0, hp4_1⟩ : P_X8_takeNumber_v σ0 τ0 a3 a4 b N mo _ lo hi r4 σ4 τ4 := hp4
      have o1 := hp4_0
      have ft := f4
      have hP : va_P D vwCl (gw cA ad σ4 τ4) H4 := hP
      have hFL := hFL.step fL4 (by decide)
      have hF := hF.step f4 (by decide)
      refine r_if_ne (tgt := 25) hx hb dX10_readInto_20 (by decide) (fun c5 => ?_) (fun c5 => ?_)
      · replace hp4_1 := hp4_1.resolve_left (by omega)
        obtain ⟨y, e1, gCT, gvl⟩ := o1.ye (by omega)
        refine lv_aload_n hx hb dX10_readInto_25 rfl (lv_at hl 1 rfl) ?_
        refine lv_iload_n hx hb dX10_readInto_26 rfl (lv_at hl 2 rfl) ?_
        refine lv_aload_n hx hb dX10_readInto_27 rfl (lv_at hl 0 rfl) ?_
        refine fg_10_0 (k := 6) hx hb hts in_X10_readInto_10 hown hK hP (by decide) (by decide) (hts _ lk_X10_readInto_9) dX10_readInto_28 ?_
        refine fgN_8_12 (k := 1) hx hb hts in_X10_readInto_8 hown hK hP (by decide) (by decide) (hN.use nw_10_93) dX10_readInto_31 ?_
        refine as_callR (k := k1) (j := 2) hx hb hK hP hI hR hS (by omega) (by omega) (by omega) (by omega) dX10_readInto_34 (fun σ6 H6 locs6 u6 v6 hR hP hS => ?_)
        have uw := u6
        have vw := v6
        have hF := hF.puts u6 2 rfl (by omega) (by omega) (by decide) (by decide)
        have gCT := gCT.ag (Agr.putV u6 (by intro q hq; simp only [Gd_CT, List.mem_cons, List.not_mem_nil, or_false] at hq; rcases hq with rfl | rfl <;> dsimp only [inRc] <;> omega))
        have t7 : (σ6 1 13).toInt = (σ4 1 13).toInt := congrArg Int32.toInt (u6 1 13 (by omega))
        have t8 : (σ6 1 12).toInt = (σ4 1 12).toInt := congrArg Int32.toInt (u6 1 12 (by omega))
        refine r_iconst hx hb dX10_readInto_35 (by decide) (fun z9 ez9 => ?_)
        exact r_zret hx hb hr hK hP hS hk (by omega) dX10_readInto_36 (show P_X10_readInto_callR_2 σ0 τ0 k1 a2 a3 a4 b N mo q lo hi z9 σ6 τ4 from ⟨hR, hF, hFL, by omega, by first | exact RO.ofr e1 (by omega) ⟨gCT, by omega⟩ | (obtain ⟨f, e1, x1, x2⟩ := o1.no (by omega); exact RO.ofl e1 (by omega) x1 x2), by first | exact Fr.r2b (Fr.r2a ft (by decide)) uw | exact Fr.r2a ft (by decide), by omega⟩)
      · clear hp4_1
        refine r_iconst hx hb dX10_readInto_23 (by decide) (fun z10 ez10 => ?_)
        exact r_zret hx hb hr hK hP hS hk (by omega) dX10_readInto_24 (show P_X10_readInto_callR_2 σ0 τ0 k1 a2 a3 a4 b N mo q lo hi z10 σ4 τ4 from ⟨hR, hF, hFL, by omega, by first | exact RO.ofr e1 (by omega) ⟨gCT, by omega⟩ | (obtain ⟨f, e1, x1, x2⟩ := o1.no (by omega); exact RO.ofl e1 (by omega) x1 x2), by first | exact Fr.r2b (Fr.r2a ft (by decide)) uw | exact Fr.r2a ft (by decide), by omega⟩)
abbrev L_X10_readInto_flightR_0 : List Rc := [(1, 1, 12, 14), (1, 1, 7, 10), (136, 139, 0, 0)]
abbrev LL_X10_readInto_flightR_0 : List Rc := [(1, 1, 11, 11)]
def P_X10_readInto_flightR_0 (σ0 : Nat → Nat → Int32) (τ0 : Nat → Nat → Int64) (k1 : Nat) (a2 : Int32) (a3 : Int32) (a4 : Int32) (b : Nat → Int) (N : Nat) (mo : Nat) (q : Nat) (lo : Int) (hi : Int) (r : Int32) (σ : Nat → Nat → Int32) (τ : Nat → Nat → Int64) : Prop := Rg σ ∧ Fr L_X10_readInto_flightR_0 σ0 σ ∧ FrL LL_X10_readInto_flightR_0 τ0 τ ∧ (0 ≤ r.toInt ∧ r.toInt ≤ 1) ∧ (RO r σ (numP b N mo lo hi q) (fun z => CT σ τ b N mo z.1 ∧ (σ k1 0).toInt = z.2)) ∧ (Fr [(1, 1, 7, 14), (k1, k1, 0, 0)] σ0 σ) ∧ (r.toInt = 0 ∨ (σ 1 13).toInt = (σ0 1 13).toInt)
set_option maxHeartbeats 4000000 in
theorem c_X10_readInto_flightR_0 (l : Launch) (D : va_G) (cA : Nat → ClassId) (ad : Nat → Nat) (hI : Inj ad) (σ0 : Nat → Nat → Int32) (τ0 : Nat → Nat → Int64) (hR : Rg σ0) (k1 : Nat) (a2 : Int32) (a3 : Int32) (a4 : Int32) (b : Nat → Int) (N : Nat) (mo : Nat) (q : Nat) (lo : Int) (hi : Int) (hk1 : 136 ≤ k1 ∧ k1 ≤ 139) (ha2 : 0 ≤ a2.toInt ∧ a2.toInt ≤ 0) (ha3 : 1 ≤ a3.toInt ∧ a3.toInt ≤ 1) (ha4 : 9 ≤ a4.toInt ∧ a4.toInt ≤ 9) (hpre0 : a3.toInt = lo) (hpre1 : a4.toInt = hi) (gCT0 : CT σ0 τ0 b N mo q) : Met l yX10_readInto wsX10_readInto ({ frames := 2, cells := 0, slots := 0, locals := 43 } : Room) (WQc D cA ad [.ref (ad 6), .ref (ad k1), .int a2, .int a3, .int a4] σ0 τ0) (va_Qi (fun (r : Int32) (u : SS) => P_X10_readInto_flightR_0 σ0 τ0 k1 a2 a3 a4 b N mo q lo hi r u.1 u.2) (WB D cA ad) (AA ad)) 0 0 (AA ad) := by
  refine Met.ofW (cc := cX10_readInto) (maxL := 5) (ret := (some .boolean)) (by decide) rfl ?_
  intro p e s m args below meth c s₁ B hml hv
  obtain ⟨rfl, hP, hK, hN⟩ := hv
  have C : Cy p s m _ meth c cX10_readInto 5 wsX10_readInto RX10 D cA ad (some .boolean) := ⟨B.exec, B.bytes, hml, findClass_of_methodNamed B.named, atoms_spec (ws := wsX10_readInto) B.pre, hK, B.notSynchronized, B.returns, hI, hN⟩
  have hl := lv_entry ([.ref (ad 6), .ref (ad k1), .int a2, .int a3, .int a4]) (n := 5) (Nat.le_of_ble_eq_true rfl)
  rw [lg_entry_eq]
  generalize (lg_sl ([.ref (ad 6), .ref (ad k1), .int a2, .int a3, .int a4]) ++ List.replicate (5 - (lg_sl ([.ref (ad 6), .ref (ad k1), .int a2, .int a3, .int a4])).length) Slot.unset).toArray = ls at hl ⊢
  have hl : lv_has ls 5 [(0, .ref (ad 6)), (1, .ref (ad k1)), (2, .int a2), (3, .int a3), (4, .int a4)] := hl
  have hS : va_S (AA ad) s.heap s.heap [] := va_S.rf
  have hF : Fr L_X10_readInto_flightR_0 σ0 σ0 := Fr.rf
  have hFL : FrL LL_X10_readInto_flightR_0 τ0 τ0 := FrL.rf
  have gCT := gCT0
  obtain ⟨hx, hb, _, hown, hts, _, hk, hr, _, _⟩ := C
  refine lv_iload_n hx hb dX10_readInto_0 rfl (lv_at hl 2 rfl) ?_
  refine r_if_lt (tgt := 23) hx hb dX10_readInto_1 (by decide) (fun c1 => ?_) (fun c1 => ?_)
  · exfalso; omega
  · refine lv_iload_n hx hb dX10_readInto_4 rfl (lv_at hl 2 rfl) ?_
    refine lv_aload_n hx hb dX10_readInto_5 rfl (lv_at hl 1 rfl) ?_
    refine al_flightR (k := k1) hx hb hK hP (by omega) (by omega) dX10_readInto_6 (fun z2 ez2 => ?_)
    refine r_icmp_ge (tgt := 23) hx hb dX10_readInto_7 (by decide) (fun c3 => ?_) (fun c3 => ?_)
    · exfalso; omega
    · refine lv_aload_n hx hb dX10_readInto_10 rfl (lv_at hl 0 rfl) ?_
      refine fg_10_0 (k := 6) hx hb hts in_X10_readInto_10 hown hK hP (by decide) (by decide) (hts _ lk_X10_readInto_9) dX10_readInto_11 ?_
      refine lv_iload_n hx hb dX10_readInto_14 rfl (lv_at hl 3 rfl) ?_
      refine lv_iload hx hb dX10_readInto_15 (lv_at hl 4 rfl) ?_
      refine r_cVi (k := 1) (As := [.int a3, .int a4]) (rest := []) ⟨hx, hb, hml, hown, hts⟩ hK hP hN hS (c_X8_takeNumber_v l D cA ad hI σ0 τ0 hR a3 a4 b N mo _ lo hi (by omega) (by omega) (by omega) (by omega) gCT) (cwV 2 hts gX10_readInto_X8_takeNumber rfl rfl rfl (by decide +kernel) ⟨by decide, by decide⟩) (rv_Tape hK hP (by decide) (by decide)) rfl hl.1 rfl (Nat.le_of_ble_eq_true rfl) dX10_readInto_17 (Nat.zero_le _) (Nat.zero_le _) (fun r4 u4 H4 locs4 hp4 hP hS => ?_)
      obtain ⟨σ4, τ4⟩ := u4
      obtain ⟨hR, f4, fL4, hq4, hp4_0, hp4_1⟩ : P_X8_takeNumber_v σ0 τ0 a3 a4 b N mo _ lo hi r4 σ4 τ4 := hp4
      have o1 := hp4_0
      have ft := f4
      have hP : va_P D vwCl (gw cA ad σ4 τ4) H4 := hP
      have hFL := hFL.step fL4 (by decide)
      have hF := hF.step f4 (by decide)
      refine r_if_ne (tgt := 25) hx hb dX10_readInto_20 (by decide) (fun c5 => ?_) (fun c5 => ?_)
      · replace hp4_1 := hp4_1.resolve_left (by omega)
        obtain ⟨y, e1, gCT, gvl⟩ := o1.ye (by omega)
        refine lv_aload_n hx hb dX10_readInto_25 rfl (lv_at hl 1 rfl) ?_
        refine lv_iload_n hx hb dX10_readInto_26 rfl (lv_at hl 2 rfl) ?_
        refine lv_aload_n hx hb dX10_readInto_27 rfl (lv_at hl 0 rfl) ?_
        refine fg_10_0 (k := 6) hx hb hts in_X10_readInto_10 hown hK hP (by decide) (by decide) (hts _ lk_X10_readInto_9) dX10_readInto_28 ?_
        refine fgN_8_12 (k := 1) hx hb hts in_X10_readInto_8 hown hK hP (by decide) (by decide) (hN.use nw_10_93) dX10_readInto_31 ?_
        refine as_flightR (k := k1) (j := 0) hx hb hK hP hI hR hS (by omega) (by omega) (by omega) (by omega) (rx_flightR_0 (by omega) (by omega) (by decide) (by decide)) dX10_readInto_34 (fun σ6 H6 locs6 u6 v6 hR hP hS => ?_)
        have uw := u6
        have vw := v6
        have hF := hF.puts u6 2 rfl (by omega) (by omega) (by decide) (by decide)
        have gCT := gCT.ag (Agr.putV u6 (by intro q hq; simp only [Gd_CT, List.mem_cons, List.not_mem_nil, or_false] at hq; rcases hq with rfl | rfl <;> dsimp only [inRc] <;> omega))
        have t7 : (σ6 1 13).toInt = (σ4 1 13).toInt := congrArg Int32.toInt (u6 1 13 (by omega))
        have t8 : (σ6 1 12).toInt = (σ4 1 12).toInt := congrArg Int32.toInt (u6 1 12 (by omega))
        refine r_iconst hx hb dX10_readInto_35 (by decide) (fun z9 ez9 => ?_)
        exact r_zret hx hb hr hK hP hS hk (by omega) dX10_readInto_36 (show P_X10_readInto_flightR_0 σ0 τ0 k1 a2 a3 a4 b N mo q lo hi z9 σ6 τ4 from ⟨hR, hF, hFL, by omega, by first | exact RO.ofr e1 (by omega) ⟨gCT, by omega⟩ | (obtain ⟨f, e1, x1, x2⟩ := o1.no (by omega); exact RO.ofl e1 (by omega) x1 x2), by first | exact Fr.r2b (Fr.r2a ft (by decide)) uw | exact Fr.r2a ft (by decide), by omega⟩)
      · clear hp4_1
        refine r_iconst hx hb dX10_readInto_23 (by decide) (fun z10 ez10 => ?_)
        exact r_zret hx hb hr hK hP hS hk (by omega) dX10_readInto_24 (show P_X10_readInto_flightR_0 σ0 τ0 k1 a2 a3 a4 b N mo q lo hi z10 σ4 τ4 from ⟨hR, hF, hFL, by omega, by first | exact RO.ofr e1 (by omega) ⟨gCT, by omega⟩ | (obtain ⟨f, e1, x1, x2⟩ := o1.no (by omega); exact RO.ofl e1 (by omega) x1 x2), by first | exact Fr.r2b (Fr.r2a ft (by decide)) uw | exact Fr.r2a ft (by decide), by omega⟩)
abbrev L_X10_readInto_flightR_1 : List Rc := [(1, 1, 12, 14), (1, 1, 7, 10), (136, 139, 1, 1)]
abbrev LL_X10_readInto_flightR_1 : List Rc := [(1, 1, 11, 11)]
def P_X10_readInto_flightR_1 (σ0 : Nat → Nat → Int32) (τ0 : Nat → Nat → Int64) (k1 : Nat) (a2 : Int32) (a3 : Int32) (a4 : Int32) (b : Nat → Int) (N : Nat) (mo : Nat) (q : Nat) (lo : Int) (hi : Int) (r : Int32) (σ : Nat → Nat → Int32) (τ : Nat → Nat → Int64) : Prop := Rg σ ∧ Fr L_X10_readInto_flightR_1 σ0 σ ∧ FrL LL_X10_readInto_flightR_1 τ0 τ ∧ (0 ≤ r.toInt ∧ r.toInt ≤ 1) ∧ (RO r σ (numP b N mo lo hi q) (fun z => CT σ τ b N mo z.1 ∧ (σ k1 1).toInt = z.2)) ∧ (Fr [(1, 1, 7, 14), (k1, k1, 1, 1)] σ0 σ) ∧ (r.toInt = 0 ∨ (σ 1 13).toInt = (σ0 1 13).toInt)
set_option maxHeartbeats 4000000 in
theorem c_X10_readInto_flightR_1 (l : Launch) (D : va_G) (cA : Nat → ClassId) (ad : Nat → Nat) (hI : Inj ad) (σ0 : Nat → Nat → Int32) (τ0 : Nat → Nat → Int64) (hR : Rg σ0) (k1 : Nat) (a2 : Int32) (a3 : Int32) (a4 : Int32) (b : Nat → Int) (N : Nat) (mo : Nat) (q : Nat) (lo : Int) (hi : Int) (hk1 : 136 ≤ k1 ∧ k1 ≤ 139) (ha2 : 1 ≤ a2.toInt ∧ a2.toInt ≤ 1) (ha3 : 0 ≤ a3.toInt ∧ a3.toInt ≤ 0) (ha4 : 20 ≤ a4.toInt ∧ a4.toInt ≤ 20) (hpre0 : a3.toInt = lo) (hpre1 : a4.toInt = hi) (gCT0 : CT σ0 τ0 b N mo q) : Met l yX10_readInto wsX10_readInto ({ frames := 2, cells := 0, slots := 0, locals := 43 } : Room) (WQc D cA ad [.ref (ad 6), .ref (ad k1), .int a2, .int a3, .int a4] σ0 τ0) (va_Qi (fun (r : Int32) (u : SS) => P_X10_readInto_flightR_1 σ0 τ0 k1 a2 a3 a4 b N mo q lo hi r u.1 u.2) (WB D cA ad) (AA ad)) 0 0 (AA ad) := by
  refine Met.ofW (cc := cX10_readInto) (maxL := 5) (ret := (some .boolean)) (by decide) rfl ?_
  intro p e s m args below meth c s₁ B hml hv
  obtain ⟨rfl, hP, hK, hN⟩ := hv
  have C : Cy p s m _ meth c cX10_readInto 5 wsX10_readInto RX10 D cA ad (some .boolean) := ⟨B.exec, B.bytes, hml, findClass_of_methodNamed B.named, atoms_spec (ws := wsX10_readInto) B.pre, hK, B.notSynchronized, B.returns, hI, hN⟩
  have hl := lv_entry ([.ref (ad 6), .ref (ad k1), .int a2, .int a3, .int a4]) (n := 5) (Nat.le_of_ble_eq_true rfl)
  rw [lg_entry_eq]
  generalize (lg_sl ([.ref (ad 6), .ref (ad k1), .int a2, .int a3, .int a4]) ++ List.replicate (5 - (lg_sl ([.ref (ad 6), .ref (ad k1), .int a2, .int a3, .int a4])).length) Slot.unset).toArray = ls at hl ⊢
  have hl : lv_has ls 5 [(0, .ref (ad 6)), (1, .ref (ad k1)), (2, .int a2), (3, .int a3), (4, .int a4)] := hl
  have hS : va_S (AA ad) s.heap s.heap [] := va_S.rf
  have hF : Fr L_X10_readInto_flightR_1 σ0 σ0 := Fr.rf
  have hFL : FrL LL_X10_readInto_flightR_1 τ0 τ0 := FrL.rf
  have gCT := gCT0
  obtain ⟨hx, hb, _, hown, hts, _, hk, hr, _, _⟩ := C
  refine lv_iload_n hx hb dX10_readInto_0 rfl (lv_at hl 2 rfl) ?_
  refine r_if_lt (tgt := 23) hx hb dX10_readInto_1 (by decide) (fun c1 => ?_) (fun c1 => ?_)
  · exfalso; omega
  · refine lv_iload_n hx hb dX10_readInto_4 rfl (lv_at hl 2 rfl) ?_
    refine lv_aload_n hx hb dX10_readInto_5 rfl (lv_at hl 1 rfl) ?_
    refine al_flightR (k := k1) hx hb hK hP (by omega) (by omega) dX10_readInto_6 (fun z2 ez2 => ?_)
    refine r_icmp_ge (tgt := 23) hx hb dX10_readInto_7 (by decide) (fun c3 => ?_) (fun c3 => ?_)
    · exfalso; omega
    · refine lv_aload_n hx hb dX10_readInto_10 rfl (lv_at hl 0 rfl) ?_
      refine fg_10_0 (k := 6) hx hb hts in_X10_readInto_10 hown hK hP (by decide) (by decide) (hts _ lk_X10_readInto_9) dX10_readInto_11 ?_
      refine lv_iload_n hx hb dX10_readInto_14 rfl (lv_at hl 3 rfl) ?_
      refine lv_iload hx hb dX10_readInto_15 (lv_at hl 4 rfl) ?_
      refine r_cVi (k := 1) (As := [.int a3, .int a4]) (rest := []) ⟨hx, hb, hml, hown, hts⟩ hK hP hN hS (c_X8_takeNumber_v l D cA ad hI σ0 τ0 hR a3 a4 b N mo _ lo hi (by omega) (by omega) (by omega) (by omega) gCT) (cwV 2 hts gX10_readInto_X8_takeNumber rfl rfl rfl (by decide +kernel) ⟨by decide, by decide⟩) (rv_Tape hK hP (by decide) (by decide)) rfl hl.1 rfl (Nat.le_of_ble_eq_true rfl) dX10_readInto_17 (Nat.zero_le _) (Nat.zero_le _) (fun r4 u4 H4 locs4 hp4 hP hS => ?_)
      obtain ⟨σ4, τ4⟩ := u4
      obtain ⟨hR, f4, fL4, hq4, hp4_0, hp4_1⟩ : P_X8_takeNumber_v σ0 τ0 a3 a4 b N mo _ lo hi r4 σ4 τ4 := hp4
      have o1 := hp4_0
      have ft := f4
      have hP : va_P D vwCl (gw cA ad σ4 τ4) H4 := hP
      have hFL := hFL.step fL4 (by decide)
      have hF := hF.step f4 (by decide)
      refine r_if_ne (tgt := 25) hx hb dX10_readInto_20 (by decide) (fun c5 => ?_) (fun c5 => ?_)
      · replace hp4_1 := hp4_1.resolve_left (by omega)
        obtain ⟨y, e1, gCT, gvl⟩ := o1.ye (by omega)
        refine lv_aload_n hx hb dX10_readInto_25 rfl (lv_at hl 1 rfl) ?_
        refine lv_iload_n hx hb dX10_readInto_26 rfl (lv_at hl 2 rfl) ?_
        refine lv_aload_n hx hb dX10_readInto_27 rfl (lv_at hl 0 rfl) ?_
        refine fg_10_0 (k := 6) hx hb hts in_X10_readInto_10 hown hK hP (by decide) (by decide) (hts _ lk_X10_readInto_9) dX10_readInto_28 ?_
        refine fgN_8_12 (k := 1) hx hb hts in_X10_readInto_8 hown hK hP (by decide) (by decide) (hN.use nw_10_93) dX10_readInto_31 ?_
        refine as_flightR (k := k1) (j := 1) hx hb hK hP hI hR hS (by omega) (by omega) (by omega) (by omega) (rx_flightR_0 (by omega) (by omega) (by decide) (by decide)) dX10_readInto_34 (fun σ6 H6 locs6 u6 v6 hR hP hS => ?_)
        have uw := u6
        have vw := v6
        have hF := hF.puts u6 2 rfl (by omega) (by omega) (by decide) (by decide)
        have gCT := gCT.ag (Agr.putV u6 (by intro q hq; simp only [Gd_CT, List.mem_cons, List.not_mem_nil, or_false] at hq; rcases hq with rfl | rfl <;> dsimp only [inRc] <;> omega))
        have t7 : (σ6 1 13).toInt = (σ4 1 13).toInt := congrArg Int32.toInt (u6 1 13 (by omega))
        have t8 : (σ6 1 12).toInt = (σ4 1 12).toInt := congrArg Int32.toInt (u6 1 12 (by omega))
        refine r_iconst hx hb dX10_readInto_35 (by decide) (fun z9 ez9 => ?_)
        exact r_zret hx hb hr hK hP hS hk (by omega) dX10_readInto_36 (show P_X10_readInto_flightR_1 σ0 τ0 k1 a2 a3 a4 b N mo q lo hi z9 σ6 τ4 from ⟨hR, hF, hFL, by omega, by first | exact RO.ofr e1 (by omega) ⟨gCT, by omega⟩ | (obtain ⟨f, e1, x1, x2⟩ := o1.no (by omega); exact RO.ofl e1 (by omega) x1 x2), by first | exact Fr.r2b (Fr.r2a ft (by decide)) uw | exact Fr.r2a ft (by decide), by omega⟩)
      · clear hp4_1
        refine r_iconst hx hb dX10_readInto_23 (by decide) (fun z10 ez10 => ?_)
        exact r_zret hx hb hr hK hP hS hk (by omega) dX10_readInto_24 (show P_X10_readInto_flightR_1 σ0 τ0 k1 a2 a3 a4 b N mo q lo hi z10 σ4 τ4 from ⟨hR, hF, hFL, by omega, by first | exact RO.ofr e1 (by omega) ⟨gCT, by omega⟩ | (obtain ⟨f, e1, x1, x2⟩ := o1.no (by omega); exact RO.ofl e1 (by omega) x1 x2), by first | exact Fr.r2b (Fr.r2a ft (by decide)) uw | exact Fr.r2a ft (by decide), by omega⟩)
theorem in_X9_callRow_9 : ∀ w ∈ u_ws RX9 TX9 14, w ∈ wsX9_callRow := by decide +kernel
theorem lk_X9_callRow_29 : Cond.fieldLink RX9 29 "CuckooShares$Valley" "call" "[[I" ∈ wsX9_callRow := by decide +kernel
abbrev L_X9_callRow_v : List Rc := []
abbrev LL_X9_callRow_v : List Rc := []
def P_X9_callRow_v (ad : Nat → Nat) (σ0 : Nat → Nat → Int32) (τ0 : Nat → Nat → Int64) (a1 : Int32) (a2 : Int32) (r : Nat) (σ : Nat → Nat → Int32) (τ : Nat → Nat → Int64) : Prop := Rg σ ∧ Fr L_X9_callRow_v σ0 σ ∧ FrL LL_X9_callRow_v τ0 τ ∧ (∃ q, r = ad q ∧ 188 ≤ q ∧ q ≤ 227) ∧ (r = ad (188 + (10 * a1.toInt.toNat + a2.toInt.toNat)))
set_option maxHeartbeats 4000000 in
theorem c_X9_callRow_v (l : Launch) (D : va_G) (cA : Nat → ClassId) (ad : Nat → Nat) (hI : Inj ad) (σ0 : Nat → Nat → Int32) (τ0 : Nat → Nat → Int64) (hR : Rg σ0) (a1 : Int32) (a2 : Int32) (ha1 : 0 ≤ a1.toInt ∧ a1.toInt ≤ 3) (ha2 : 0 ≤ a2.toInt ∧ a2.toInt ≤ 9) : Met l yX9_callRow wsX9_callRow ({ frames := 0, cells := 0, slots := 0, locals := 0 } : Room) (WQc D cA ad [.ref (ad 3), .int a1, .int a2] σ0 τ0) (va_Qr (fun _ => True) (fun (u : SS) (a : Nat) (t : State) => P_X9_callRow_v ad σ0 τ0 a1 a2 a u.1 u.2 ∧ WB D cA ad u t) (AA ad)) 0 0 (AA ad) := by
  refine Met.ofW (cc := cX9_callRow) (maxL := 3) (ret := (some (.array .int))) (by decide) rfl ?_
  intro p e s m args below meth c s₁ B hml hv
  obtain ⟨rfl, hP, hK, hN⟩ := hv
  have C : Cy p s m _ meth c cX9_callRow 3 wsX9_callRow RX9 D cA ad (some (.array .int)) := ⟨B.exec, B.bytes, hml, findClass_of_methodNamed B.named, atoms_spec (ws := wsX9_callRow) B.pre, hK, B.notSynchronized, B.returns, hI, hN⟩
  have hl := lv_entry ([.ref (ad 3), .int a1, .int a2]) (n := 3) (Nat.le_of_ble_eq_true rfl)
  rw [lg_entry_eq]
  generalize (lg_sl ([.ref (ad 3), .int a1, .int a2]) ++ List.replicate (3 - (lg_sl ([.ref (ad 3), .int a1, .int a2])).length) Slot.unset).toArray = ls at hl ⊢
  have hl : lv_has ls 3 [(0, .ref (ad 3)), (1, .int a1), (2, .int a2)] := hl
  have hS : va_S (AA ad) s.heap s.heap [] := va_S.rf
  have hF : Fr L_X9_callRow_v σ0 σ0 := Fr.rf
  have hFL : FrL LL_X9_callRow_v τ0 τ0 := FrL.rf
  obtain ⟨hx, hb, _, hown, hts, _, hk, hr, _, _⟩ := C
  refine lv_aload_n hx hb dX9_callRow_0 rfl (lv_at hl 0 rfl) ?_
  refine fg_9_12 (k := 3) hx hb hts in_X9_callRow_9 hown hK hP (by decide) (by decide) (hts _ lk_X9_callRow_29) dX9_callRow_1 ?_
  refine lv_iload_n hx hb dX9_callRow_4 rfl (lv_at hl 1 rfl) ?_
  refine r_bipush hx hb dX9_callRow_5 (by decide) (fun z1 ez1 => ?_)
  refine r_imulR (n := 10) hx hb dX9_callRow_7 (by omega) (by omega) (fun z2 ez2 => ?_)
  refine lv_iload_n hx hb dX9_callRow_8 rfl (lv_at hl 2 rfl) ?_
  refine r_iadd hx hb dX9_callRow_9 (by omega) (fun z3 ez3 => ?_)
  obtain ⟨j4, ej4⟩ : ∃ j : Nat, z3.toInt = (j : Int) := ⟨_, ti_nat (by omega)⟩
  refine ad_callA (k := 61) (j := j4) hx hb hK hP (by decide) (by decide) ej4 (by omega) dX9_callRow_10 ?_
  exact r_aret hx hb hr (Or.inr ⟨_, rfl⟩) hK hP hS hk dX9_callRow_11 (show P_X9_callRow_v ad σ0 τ0 a1 a2 (ad (188 + j4)) σ0 τ0 from ⟨hR, hF, hFL, ⟨_, rfl, by omega, by omega⟩, congrArg ad (by omega)⟩)
theorem in_X10_readFlight_10 : ∀ w ∈ u_ws RX10 TX10 5, w ∈ wsX10_readFlight := by decide +kernel
theorem in_X10_readFlight_8 : ∀ w ∈ u_ws RX8 TX8 15, w ∈ wsX10_readFlight := by decide +kernel
theorem in_X10_readFlight_9 : ∀ w ∈ u_ws RX9 TX9 14, w ∈ wsX10_readFlight := by decide +kernel
theorem lk_X10_readFlight_15 : Cond.fieldLink RX10 15 "CuckooShares$ValleyText" "into" "LCuckooShares$Valley;" ∈ wsX10_readFlight := by decide +kernel
theorem lk_X10_readFlight_9 : Cond.fieldLink RX10 9 "CuckooShares$ValleyText" "tape" "LCuckooShares$Tape;" ∈ wsX10_readFlight := by decide +kernel
abbrev L_X10_readFlight : List Rc := [(3, 3, 6, 6), (1, 1, 7, 10), (1, 1, 12, 14), (136, 139, 0, 2), (188, 227, 0, 2)]
abbrev LL_X10_readFlight : List Rc := [(1, 1, 11, 11)]
def P_X10_readFlight (σ0 : Nat → Nat → Int32) (τ0 : Nat → Nat → Int64) (b : Nat → Int) (N : Nat) (mo : Nat) (q : Nat) (h : Nat → Int) (nm : Nat → Int) (r : Int32) (σ : Nat → Nat → Int32) (τ : Nat → Nat → Int64) : Prop := Rg σ ∧ Fr L_X10_readFlight σ0 σ ∧ FrL LL_X10_readFlight τ0 τ ∧ (0 ≤ r.toInt ∧ r.toInt ≤ 1) ∧ (RO r σ (fliP b N mo (q, h, nm, σ0 6 3, σ0 6 4)) (CR σ τ b N mo)) ∧ (r.toInt = 0 ∨ (σ 1 13).toInt = (σ0 1 13).toInt)
def J_X10_readFlight_87 (p : Program) (l : Launch) (e : Env) (s : State) (m : MethodId) (args : Array Value) (below : List Frame) (meth : Method) (c : Code) (D : va_G) (cA : Nat → ClassId) (ad : Nat → Nat) (σ0 : Nat → Nat → Int32) (τ0 : Nat → Nat → Int64) (b : Nat → Int) (N : Nat) (mo : Nat) (q : Nat) (h : Nat → Int) (nm : Nat → Int) (n : Nat) : Prop := ∀ (σ : Nat → Nat → Int32) (τ : Nat → Nat → Int64) (H : Heap) (locs : List Loc) (x1 : Int32) (p2 : Nat) (x3 : Int32) (x4 : Int32) (q1 : Nat) (hh : Nat → Int) (fu : Nat) (ls : Array Slot), Rg σ → Fr L_X10_readFlight σ0 σ → FrL LL_X10_readFlight τ0 τ → va_P D vwCl (gw cA ad σ τ) H → va_S (AA ad) s.heap H locs → (0 ≤ x1.toInt ∧ x1.toInt ≤ 3) → (136 ≤ p2 ∧ p2 ≤ 139) → (0 ≤ x3.toInt ∧ x3.toInt ≤ 100) → (0 ≤ x4.toInt ∧ x4.toInt ≤ 10) → (1 ≤ (σ 3 6).toInt ∧ (σ 3 6).toInt ≤ 4) → (x1.toInt = h 2) → (p2 = 136 + (h 2).toNat) → (fliP b N mo (q, h, nm, σ0 6 3, σ0 6 4) = bnd (calP b N mo (h 2).toNat fu x4.toInt.toNat x3.toInt q1 hh) (flkP nm (σ0 6 3) (σ0 6 4) (h 2) (h 2).toNat)) → (FI σ h hh (h 2).toNat x4.toInt.toNat) → ((fu : Int) + x4.toInt = 11) → (x4.toInt ≤ 10) → (h 2 < 4) → ((σ 1 13).toInt = (σ0 1 13).toInt) → (CT σ τ b N mo q1) → (CN τ b h nm) → (CS σ (uh h 2 (h 2 + 1))) → (CM σ h) → (CT σ τ b N mo q1) → (CN τ b h nm) → (CS σ (uh h 2 (h 2 + 1))) → (CM σ h) → lv_has ls 6 [(0, .ref (ad 6)), (1, .int x1), (2, .ref (ad p2)), (3, .int x3), (4, .int x4)] → 2 * (10 - x4.toInt) + 1 < (n : Int) → W p l e ({ frames := 3, cells := 0, slots := 0, locals := 67 } : Room) s m args below meth c H locs 0 0 (MQ below (va_Qi (fun (r : Int32) (u : SS) => P_X10_readFlight σ0 τ0 b N mo q h nm r u.1 u.2) (WB D cA ad) (AA ad)) args s 0 0 (AA ad)) (F0 m 87 ls [])
set_option maxHeartbeats 4000000 in
theorem B_X10_readFlight_87 (p : Program) (l : Launch) (e : Env) (s : State) (m : MethodId) (args : Array Value) (below : List Frame) (meth : Method) (c : Code) (D : va_G) (cA : Nat → ClassId) (ad : Nat → Nat) (σ0 : Nat → Nat → Int32) (τ0 : Nat → Nat → Int64) (b : Nat → Int) (N : Nat) (mo : Nat) (q : Nat) (h : Nat → Int) (nm : Nat → Int) (n : Nat) (C : Cy p s m args meth c cX10_readFlight 6 wsX10_readFlight RX10 D cA ad (some .boolean)) (gCT0 : CT σ0 τ0 b N mo q) (gCN0 : CN τ0 b h nm) (gCS0 : CS σ0 h) (gCM0 : CM σ0 h) (gCF0 : CF σ0 h) (K87 : J_X10_readFlight_87 p l e s m args below meth c D cA ad σ0 τ0 b N mo q h nm n) : J_X10_readFlight_87 p l e s m args below meth c D cA ad σ0 τ0 b N mo q h nm (n + 1) := by
  obtain ⟨hx, hb, hml, hown, hts, hK, hk, hr, hI, hN⟩ := C
  intro σ τ H locs x1 p2 x3 x4 q1 hh fu ls hR hF hFL hP hS hc0 hc1 hc2 hc3 hc4 hi0 hi1 hi2 hi3 hi4 hi5 hi6 hi7 gCT gCN gCS gCM gCT gCN gCS gCM hl hm
  have hfc := hi3.2.2.1.2.2
  rw [← hi1] at hfc
  refine lv_iload hx hb dX10_readFlight_87 (lv_at hl 4 rfl) ?_
  refine r_bipush hx hb dX10_readFlight_89 (by decide) (fun z1 ez1 => ?_)
  refine r_icmp_gt (tgt := 195) hx hb dX10_readFlight_91 (by decide) (fun c2 => ?_) (fun c2 => ?_)
  · exfalso; omega
  · have htk := gCT.tk
    refine lv_aload_n hx hb dX10_readFlight_94 rfl (lv_at hl 0 rfl) ?_
    refine fg_10_0 (k := 6) hx hb hts in_X10_readFlight_10 hown hK hP (by decide) (by decide) (hts _ lk_X10_readFlight_9) dX10_readFlight_95 ?_
    refine fgN_8_9 (k := 1) hx hb hts in_X10_readFlight_8 hown hK hP (by decide) (by decide) (hN.use nw_10_34) dX10_readFlight_98 ?_
    refine r_bipush hx hb dX10_readFlight_101 (by decide) (fun z3 ez3 => ?_)
    refine r_icmp_ne (tgt := 195) hx hb dX10_readFlight_103 (by decide) (fun c4 => ?_) (fun c4 => ?_)
    · refine r_iconst hx hb dX10_readFlight_195 (by decide) (fun z5 ez5 => ?_)
      exact r_zret hx hb hr hK hP hS hk (by omega) dX10_readFlight_196 (show P_X10_readFlight σ0 τ0 b N mo q h nm z5 σ τ from ⟨hR, hF, hFL, by omega, by first | exact RO.ofk (by unfold fliP; dsimp only; rw [if_pos (by omega)]) (by omega) (by omega) (by omega) | (obtain ⟨f, e1, x1, x2⟩ := o1.no (by omega); exact RO.ofl (by unfold fliP; dsimp only; rw [if_neg (by omega), e1, bnd_l]) (by omega) x1 x2) | (obtain ⟨f, e2, x1, x2⟩ := o2.no (by omega); exact RO.ofl (by unfold fliP; dsimp only; rw [if_neg (by omega), e1, bnd_r, e2, bnd_l]) (by omega) x1 x2) | exact RO.ofk (by rw [hi2, calP_4 (by omega) (by omega) (by omega), bnd_l]) (by omega) (by omega) (by omega) | exact RO.ofr (by rw [hi2, calP_e (by omega), bnd_r]; rfl) (by omega) (CR.mk gCT (gCN.h (by rw [uh2 (by omega) (by omega)]; exact hi3.2.1 0 (by omega)) (by rw [uh2 (by omega) (by omega)]; exact hi3.2.1 1 (by omega))) (gCS.h (fun j g1 => FI.cs hi3 g1)) (gCM.h (by rw [uh2 (by omega) (by omega)]; exact hi3.2.1 1 (by omega)) (fun j g1 g2 => by rw [uh2 (by omega) (by omega)]; exact hi3.2.1 j (by omega))) (hi3.fin (by omega) (by omega) (by omega)) (hF.at 6 3 (by decide)) (hF.at 6 4 (by decide))) | (obtain ⟨f, e3, x1, x2⟩ := o3.no (by omega); exact RO.ofl (by rw [hi2, calP_s (by omega) (by omega) (by omega), e3]; rfl) (by omega) x1 x2) | (obtain ⟨f, e4, x1, x2⟩ := o4.no (by omega); exact RO.ofl (by rw [hi2, calP_s (by omega) (by omega) (by omega), e3, bnd_r, e4]; rfl) (by omega) x1 x2) | (obtain ⟨f, e5, x1, x2⟩ := o5.no (by omega); exact RO.ofl (by rw [hi2, calP_s (by omega) (by omega) (by omega), e3, bnd_r, e4, bnd_r, e5]; rfl) (by omega) x1 x2), by omega⟩)
    · refine lv_iload hx hb dX10_readFlight_106 (lv_at hl 4 rfl) ?_
      refine r_bipush hx hb dX10_readFlight_108 (by decide) (fun z6 ez6 => ?_)
      refine r_icmp_ne (tgt := 122) hx hb dX10_readFlight_110 (by decide) (fun c7 => ?_) (fun c7 => ?_)
      · refine lv_aload_n hx hb dX10_readFlight_122 rfl (lv_at hl 0 rfl) ?_
        refine fg_10_1 (k := 6) hx hb hts in_X10_readFlight_10 hown hK hP (by decide) (by decide) (hts _ lk_X10_readFlight_15) dX10_readFlight_123 ?_
        refine lv_iload_n hx hb dX10_readFlight_126 rfl (lv_at hl 1 rfl) ?_
        refine lv_iload hx hb dX10_readFlight_127 (lv_at hl 4 rfl) ?_
        refine r_cVr (k := 3) (As := [.int x1, .int x4]) (rest := []) ⟨hx, hb, hml, hown, hts⟩ hK hP hN hS (c_X9_callRow_v l D cA ad hI σ τ hR x1 x4 (by omega) (by omega)) (cwV 2 hts gX10_readFlight_X9_callRow rfl rfl rfl (by decide +kernel) ⟨by decide, by decide⟩) (rv_Valley hK hP (by decide) (by decide)) rfl hl.1 rfl (Nat.le_of_ble_eq_true rfl) dX10_readFlight_129 (Nat.zero_le _) (Nat.zero_le _) (fun r8 u8 H8 locs8 hp8 hP hS => ?_)
        obtain ⟨σ8, τ8⟩ := u8
        obtain ⟨hR, f8, fL8, hq8, hp8_0⟩ : P_X9_callRow_v ad σ τ x1 x4 r8 σ8 τ8 := hp8
        have hcr := hp8_0
        have hP : va_P D vwCl (gw cA ad σ8 τ8) H8 := hP
        obtain rfl := FrL.nil fL8
        obtain rfl := Fr.nil f8
        obtain ⟨q8, rfl, hq8a, hq8b⟩ := hq8
        have hqe := hI _ _ (by omega) (by omega) hcr
        refine lv_astore (lv' := [(5, .ref (ad q8)), (0, .ref (ad 6)), (1, .int x1), (2, .ref (ad p2)), (3, .int x3), (4, .int x4)]) hx hb dX10_readFlight_132 hl (by decide) rfl (fun ls hl => ?_)
        refine lv_aload_n hx hb dX10_readFlight_134 rfl (lv_at hl 1 rfl) ?_
        refine lv_aload hx hb dX10_readFlight_135 (lv_at hl 0 rfl) ?_
        refine r_iconst hx hb dX10_readFlight_137 (by decide) (fun z9 ez9 => ?_)
        refine lv_iload_n hx hb dX10_readFlight_138 rfl (lv_at hl 4 rfl) ?_
        refine r_bipush hx hb dX10_readFlight_139 (by decide) (fun z10 ez10 => ?_)
        refine r_cVi (k := 6) (As := [.ref (ad q8), .int z9, .int x3, .int z10]) (rest := []) ⟨hx, hb, hml, hown, hts⟩ hK hP hN hS (c_X10_readInto_callR_0 l D cA ad hI σ τ hR q8 z9 x3 z10 b N mo _ x3.toInt 99 ⟨by omega, by omega⟩ (by omega) (by omega) (by omega) (by omega) (by omega) gCT) (cwV 4 hts gX10_readFlight_X10_readInto rfl rfl rfl (by decide +kernel) ⟨by decide, by decide⟩) (rv_VText hK hP (by decide) (by decide)) rfl hl.1 rfl (Nat.le_of_ble_eq_true rfl) dX10_readFlight_141 (Nat.zero_le _) (Nat.zero_le _) (fun r11 u11 H11 locs11 hp11 hP hS => ?_)
        obtain ⟨σ11, τ11⟩ := u11
        obtain ⟨hR, f11, fL11, hq11, hp11_0, hp11_1, hp11_2⟩ : P_X10_readInto_callR_0 σ τ q8 z9 x3 z10 b N mo _ x3.toInt 99 r11 σ11 τ11 := hp11
        have o3 := hp11_0
        have s3 := hp11_1
        have hP : va_P D vwCl (gw cA ad σ11 τ11) H11 := hP
        have hFL := hFL.step fL11 (by decide)
        have gCN := gCN.agL (AgrL.fr fL11 (by decide))
        have hF := hF.step f11 (by decide)
        have gCM := gCM.ag (Agr.fr f11 (by decide))
        have gCS := gCS.ag (Agr.fr f11 (by decide))
        have t12 : (σ11 3 6).toInt = (σ 3 6).toInt := congrArg Int32.toInt (f11.at 3 6 (by decide))
        have t13 : (σ11 p2 2).toInt = (σ p2 2).toInt := congrArg Int32.toInt (f11.atV p2 2 (by intro q hq; simp only [L_X10_readInto_callR_0, List.mem_cons, List.not_mem_nil, or_false] at hq; rcases hq with rfl | rfl | rfl <;> dsimp only <;> omega))
        refine r_if_eq (tgt := 173) hx hb dX10_readFlight_144 (by decide) (fun c14 => ?_) (fun c14 => ?_)
        · clear hp11_2
          refine r_iconst hx hb dX10_readFlight_173 (by decide) (fun z15 ez15 => ?_)
          exact r_zret hx hb hr hK hP hS hk (by omega) dX10_readFlight_174 (show P_X10_readFlight σ0 τ0 b N mo q h nm z15 σ11 τ11 from ⟨hR, hF, hFL, by omega, by first | exact RO.ofk (by unfold fliP; dsimp only; rw [if_pos (by omega)]) (by omega) (by omega) (by omega) | (obtain ⟨f, e1, x1, x2⟩ := o1.no (by omega); exact RO.ofl (by unfold fliP; dsimp only; rw [if_neg (by omega), e1, bnd_l]) (by omega) x1 x2) | (obtain ⟨f, e2, x1, x2⟩ := o2.no (by omega); exact RO.ofl (by unfold fliP; dsimp only; rw [if_neg (by omega), e1, bnd_r, e2, bnd_l]) (by omega) x1 x2) | exact RO.ofk (by rw [hi2, calP_4 (by omega) (by omega) (by omega), bnd_l]) (by omega) (by omega) (by omega) | exact RO.ofr (by rw [hi2, calP_e (by omega), bnd_r]; rfl) (by omega) (CR.mk gCT (gCN.h (by rw [uh2 (by omega) (by omega)]; exact hi3.2.1 0 (by omega)) (by rw [uh2 (by omega) (by omega)]; exact hi3.2.1 1 (by omega))) (gCS.h (fun j g1 => FI.cs hi3 g1)) (gCM.h (by rw [uh2 (by omega) (by omega)]; exact hi3.2.1 1 (by omega)) (fun j g1 g2 => by rw [uh2 (by omega) (by omega)]; exact hi3.2.1 j (by omega))) (hi3.fin (by omega) (by omega) (by omega)) (hF.at 6 3 (by decide)) (hF.at 6 4 (by decide))) | (obtain ⟨f, e3, x1, x2⟩ := o3.no (by omega); exact RO.ofl (by rw [hi2, calP_s (by omega) (by omega) (by omega), e3]; rfl) (by omega) x1 x2) | (obtain ⟨f, e4, x1, x2⟩ := o4.no (by omega); exact RO.ofl (by rw [hi2, calP_s (by omega) (by omega) (by omega), e3, bnd_r, e4]; rfl) (by omega) x1 x2) | (obtain ⟨f, e5, x1, x2⟩ := o5.no (by omega); exact RO.ofl (by rw [hi2, calP_s (by omega) (by omega) (by omega), e3, bnd_r, e4, bnd_r, e5]; rfl) (by omega) x1 x2), by omega⟩)
        · replace hp11_2 := hp11_2.resolve_left (by omega)
          obtain ⟨yy, e3, gCT, gvy⟩ := o3.ye (by omega)
          refine lv_aload_n hx hb dX10_readFlight_147 rfl (lv_at hl 1 rfl) ?_
          refine lv_aload hx hb dX10_readFlight_148 (lv_at hl 0 rfl) ?_
          refine r_iconst hx hb dX10_readFlight_150 (by decide) (fun z16 ez16 => ?_)
          refine r_iconst hx hb dX10_readFlight_151 (by decide) (fun z17 ez17 => ?_)
          refine r_bipush hx hb dX10_readFlight_152 (by decide) (fun z18 ez18 => ?_)
          refine r_cVi (k := 6) (As := [.ref (ad q8), .int z16, .int z17, .int z18]) (rest := []) ⟨hx, hb, hml, hown, hts⟩ hK hP hN hS (c_X10_readInto_callR_1 l D cA ad hI σ11 τ11 hR q8 z16 z17 z18 b N mo _ 0 20 ⟨by omega, by omega⟩ (by omega) (by omega) (by omega) (by omega) (by omega) gCT) (cwV 4 hts gX10_readFlight_X10_readInto rfl rfl rfl (by decide +kernel) ⟨by decide, by decide⟩) (rv_VText hK hP (by decide) (by decide)) rfl hl.1 rfl (Nat.le_of_ble_eq_true rfl) dX10_readFlight_154 (Nat.zero_le _) (Nat.zero_le _) (fun r19 u19 H19 locs19 hp19 hP hS => ?_)
          obtain ⟨σ19, τ19⟩ := u19
          obtain ⟨hR, f19, fL19, hq19, hp19_0, hp19_1, hp19_2⟩ : P_X10_readInto_callR_1 σ11 τ11 q8 z16 z17 z18 b N mo _ 0 20 r19 σ19 τ19 := hp19
          have o4 := hp19_0
          have s4 := hp19_1
          have hP : va_P D vwCl (gw cA ad σ19 τ19) H19 := hP
          have hFL := hFL.step fL19 (by decide)
          have gCN := gCN.agL (AgrL.fr fL19 (by decide))
          have hF := hF.step f19 (by decide)
          have gCM := gCM.ag (Agr.fr f19 (by decide))
          have gCS := gCS.ag (Agr.fr f19 (by decide))
          have t20 : (σ19 3 6).toInt = (σ11 3 6).toInt := congrArg Int32.toInt (f19.at 3 6 (by decide))
          have t21 : (σ19 p2 2).toInt = (σ11 p2 2).toInt := congrArg Int32.toInt (f19.atV p2 2 (by intro q hq; simp only [L_X10_readInto_callR_1, List.mem_cons, List.not_mem_nil, or_false] at hq; rcases hq with rfl | rfl | rfl <;> dsimp only <;> omega))
          refine r_if_eq (tgt := 173) hx hb dX10_readFlight_157 (by decide) (fun c22 => ?_) (fun c22 => ?_)
          · clear hp19_2
            refine r_iconst hx hb dX10_readFlight_173 (by decide) (fun z23 ez23 => ?_)
            exact r_zret hx hb hr hK hP hS hk (by omega) dX10_readFlight_174 (show P_X10_readFlight σ0 τ0 b N mo q h nm z23 σ19 τ19 from ⟨hR, hF, hFL, by omega, by first | exact RO.ofk (by unfold fliP; dsimp only; rw [if_pos (by omega)]) (by omega) (by omega) (by omega) | (obtain ⟨f, e1, x1, x2⟩ := o1.no (by omega); exact RO.ofl (by unfold fliP; dsimp only; rw [if_neg (by omega), e1, bnd_l]) (by omega) x1 x2) | (obtain ⟨f, e2, x1, x2⟩ := o2.no (by omega); exact RO.ofl (by unfold fliP; dsimp only; rw [if_neg (by omega), e1, bnd_r, e2, bnd_l]) (by omega) x1 x2) | exact RO.ofk (by rw [hi2, calP_4 (by omega) (by omega) (by omega), bnd_l]) (by omega) (by omega) (by omega) | exact RO.ofr (by rw [hi2, calP_e (by omega), bnd_r]; rfl) (by omega) (CR.mk gCT (gCN.h (by rw [uh2 (by omega) (by omega)]; exact hi3.2.1 0 (by omega)) (by rw [uh2 (by omega) (by omega)]; exact hi3.2.1 1 (by omega))) (gCS.h (fun j g1 => FI.cs hi3 g1)) (gCM.h (by rw [uh2 (by omega) (by omega)]; exact hi3.2.1 1 (by omega)) (fun j g1 g2 => by rw [uh2 (by omega) (by omega)]; exact hi3.2.1 j (by omega))) (hi3.fin (by omega) (by omega) (by omega)) (hF.at 6 3 (by decide)) (hF.at 6 4 (by decide))) | (obtain ⟨f, e3, x1, x2⟩ := o3.no (by omega); exact RO.ofl (by rw [hi2, calP_s (by omega) (by omega) (by omega), e3]; rfl) (by omega) x1 x2) | (obtain ⟨f, e4, x1, x2⟩ := o4.no (by omega); exact RO.ofl (by rw [hi2, calP_s (by omega) (by omega) (by omega), e3, bnd_r, e4]; rfl) (by omega) x1 x2) | (obtain ⟨f, e5, x1, x2⟩ := o5.no (by omega); exact RO.ofl (by rw [hi2, calP_s (by omega) (by omega) (by omega), e3, bnd_r, e4, bnd_r, e5]; rfl) (by omega) x1 x2), by omega⟩)
          · replace hp19_2 := hp19_2.resolve_left (by omega)
            obtain ⟨yx, e4, gCT, gvx⟩ := o4.ye (by omega)
            refine lv_aload_n hx hb dX10_readFlight_160 rfl (lv_at hl 1 rfl) ?_
            refine lv_aload hx hb dX10_readFlight_161 (lv_at hl 0 rfl) ?_
            refine r_iconst hx hb dX10_readFlight_163 (by decide) (fun z24 ez24 => ?_)
            refine r_iconst hx hb dX10_readFlight_164 (by decide) (fun z25 ez25 => ?_)
            refine r_bipush hx hb dX10_readFlight_165 (by decide) (fun z26 ez26 => ?_)
            refine r_cVi (k := 6) (As := [.ref (ad q8), .int z24, .int z25, .int z26]) (rest := []) ⟨hx, hb, hml, hown, hts⟩ hK hP hN hS (c_X10_readInto_callR_2 l D cA ad hI σ19 τ19 hR q8 z24 z25 z26 b N mo _ 0 20 ⟨by omega, by omega⟩ (by omega) (by omega) (by omega) (by omega) (by omega) gCT) (cwV 4 hts gX10_readFlight_X10_readInto rfl rfl rfl (by decide +kernel) ⟨by decide, by decide⟩) (rv_VText hK hP (by decide) (by decide)) rfl hl.1 rfl (Nat.le_of_ble_eq_true rfl) dX10_readFlight_167 (Nat.zero_le _) (Nat.zero_le _) (fun r27 u27 H27 locs27 hp27 hP hS => ?_)
            obtain ⟨σ27, τ27⟩ := u27
            obtain ⟨hR, f27, fL27, hq27, hp27_0, hp27_1, hp27_2⟩ : P_X10_readInto_callR_2 σ19 τ19 q8 z24 z25 z26 b N mo _ 0 20 r27 σ27 τ27 := hp27
            have o5 := hp27_0
            have s5 := hp27_1
            have hP : va_P D vwCl (gw cA ad σ27 τ27) H27 := hP
            have hFL := hFL.step fL27 (by decide)
            have gCN := gCN.agL (AgrL.fr fL27 (by decide))
            have hF := hF.step f27 (by decide)
            have gCM := gCM.ag (Agr.fr f27 (by decide))
            have gCS := gCS.ag (Agr.fr f27 (by decide))
            have t28 : (σ27 3 6).toInt = (σ19 3 6).toInt := congrArg Int32.toInt (f27.at 3 6 (by decide))
            have t29 : (σ27 p2 2).toInt = (σ19 p2 2).toInt := congrArg Int32.toInt (f27.atV p2 2 (by intro q hq; simp only [L_X10_readInto_callR_2, List.mem_cons, List.not_mem_nil, or_false] at hq; rcases hq with rfl | rfl | rfl <;> dsimp only <;> omega))
            refine r_if_ne (tgt := 175) hx hb dX10_readFlight_170 (by decide) (fun c30 => ?_) (fun c30 => ?_)
            · replace hp27_2 := hp27_2.resolve_left (by omega)
              obtain ⟨yw, e5, gCT, gvw⟩ := o5.ye (by omega)
              have hny := num_ok e3
              have hy0 : (σ27 q8 0).toInt = yy.2 := by rw [s5.r2t (by omega) (by omega), s4.r2t (by omega) (by omega)]; exact gvy
              refine lv_aload hx hb dX10_readFlight_175 (lv_at hl 0 rfl) ?_
              refine r_iconst hx hb dX10_readFlight_177 (by decide) (fun z31 ez31 => ?_)
              refine ad_callR (k := q8) (j := 0) hx hb hK hP (by omega) (by omega) (by omega) (by omega) dX10_readFlight_178 ?_
              refine r_iconst hx hb dX10_readFlight_179 (by decide) (fun z32 ez32 => ?_)
              refine r_iadd hx hb dX10_readFlight_180 (by omega) (fun z33 ez33 => ?_)
              refine lv_istore_n (lv' := [(3, .int z33), (5, .ref (ad q8)), (0, .ref (ad 6)), (1, .int x1), (2, .ref (ad p2)), (4, .int x4)]) hx hb dX10_readFlight_181 rfl hl (by decide) rfl (fun ls hl => ?_)
              refine lv_aload_n hx hb dX10_readFlight_182 rfl (lv_at hl 4 rfl) ?_
              refine r_iconst hx hb dX10_readFlight_183 (by decide) (fun z34 ez34 => ?_)
              refine lv_dup2_11 hx hb dX10_readFlight_184 rfl rfl ?_
              refine ad_flightR (k := p2) (j := 2) hx hb hK hP (by omega) (by omega) (by omega) (by omega) dX10_readFlight_185 ?_
              have hr35 := ra_flightR_0 hR (k := p2) (j := 2) (by omega) (by omega) (by decide) (by decide)
              refine r_iconst hx hb dX10_readFlight_186 (by decide) (fun z36 ez36 => ?_)
              refine r_iadd hx hb dX10_readFlight_187 (by omega) (fun z37 ez37 => ?_)
              refine as_flightR (k := p2) (j := 2) hx hb hK hP hI hR hS (by omega) (by omega) (by omega) (by omega) (rw_flightR_0 (by omega) (by omega) (by decide) (by decide) (by omega)) dX10_readFlight_188 (fun σ38 H38 locs38 u38 v38 hR hP hS => ?_)
              have u188 := u38
              have v188 := v38
              have hF := hF.puts u38 3 rfl (by omega) (by omega) (by decide) (by decide)
              have gCM := gCM.ag (Agr.putV u38 (by intro q hq; simp only [Gd_CM, List.mem_cons, List.not_mem_nil, or_false] at hq; rcases hq with rfl <;> dsimp only [inRc] <;> omega))
              have gCS := gCS.ag (Agr.putV u38 (by intro q hq; simp only [Gd_CS, List.mem_cons, List.not_mem_nil, or_false] at hq; rcases hq with rfl | rfl <;> dsimp only [inRc] <;> omega))
              have gCT := gCT.ag (Agr.putV u38 (by intro q hq; simp only [Gd_CT, List.mem_cons, List.not_mem_nil, or_false] at hq; rcases hq with rfl | rfl <;> dsimp only [inRc] <;> omega))
              have t39 : (σ38 3 6).toInt = (σ27 3 6).toInt := congrArg Int32.toInt (u38 3 6 (by omega))
              have t40 : (σ38 1 13).toInt = (σ27 1 13).toInt := congrArg Int32.toInt (u38 1 13 (by omega))
              have t41 : (σ38 q8 0).toInt = (σ27 q8 0).toInt := congrArg Int32.toInt (u38 q8 0 (by omega))
              refine r_iinc (k := 5) (lv1 := fun z42 => [(4, .int z42), (3, .int z33), (5, .ref (ad q8)), (0, .ref (ad 6)), (1, .int x1), (2, .ref (ad p2))]) hx hb dX10_readFlight_189 hl rfl (by decide) (fun _ => rfl) (by decide) (by omega) (fun z42 ls ez42 hl => ?_)
              refine lv_goto (tgt := 87) hx hb dX10_readFlight_192 (by decide) ?_
              exact K87 σ38 τ27 H38 locs38 x1 p2 z33 z42 _ (uh (uh (uh hh (91 + (10 * (h 2).toNat + x4.toInt.toNat)) yy.2) (131 + (10 * (h 2).toNat + x4.toInt.toNat)) yx.2) (171 + (10 * (h 2).toNat + x4.toInt.toNat)) yw.2) (fu - 1) ls hR hF hFL hP hS (by omega) (by omega) (by omega) (by omega) (by omega) (by omega) (by omega) (by first | (rw [fliP_b (by omega) e1 e2]; congr 2 <;> omega) | (rw [hi2, calP_s (by omega) (by omega) (by omega), e3, bnd_r, e4, bnd_r, e5, bnd_r]; congr 2 <;> omega)) (by first | (rw [show z42.toInt.toNat = 0 by omega]; exact FI.beg (p2 := 136 + 0) gCF0 (by omega) (by omega) (by omega) u55 (by omega) s1 gvc s2 gvl) | (rw [show z42.toInt.toNat = x4.toInt.toNat + 1 by omega]; exact FI.step hi3 (by omega) (by omega) (by omega) hi1 (by omega) s3 gvy s4 gvx s5 gvw u188 (by omega))) (by omega) (by omega) (by omega) (by omega) gCT gCN gCS gCM gCT gCN gCS gCM (lv_sub hl [3, 4, 5, 1, 0] rfl) (by omega)
            · clear hp27_2
              refine r_iconst hx hb dX10_readFlight_173 (by decide) (fun z43 ez43 => ?_)
              exact r_zret hx hb hr hK hP hS hk (by omega) dX10_readFlight_174 (show P_X10_readFlight σ0 τ0 b N mo q h nm z43 σ27 τ27 from ⟨hR, hF, hFL, by omega, by first | exact RO.ofk (by unfold fliP; dsimp only; rw [if_pos (by omega)]) (by omega) (by omega) (by omega) | (obtain ⟨f, e1, x1, x2⟩ := o1.no (by omega); exact RO.ofl (by unfold fliP; dsimp only; rw [if_neg (by omega), e1, bnd_l]) (by omega) x1 x2) | (obtain ⟨f, e2, x1, x2⟩ := o2.no (by omega); exact RO.ofl (by unfold fliP; dsimp only; rw [if_neg (by omega), e1, bnd_r, e2, bnd_l]) (by omega) x1 x2) | exact RO.ofk (by rw [hi2, calP_4 (by omega) (by omega) (by omega), bnd_l]) (by omega) (by omega) (by omega) | exact RO.ofr (by rw [hi2, calP_e (by omega), bnd_r]; rfl) (by omega) (CR.mk gCT (gCN.h (by rw [uh2 (by omega) (by omega)]; exact hi3.2.1 0 (by omega)) (by rw [uh2 (by omega) (by omega)]; exact hi3.2.1 1 (by omega))) (gCS.h (fun j g1 => FI.cs hi3 g1)) (gCM.h (by rw [uh2 (by omega) (by omega)]; exact hi3.2.1 1 (by omega)) (fun j g1 g2 => by rw [uh2 (by omega) (by omega)]; exact hi3.2.1 j (by omega))) (hi3.fin (by omega) (by omega) (by omega)) (hF.at 6 3 (by decide)) (hF.at 6 4 (by decide))) | (obtain ⟨f, e3, x1, x2⟩ := o3.no (by omega); exact RO.ofl (by rw [hi2, calP_s (by omega) (by omega) (by omega), e3]; rfl) (by omega) x1 x2) | (obtain ⟨f, e4, x1, x2⟩ := o4.no (by omega); exact RO.ofl (by rw [hi2, calP_s (by omega) (by omega) (by omega), e3, bnd_r, e4]; rfl) (by omega) x1 x2) | (obtain ⟨f, e5, x1, x2⟩ := o5.no (by omega); exact RO.ofl (by rw [hi2, calP_s (by omega) (by omega) (by omega), e3, bnd_r, e4, bnd_r, e5]; rfl) (by omega) x1 x2), by omega⟩)
      · refine lv_aload_n hx hb dX10_readFlight_113 rfl (lv_at hl 0 rfl) ?_
        refine fg_10_0 (k := 6) hx hb hts in_X10_readFlight_10 hown hK hP (by decide) (by decide) (hts _ lk_X10_readFlight_9) dX10_readFlight_114 ?_
        refine r_iconst hx hb dX10_readFlight_117 (by decide) (fun z44 ez44 => ?_)
        refine r_cVi (k := 1) (As := [.int z44]) (rest := []) ⟨hx, hb, hml, hown, hts⟩ hK hP hN hS (c_X8_blame_v l D cA ad hI σ τ hR z44 _ _ _ _ (by omega) gCT) (cwV 1 hts gX10_readFlight_X8_blame rfl rfl rfl (by decide +kernel) ⟨by decide, by decide⟩) (rv_Tape hK hP (by decide) (by decide)) rfl hl.1 rfl (Nat.le_of_ble_eq_true rfl) dX10_readFlight_118 (Nat.zero_le _) (Nat.zero_le _) (fun r45 u45 H45 locs45 hp45 hP hS => ?_)
        obtain ⟨σ45, τ45⟩ := u45
        obtain ⟨hR, f45, fL45, hq45, hp45_0, hp45_1, hp45_2, gnCT⟩ : P_X8_blame_v σ τ z44 _ _ _ _ r45 σ45 τ45 := hp45
        have hP : va_P D vwCl (gw cA ad σ45 τ45) H45 := hP
        obtain rfl := FrL.nil fL45
        have hF := hF.step f45 (by decide)
        have gCM := gCM.ag (Agr.fr f45 (by decide))
        have gCS := gCS.ag (Agr.fr f45 (by decide))
        have gCT := gCT.ag (Agr.fr f45 (by decide))
        have t46 : (σ45 3 6).toInt = (σ 3 6).toInt := congrArg Int32.toInt (f45.at 3 6 (by decide))
        have t47 : (σ45 p2 2).toInt = (σ p2 2).toInt := congrArg Int32.toInt (f45.atV p2 2 (by intro q hq; simp only [L_X8_blame_v, List.mem_cons, List.not_mem_nil, or_false] at hq; rcases hq with rfl <;> dsimp only <;> omega))
        have t48 : (σ45 1 9).toInt = (σ 1 9).toInt := congrArg Int32.toInt (f45.at 1 9 (by decide))
        exact r_zret hx hb hr hK hP hS hk (by omega) dX10_readFlight_121 (show P_X10_readFlight σ0 τ0 b N mo q h nm r45 σ45 τ from ⟨hR, hF, hFL, by omega, by first | exact RO.ofk (by unfold fliP; dsimp only; rw [if_pos (by omega)]) (by omega) (by omega) (by omega) | (obtain ⟨f, e1, x1, x2⟩ := o1.no (by omega); exact RO.ofl (by unfold fliP; dsimp only; rw [if_neg (by omega), e1, bnd_l]) (by omega) x1 x2) | (obtain ⟨f, e2, x1, x2⟩ := o2.no (by omega); exact RO.ofl (by unfold fliP; dsimp only; rw [if_neg (by omega), e1, bnd_r, e2, bnd_l]) (by omega) x1 x2) | exact RO.ofk (by rw [hi2, calP_4 (by omega) (by omega) (by omega), bnd_l]) (by omega) (by omega) (by omega) | exact RO.ofr (by rw [hi2, calP_e (by omega), bnd_r]; rfl) (by omega) (CR.mk gCT (gCN.h (by rw [uh2 (by omega) (by omega)]; exact hi3.2.1 0 (by omega)) (by rw [uh2 (by omega) (by omega)]; exact hi3.2.1 1 (by omega))) (gCS.h (fun j g1 => FI.cs hi3 g1)) (gCM.h (by rw [uh2 (by omega) (by omega)]; exact hi3.2.1 1 (by omega)) (fun j g1 g2 => by rw [uh2 (by omega) (by omega)]; exact hi3.2.1 j (by omega))) (hi3.fin (by omega) (by omega) (by omega)) (hF.at 6 3 (by decide)) (hF.at 6 4 (by decide))) | (obtain ⟨f, e3, x1, x2⟩ := o3.no (by omega); exact RO.ofl (by rw [hi2, calP_s (by omega) (by omega) (by omega), e3]; rfl) (by omega) x1 x2) | (obtain ⟨f, e4, x1, x2⟩ := o4.no (by omega); exact RO.ofl (by rw [hi2, calP_s (by omega) (by omega) (by omega), e3, bnd_r, e4]; rfl) (by omega) x1 x2) | (obtain ⟨f, e5, x1, x2⟩ := o5.no (by omega); exact RO.ofl (by rw [hi2, calP_s (by omega) (by omega) (by omega), e3, bnd_r, e4, bnd_r, e5]; rfl) (by omega) x1 x2), by omega⟩)
theorem A_X10_readFlight (p : Program) (l : Launch) (e : Env) (s : State) (m : MethodId) (args : Array Value) (below : List Frame) (meth : Method) (c : Code) (D : va_G) (cA : Nat → ClassId) (ad : Nat → Nat) (σ0 : Nat → Nat → Int32) (τ0 : Nat → Nat → Int64) (b : Nat → Int) (N : Nat) (mo : Nat) (q : Nat) (h : Nat → Int) (nm : Nat → Int) (C : Cy p s m args meth c cX10_readFlight 6 wsX10_readFlight RX10 D cA ad (some .boolean)) (gCT0 : CT σ0 τ0 b N mo q) (gCN0 : CN τ0 b h nm) (gCS0 : CS σ0 h) (gCM0 : CM σ0 h) (gCF0 : CF σ0 h) : ∀ n : Nat, J_X10_readFlight_87 p l e s m args below meth c D cA ad σ0 τ0 b N mo q h nm n := by
  intro n
  induction n with
  | zero =>
    exact (by intro σ τ H locs x1 p2 x3 x4 q1 hh fu ls hR hF hFL hP hS hc0 hc1 hc2 hc3 hc4 hi0 hi1 hi2 hi3 hi4 hi5 hi6 hi7 gCT gCN gCS gCM gCT gCN gCS gCM hl hm; exfalso; omega)
  | succ n ih =>
    exact B_X10_readFlight_87 p l e s m args below meth c D cA ad σ0 τ0 b N mo q h nm n C gCT0 gCN0 gCS0 gCM0 gCF0 ih
set_option maxHeartbeats 4000000 in
theorem c_X10_readFlight (l : Launch) (D : va_G) (cA : Nat → ClassId) (ad : Nat → Nat) (hI : Inj ad) (σ0 : Nat → Nat → Int32) (τ0 : Nat → Nat → Int64) (hR : Rg σ0) (b : Nat → Int) (N : Nat) (mo : Nat) (q : Nat) (h : Nat → Int) (nm : Nat → Int) (gCT0 : CT σ0 τ0 b N mo q) (gCN0 : CN τ0 b h nm) (gCS0 : CS σ0 h) (gCM0 : CM σ0 h) (gCF0 : CF σ0 h) : Met l yX10_readFlight wsX10_readFlight ({ frames := 3, cells := 0, slots := 0, locals := 67 } : Room) (WQc D cA ad [.ref (ad 6)] σ0 τ0) (va_Qi (fun (r : Int32) (u : SS) => P_X10_readFlight σ0 τ0 b N mo q h nm r u.1 u.2) (WB D cA ad) (AA ad)) 0 0 (AA ad) := by
  refine Met.ofW (cc := cX10_readFlight) (maxL := 6) (ret := (some .boolean)) (by decide) rfl ?_
  intro p e s m args below meth c s₁ B hml hv
  obtain ⟨rfl, hP, hK, hN⟩ := hv
  have C : Cy p s m _ meth c cX10_readFlight 6 wsX10_readFlight RX10 D cA ad (some .boolean) := ⟨B.exec, B.bytes, hml, findClass_of_methodNamed B.named, atoms_spec (ws := wsX10_readFlight) B.pre, hK, B.notSynchronized, B.returns, hI, hN⟩
  have hl := lv_entry ([.ref (ad 6)]) (n := 6) (Nat.le_of_ble_eq_true rfl)
  rw [lg_entry_eq]
  generalize (lg_sl ([.ref (ad 6)]) ++ List.replicate (6 - (lg_sl ([.ref (ad 6)])).length) Slot.unset).toArray = ls at hl ⊢
  have hl : lv_has ls 6 [(0, .ref (ad 6))] := hl
  have hS : va_S (AA ad) s.heap s.heap [] := va_S.rf
  have hF : Fr L_X10_readFlight σ0 σ0 := Fr.rf
  have hFL : FrL LL_X10_readFlight τ0 τ0 := FrL.rf
  have gCT := gCT0
  have gCN := gCN0
  have gCS := gCS0
  have gCM := gCM0
  have gCF := gCF0
  have hA := A_X10_readFlight p l e s m _ below meth c D cA ad σ0 τ0 b N mo q h nm C gCT0 gCN0 gCS0 gCM0 gCF0 50
  have K87 := hA
  clear hA
  obtain ⟨hx, hb, _, hown, hts, _, hk, hr, _, _⟩ := C
  have hcs := gCS.2.2.1
  refine lv_aload_n hx hb dX10_readFlight_0 rfl (lv_at hl 0 rfl) ?_
  refine fg_10_1 (k := 6) hx hb hts in_X10_readFlight_10 hown hK hP (by decide) (by decide) (hts _ lk_X10_readFlight_15) dX10_readFlight_1 ?_
  refine fgN_9_6 (k := 3) hx hb hts in_X10_readFlight_9 hown hK hP (by decide) (by decide) (hN.use nw_10_154) dX10_readFlight_4 ?_
  have hr1 := rg_9_6 hR (k := 3) (by decide) (by decide)
  refine lv_istore_n (lv' := [(1, .int (σ0 3 6)), (0, .ref (ad 6))]) hx hb dX10_readFlight_7 rfl hl (by decide) rfl (fun ls hl => ?_)
  refine lv_iload_n hx hb dX10_readFlight_8 rfl (lv_at hl 0 rfl) ?_
  refine r_iconst hx hb dX10_readFlight_9 (by decide) (fun z2 ez2 => ?_)
  refine r_icmp_lt (tgt := 22) hx hb dX10_readFlight_10 (by decide) (fun c3 => ?_) (fun c3 => ?_)
  · refine lv_aload_n hx hb dX10_readFlight_22 rfl (lv_at hl 1 rfl) ?_
    refine fg_10_1 (k := 6) hx hb hts in_X10_readFlight_10 hown hK hP (by decide) (by decide) (hts _ lk_X10_readFlight_15) dX10_readFlight_23 ?_
    refine lv_dup hx hb dX10_readFlight_26 rfl ?_
    refine fgN_9_6 (k := 3) hx hb hts in_X10_readFlight_9 hown hK hP (by decide) (by decide) (hN.use nw_10_154) dX10_readFlight_27 ?_
    refine r_iconst hx hb dX10_readFlight_30 (by decide) (fun z4 ez4 => ?_)
    refine r_iadd hx hb dX10_readFlight_31 (by omega) (fun z5 ez5 => ?_)
    refine fpN_9_6 (k := 3) hx hb hts in_X10_readFlight_9 hown hK hP (by decide) (by decide) (hN.use nw_10_154) hI hR hS (by omega) dX10_readFlight_32 (fun σ6 H6 locs6 u6 v6 hR hP hS => ?_)
    have uk := u6
    have vk := v6
    have hF := hF.puts u6 0 rfl (by decide) (by decide) (by decide) (by decide)
    have gCF := gCF.ag (Agr.put u6 (by decide))
    have gCM := gCM.ag (Agr.put u6 (by decide))
    have gCT := gCT.ag (Agr.put u6 (by decide))
    have t7 : (σ6 1 13).toInt = (σ0 1 13).toInt := congrArg Int32.toInt (u6 1 13 (by omega))
    have gCS := gCS.c2 uk (by omega)
    refine lv_aload_n hx hb dX10_readFlight_35 rfl (lv_at hl 1 rfl) ?_
    refine fg_10_0 (k := 6) hx hb hts in_X10_readFlight_10 hown hK hP (by decide) (by decide) (hts _ lk_X10_readFlight_9) dX10_readFlight_36 ?_
    refine r_cVv (k := 1) (As := []) (rest := []) ⟨hx, hb, hml, hown, hts⟩ hK hP hN hS (c_X8_next_v l D cA ad hI σ6 τ0 hR _ _ _ _ gCT) (cwV 0 hts gX10_readFlight_X8_next rfl rfl rfl (by decide +kernel) ⟨by decide, by decide⟩) (rv_Tape hK hP (by decide) (by decide)) rfl hl.1 rfl (Nat.le_of_ble_eq_true rfl) dX10_readFlight_39 (Nat.zero_le _) (Nat.zero_le _) (fun u8 H8 locs8 hp8 hP hS => ?_)
    obtain ⟨σ8, τ8⟩ := u8
    obtain ⟨hR, f8, fL8, hp8_0⟩ : P_X8_next_v σ6 τ0 _ _ _ _ σ8 τ8 := hp8
    have hP : va_P D vwCl (gw cA ad σ8 τ8) H8 := hP
    have hFL := hFL.step fL8 (by decide)
    have gCN := gCN.agL (AgrL.fr fL8 (by decide))
    have hF := hF.step f8 (by decide)
    have gCF := gCF.ag (Agr.fr f8 (by decide))
    have gCM := gCM.ag (Agr.fr f8 (by decide))
    have gCS := gCS.ag (Agr.fr f8 (by decide))
    have t9 : (σ8 1 13).toInt = (σ6 1 13).toInt := congrArg Int32.toInt (f8.at 1 13 (by decide))
    have t10 : (σ8 3 6).toInt = (σ6 3 6).toInt := congrArg Int32.toInt (f8.at 3 6 (by decide))
    have gCT := hp8_0
    refine lv_aload_n hx hb dX10_readFlight_42 rfl (lv_at hl 1 rfl) ?_
    refine fg_10_1 (k := 6) hx hb hts in_X10_readFlight_10 hown hK hP (by decide) (by decide) (hts _ lk_X10_readFlight_15) dX10_readFlight_43 ?_
    refine fgN_9_11 (k := 3) hx hb hts in_X10_readFlight_9 hown hK hP (by decide) (by decide) (hN.use nw_10_157) dX10_readFlight_46 ?_
    refine lv_iload_n hx hb dX10_readFlight_49 rfl (lv_at hl 0 rfl) ?_
    obtain ⟨j11, ej11⟩ : ∃ j : Nat, (σ0 3 6).toInt = (j : Int) := ⟨_, ti_nat (by omega)⟩
    refine ad_flightA (k := 57) (j := j11) hx hb hK hP (by decide) (by decide) ej11 (by omega) dX10_readFlight_50 ?_
    refine lv_astore_n (lv' := [(2, .ref (ad (136 + j11))), (1, .int (σ0 3 6)), (0, .ref (ad 6))]) hx hb dX10_readFlight_51 rfl hl (by decide) rfl (fun ls hl => ?_)
    refine lv_aload_n hx hb dX10_readFlight_52 rfl (lv_at hl 0 rfl) ?_
    refine r_iconst hx hb dX10_readFlight_53 (by decide) (fun z12 ez12 => ?_)
    refine r_iconst hx hb dX10_readFlight_54 (by decide) (fun z13 ez13 => ?_)
    have gCF0 := gCF
    refine as_flightR (k := 136 + j11) (j := 2) hx hb hK hP hI hR hS (by omega) (by omega) (by omega) (by omega) (rw_flightR_0 (by omega) (by omega) (by decide) (by decide) (by omega)) dX10_readFlight_55 (fun σ14 H14 locs14 u14 v14 hR hP hS => ?_)
    have u55 := u14
    have v55 := v14
    have hF := hF.puts u14 3 rfl (by omega) (by omega) (by decide) (by decide)
    have gCM := gCM.ag (Agr.putV u14 (by intro q hq; simp only [Gd_CM, List.mem_cons, List.not_mem_nil, or_false] at hq; rcases hq with rfl <;> dsimp only [inRc] <;> omega))
    have gCS := gCS.ag (Agr.putV u14 (by intro q hq; simp only [Gd_CS, List.mem_cons, List.not_mem_nil, or_false] at hq; rcases hq with rfl | rfl <;> dsimp only [inRc] <;> omega))
    have gCT := gCT.ag (Agr.putV u14 (by intro q hq; simp only [Gd_CT, List.mem_cons, List.not_mem_nil, or_false] at hq; rcases hq with rfl | rfl <;> dsimp only [inRc] <;> omega))
    have t15 : (σ14 1 13).toInt = (σ8 1 13).toInt := congrArg Int32.toInt (u14 1 13 (by omega))
    have t16 : (σ14 3 6).toInt = (σ8 3 6).toInt := congrArg Int32.toInt (u14 3 6 (by omega))
    refine lv_aload_n hx hb dX10_readFlight_56 rfl (lv_at hl 2 rfl) ?_
    refine lv_aload_n hx hb dX10_readFlight_57 rfl (lv_at hl 0 rfl) ?_
    refine r_iconst hx hb dX10_readFlight_58 (by decide) (fun z17 ez17 => ?_)
    refine r_iconst hx hb dX10_readFlight_59 (by decide) (fun z18 ez18 => ?_)
    refine r_bipush hx hb dX10_readFlight_60 (by decide) (fun z19 ez19 => ?_)
    refine r_cVi (k := 6) (As := [.ref (ad (136 + j11)), .int z17, .int z18, .int z19]) (rest := []) ⟨hx, hb, hml, hown, hts⟩ hK hP hN hS (c_X10_readInto_flightR_0 l D cA ad hI σ14 τ8 hR (136 + j11) z17 z18 z19 b N mo _ 1 9 ⟨by omega, by omega⟩ (by omega) (by omega) (by omega) (by omega) (by omega) gCT) (cwV 4 hts gX10_readFlight_X10_readInto rfl rfl rfl (by decide +kernel) ⟨by decide, by decide⟩) (rv_VText hK hP (by decide) (by decide)) rfl hl.1 rfl (Nat.le_of_ble_eq_true rfl) dX10_readFlight_62 (Nat.zero_le _) (Nat.zero_le _) (fun r20 u20 H20 locs20 hp20 hP hS => ?_)
    obtain ⟨σ20, τ20⟩ := u20
    obtain ⟨hR, f20, fL20, hq20, hp20_0, hp20_1, hp20_2⟩ : P_X10_readInto_flightR_0 σ14 τ8 (136 + j11) z17 z18 z19 b N mo _ 1 9 r20 σ20 τ20 := hp20
    have o1 := hp20_0
    have s1 := hp20_1
    have hP : va_P D vwCl (gw cA ad σ20 τ20) H20 := hP
    have hFL := hFL.step fL20 (by decide)
    have gCN := gCN.agL (AgrL.fr fL20 (by decide))
    have hF := hF.step f20 (by decide)
    have gCM := gCM.ag (Agr.fr f20 (by decide))
    have gCS := gCS.ag (Agr.fr f20 (by decide))
    have t21 : (σ20 3 6).toInt = (σ14 3 6).toInt := congrArg Int32.toInt (f20.at 3 6 (by decide))
    have t22 : (σ20 (136 + j11) 2).toInt = (σ14 (136 + j11) 2).toInt := congrArg Int32.toInt (f20.atV (136 + j11) 2 (by intro q hq; simp only [L_X10_readInto_flightR_0, List.mem_cons, List.not_mem_nil, or_false] at hq; rcases hq with rfl | rfl | rfl <;> dsimp only <;> omega))
    refine r_if_eq (tgt := 80) hx hb dX10_readFlight_65 (by decide) (fun c23 => ?_) (fun c23 => ?_)
    · clear hp20_2
      refine r_iconst hx hb dX10_readFlight_80 (by decide) (fun z24 ez24 => ?_)
      exact r_zret hx hb hr hK hP hS hk (by omega) dX10_readFlight_81 (show P_X10_readFlight σ0 τ0 b N mo q h nm z24 σ20 τ20 from ⟨hR, hF, hFL, by omega, by first | exact RO.ofk (by unfold fliP; dsimp only; rw [if_pos (by omega)]) (by omega) (by omega) (by omega) | (obtain ⟨f, e1, x1, x2⟩ := o1.no (by omega); exact RO.ofl (by unfold fliP; dsimp only; rw [if_neg (by omega), e1, bnd_l]) (by omega) x1 x2) | (obtain ⟨f, e2, x1, x2⟩ := o2.no (by omega); exact RO.ofl (by unfold fliP; dsimp only; rw [if_neg (by omega), e1, bnd_r, e2, bnd_l]) (by omega) x1 x2) | exact RO.ofk (by rw [hi2, calP_4 (by omega) (by omega) (by omega), bnd_l]) (by omega) (by omega) (by omega) | exact RO.ofr (by rw [hi2, calP_e (by omega), bnd_r]; rfl) (by omega) (CR.mk gCT (gCN.h (by rw [uh2 (by omega) (by omega)]; exact hi3.2.1 0 (by omega)) (by rw [uh2 (by omega) (by omega)]; exact hi3.2.1 1 (by omega))) (gCS.h (fun j g1 => FI.cs hi3 g1)) (gCM.h (by rw [uh2 (by omega) (by omega)]; exact hi3.2.1 1 (by omega)) (fun j g1 g2 => by rw [uh2 (by omega) (by omega)]; exact hi3.2.1 j (by omega))) (hi3.fin (by omega) (by omega) (by omega)) (hF.at 6 3 (by decide)) (hF.at 6 4 (by decide))) | (obtain ⟨f, e3, x1, x2⟩ := o3.no (by omega); exact RO.ofl (by rw [hi2, calP_s (by omega) (by omega) (by omega), e3]; rfl) (by omega) x1 x2) | (obtain ⟨f, e4, x1, x2⟩ := o4.no (by omega); exact RO.ofl (by rw [hi2, calP_s (by omega) (by omega) (by omega), e3, bnd_r, e4]; rfl) (by omega) x1 x2) | (obtain ⟨f, e5, x1, x2⟩ := o5.no (by omega); exact RO.ofl (by rw [hi2, calP_s (by omega) (by omega) (by omega), e3, bnd_r, e4, bnd_r, e5]; rfl) (by omega) x1 x2), by omega⟩)
    · replace hp20_2 := hp20_2.resolve_left (by omega)
      obtain ⟨cy, e1, gCT, gvc⟩ := o1.ye (by omega)
      refine lv_aload_n hx hb dX10_readFlight_68 rfl (lv_at hl 2 rfl) ?_
      refine lv_aload_n hx hb dX10_readFlight_69 rfl (lv_at hl 0 rfl) ?_
      refine r_iconst hx hb dX10_readFlight_70 (by decide) (fun z25 ez25 => ?_)
      refine r_iconst hx hb dX10_readFlight_71 (by decide) (fun z26 ez26 => ?_)
      refine r_bipush hx hb dX10_readFlight_72 (by decide) (fun z27 ez27 => ?_)
      refine r_cVi (k := 6) (As := [.ref (ad (136 + j11)), .int z25, .int z26, .int z27]) (rest := []) ⟨hx, hb, hml, hown, hts⟩ hK hP hN hS (c_X10_readInto_flightR_1 l D cA ad hI σ20 τ20 hR (136 + j11) z25 z26 z27 b N mo _ 0 20 ⟨by omega, by omega⟩ (by omega) (by omega) (by omega) (by omega) (by omega) gCT) (cwV 4 hts gX10_readFlight_X10_readInto rfl rfl rfl (by decide +kernel) ⟨by decide, by decide⟩) (rv_VText hK hP (by decide) (by decide)) rfl hl.1 rfl (Nat.le_of_ble_eq_true rfl) dX10_readFlight_74 (Nat.zero_le _) (Nat.zero_le _) (fun r28 u28 H28 locs28 hp28 hP hS => ?_)
      obtain ⟨σ28, τ28⟩ := u28
      obtain ⟨hR, f28, fL28, hq28, hp28_0, hp28_1, hp28_2⟩ : P_X10_readInto_flightR_1 σ20 τ20 (136 + j11) z25 z26 z27 b N mo _ 0 20 r28 σ28 τ28 := hp28
      have o2 := hp28_0
      have s2 := hp28_1
      have hP : va_P D vwCl (gw cA ad σ28 τ28) H28 := hP
      have hFL := hFL.step fL28 (by decide)
      have gCN := gCN.agL (AgrL.fr fL28 (by decide))
      have hF := hF.step f28 (by decide)
      have gCM := gCM.ag (Agr.fr f28 (by decide))
      have gCS := gCS.ag (Agr.fr f28 (by decide))
      have t29 : (σ28 3 6).toInt = (σ20 3 6).toInt := congrArg Int32.toInt (f28.at 3 6 (by decide))
      have t30 : (σ28 (136 + j11) 2).toInt = (σ20 (136 + j11) 2).toInt := congrArg Int32.toInt (f28.atV (136 + j11) 2 (by intro q hq; simp only [L_X10_readInto_flightR_1, List.mem_cons, List.not_mem_nil, or_false] at hq; rcases hq with rfl | rfl | rfl <;> dsimp only <;> omega))
      refine r_if_ne (tgt := 82) hx hb dX10_readFlight_77 (by decide) (fun c31 => ?_) (fun c31 => ?_)
      · replace hp28_2 := hp28_2.resolve_left (by omega)
        obtain ⟨ly, e2, gCT, gvl⟩ := o2.ye (by omega)
        refine r_iconst hx hb dX10_readFlight_82 (by decide) (fun z32 ez32 => ?_)
        refine lv_istore_n (lv' := [(3, .int z32), (2, .ref (ad (136 + j11))), (1, .int (σ0 3 6)), (0, .ref (ad 6))]) hx hb dX10_readFlight_83 rfl hl (by decide) rfl (fun ls hl => ?_)
        refine r_iconst hx hb dX10_readFlight_84 (by decide) (fun z33 ez33 => ?_)
        refine lv_istore (lv' := [(4, .int z33), (3, .int z32), (2, .ref (ad (136 + j11))), (1, .int (σ0 3 6)), (0, .ref (ad 6))]) hx hb dX10_readFlight_85 hl (by decide) rfl (fun ls hl => ?_)
        exact K87 σ28 τ28 H28 locs28 (σ0 3 6) (136 + j11) z32 z33 _ (uh (uh h (79 + (h 2).toNat) cy.2) (83 + (h 2).toNat) ly.2) 11 ls hR hF hFL hP hS (by omega) (by omega) (by omega) (by omega) (by omega) (by omega) (by omega) (by first | (rw [fliP_b (by omega) e1 e2]; congr 2 <;> omega) | (rw [hi2, calP_s (by omega) (by omega) (by omega), e3, bnd_r, e4, bnd_r, e5, bnd_r]; congr 2 <;> omega)) (by first | (rw [show z33.toInt.toNat = 0 by omega]; exact FI.beg (p2 := 136 + j11) gCF0 (by omega) (by omega) (by omega) u55 (by omega) s1 gvc s2 gvl) | (rw [show z33.toInt.toNat = x4.toInt.toNat + 1 by omega]; exact FI.step hi3 (by omega) (by omega) (by omega) hi1 (by omega) s3 gvy s4 gvx s5 gvw u188 (by omega))) (by omega) (by omega) (by omega) (by omega) gCT gCN gCS gCM gCT gCN gCS gCM (lv_sub hl [4, 3, 2, 1, 0] rfl) (by omega)
      · clear hp28_2
        refine r_iconst hx hb dX10_readFlight_80 (by decide) (fun z34 ez34 => ?_)
        exact r_zret hx hb hr hK hP hS hk (by omega) dX10_readFlight_81 (show P_X10_readFlight σ0 τ0 b N mo q h nm z34 σ28 τ28 from ⟨hR, hF, hFL, by omega, by first | exact RO.ofk (by unfold fliP; dsimp only; rw [if_pos (by omega)]) (by omega) (by omega) (by omega) | (obtain ⟨f, e1, x1, x2⟩ := o1.no (by omega); exact RO.ofl (by unfold fliP; dsimp only; rw [if_neg (by omega), e1, bnd_l]) (by omega) x1 x2) | (obtain ⟨f, e2, x1, x2⟩ := o2.no (by omega); exact RO.ofl (by unfold fliP; dsimp only; rw [if_neg (by omega), e1, bnd_r, e2, bnd_l]) (by omega) x1 x2) | exact RO.ofk (by rw [hi2, calP_4 (by omega) (by omega) (by omega), bnd_l]) (by omega) (by omega) (by omega) | exact RO.ofr (by rw [hi2, calP_e (by omega), bnd_r]; rfl) (by omega) (CR.mk gCT (gCN.h (by rw [uh2 (by omega) (by omega)]; exact hi3.2.1 0 (by omega)) (by rw [uh2 (by omega) (by omega)]; exact hi3.2.1 1 (by omega))) (gCS.h (fun j g1 => FI.cs hi3 g1)) (gCM.h (by rw [uh2 (by omega) (by omega)]; exact hi3.2.1 1 (by omega)) (fun j g1 g2 => by rw [uh2 (by omega) (by omega)]; exact hi3.2.1 j (by omega))) (hi3.fin (by omega) (by omega) (by omega)) (hF.at 6 3 (by decide)) (hF.at 6 4 (by decide))) | (obtain ⟨f, e3, x1, x2⟩ := o3.no (by omega); exact RO.ofl (by rw [hi2, calP_s (by omega) (by omega) (by omega), e3]; rfl) (by omega) x1 x2) | (obtain ⟨f, e4, x1, x2⟩ := o4.no (by omega); exact RO.ofl (by rw [hi2, calP_s (by omega) (by omega) (by omega), e3, bnd_r, e4]; rfl) (by omega) x1 x2) | (obtain ⟨f, e5, x1, x2⟩ := o5.no (by omega); exact RO.ofl (by rw [hi2, calP_s (by omega) (by omega) (by omega), e3, bnd_r, e4, bnd_r, e5]; rfl) (by omega) x1 x2), by omega⟩)
  · refine lv_aload_n hx hb dX10_readFlight_13 rfl (lv_at hl 1 rfl) ?_
    refine fg_10_0 (k := 6) hx hb hts in_X10_readFlight_10 hown hK hP (by decide) (by decide) (hts _ lk_X10_readFlight_9) dX10_readFlight_14 ?_
    refine r_iconst hx hb dX10_readFlight_17 (by decide) (fun z35 ez35 => ?_)
    refine r_cVi (k := 1) (As := [.int z35]) (rest := []) ⟨hx, hb, hml, hown, hts⟩ hK hP hN hS (c_X8_blame_v l D cA ad hI σ0 τ0 hR z35 _ _ _ _ (by omega) gCT) (cwV 1 hts gX10_readFlight_X8_blame rfl rfl rfl (by decide +kernel) ⟨by decide, by decide⟩) (rv_Tape hK hP (by decide) (by decide)) rfl hl.1 rfl (Nat.le_of_ble_eq_true rfl) dX10_readFlight_18 (Nat.zero_le _) (Nat.zero_le _) (fun r36 u36 H36 locs36 hp36 hP hS => ?_)
    obtain ⟨σ36, τ36⟩ := u36
    obtain ⟨hR, f36, fL36, hq36, hp36_0, hp36_1, hp36_2, gnCT⟩ : P_X8_blame_v σ0 τ0 z35 _ _ _ _ r36 σ36 τ36 := hp36
    have hP : va_P D vwCl (gw cA ad σ36 τ36) H36 := hP
    obtain rfl := FrL.nil fL36
    have hF := hF.step f36 (by decide)
    have gCF := gCF.ag (Agr.fr f36 (by decide))
    have gCM := gCM.ag (Agr.fr f36 (by decide))
    have gCS := gCS.ag (Agr.fr f36 (by decide))
    have gCT := gCT.ag (Agr.fr f36 (by decide))
    have t37 : (σ36 3 6).toInt = (σ0 3 6).toInt := congrArg Int32.toInt (f36.at 3 6 (by decide))
    exact r_zret hx hb hr hK hP hS hk (by omega) dX10_readFlight_21 (show P_X10_readFlight σ0 τ0 b N mo q h nm r36 σ36 τ0 from ⟨hR, hF, hFL, by omega, by first | exact RO.ofk (by unfold fliP; dsimp only; rw [if_pos (by omega)]) (by omega) (by omega) (by omega) | (obtain ⟨f, e1, x1, x2⟩ := o1.no (by omega); exact RO.ofl (by unfold fliP; dsimp only; rw [if_neg (by omega), e1, bnd_l]) (by omega) x1 x2) | (obtain ⟨f, e2, x1, x2⟩ := o2.no (by omega); exact RO.ofl (by unfold fliP; dsimp only; rw [if_neg (by omega), e1, bnd_r, e2, bnd_l]) (by omega) x1 x2) | exact RO.ofk (by rw [hi2, calP_4 (by omega) (by omega) (by omega), bnd_l]) (by omega) (by omega) (by omega) | exact RO.ofr (by rw [hi2, calP_e (by omega), bnd_r]; rfl) (by omega) (CR.mk gCT (gCN.h (by rw [uh2 (by omega) (by omega)]; exact hi3.2.1 0 (by omega)) (by rw [uh2 (by omega) (by omega)]; exact hi3.2.1 1 (by omega))) (gCS.h (fun j g1 => FI.cs hi3 g1)) (gCM.h (by rw [uh2 (by omega) (by omega)]; exact hi3.2.1 1 (by omega)) (fun j g1 g2 => by rw [uh2 (by omega) (by omega)]; exact hi3.2.1 j (by omega))) (hi3.fin (by omega) (by omega) (by omega)) (hF.at 6 3 (by decide)) (hF.at 6 4 (by decide))) | (obtain ⟨f, e3, x1, x2⟩ := o3.no (by omega); exact RO.ofl (by rw [hi2, calP_s (by omega) (by omega) (by omega), e3]; rfl) (by omega) x1 x2) | (obtain ⟨f, e4, x1, x2⟩ := o4.no (by omega); exact RO.ofl (by rw [hi2, calP_s (by omega) (by omega) (by omega), e3, bnd_r, e4]; rfl) (by omega) x1 x2) | (obtain ⟨f, e5, x1, x2⟩ := o5.no (by omega); exact RO.ofl (by rw [hi2, calP_s (by omega) (by omega) (by omega), e3, bnd_r, e4, bnd_r, e5]; rfl) (by omega) x1 x2), by omega⟩)
theorem in_X9_isTold_9 : ∀ w ∈ u_ws RX9 TX9 14, w ∈ wsX9_isTold := by decide +kernel
theorem lk_X9_isTold_15 : Cond.fieldLink RX9 15 "CuckooShares$Valley" "manName" "[J" ∈ wsX9_isTold := by decide +kernel
theorem lk_X9_isTold_49 : Cond.fieldLink RX9 49 "CuckooShares$Valley" "hills" "I" ∈ wsX9_isTold := by decide +kernel
theorem lk_X9_isTold_52 : Cond.fieldLink RX9 52 "CuckooShares$Valley" "men" "I" ∈ wsX9_isTold := by decide +kernel
theorem lk_X9_isTold_9 : Cond.fieldLink RX9 9 "CuckooShares$Valley" "hillName" "[J" ∈ wsX9_isTold := by decide +kernel
abbrev L_X9_isTold : List Rc := []
abbrev LL_X9_isTold : List Rc := []
def P_X9_isTold (σ0 : Nat → Nat → Int32) (τ0 : Nat → Nat → Int64) (a1 : Int64) (r : Int32) (σ : Nat → Nat → Int32) (τ : Nat → Nat → Int64) : Prop := Rg σ ∧ Fr L_X9_isTold σ0 σ ∧ FrL LL_X9_isTold τ0 τ ∧ (0 ≤ r.toInt ∧ r.toInt ≤ 1) ∧ ((r.toInt = 0 ∧ fndq (τ0 41) a1 (σ0 3 4).toInt.toNat = -1 ∧ fndq (τ0 45) a1 (σ0 3 5).toInt.toNat = -1) ∨ (r.toInt = 1 ∧ (fndq (τ0 41) a1 (σ0 3 4).toInt.toNat ≠ -1 ∨ fndq (τ0 45) a1 (σ0 3 5).toInt.toNat ≠ -1)))
set_option maxHeartbeats 4000000 in
theorem c_X9_isTold (l : Launch) (D : va_G) (cA : Nat → ClassId) (ad : Nat → Nat) (hI : Inj ad) (σ0 : Nat → Nat → Int32) (τ0 : Nat → Nat → Int64) (hR : Rg σ0) (a1 : Int64)  : Met l yX9_isTold wsX9_isTold ({ frames := 1, cells := 0, slots := 0, locals := 25 } : Room) (WQc D cA ad [.ref (ad 3), .long a1] σ0 τ0) (va_Qi (fun (r : Int32) (u : SS) => P_X9_isTold σ0 τ0 a1 r u.1 u.2) (WB D cA ad) (AA ad)) 0 0 (AA ad) := by
  refine Met.ofW (cc := cX9_isTold) (maxL := 3) (ret := (some .boolean)) (by decide) rfl ?_
  intro p e s m args below meth c s₁ B hml hv
  obtain ⟨rfl, hP, hK, hN⟩ := hv
  have C : Cy p s m _ meth c cX9_isTold 3 wsX9_isTold RX9 D cA ad (some .boolean) := ⟨B.exec, B.bytes, hml, findClass_of_methodNamed B.named, atoms_spec (ws := wsX9_isTold) B.pre, hK, B.notSynchronized, B.returns, hI, hN⟩
  have hl := lv_entry ([.ref (ad 3), .long a1]) (n := 3) (Nat.le_of_ble_eq_true rfl)
  rw [lg_entry_eq]
  generalize (lg_sl ([.ref (ad 3), .long a1]) ++ List.replicate (3 - (lg_sl ([.ref (ad 3), .long a1])).length) Slot.unset).toArray = ls at hl ⊢
  have hl : lv_has ls 3 [(0, .ref (ad 3)), (1, .long a1)] := hl
  have hS : va_S (AA ad) s.heap s.heap [] := va_S.rf
  have hF : Fr L_X9_isTold σ0 σ0 := Fr.rf
  have hFL : FrL LL_X9_isTold τ0 τ0 := FrL.rf
  obtain ⟨hx, hb, _, hown, hts, _, hk, hr, _, _⟩ := C
  refine lv_aload_n hx hb dX9_isTold_0 rfl (lv_at hl 0 rfl) ?_
  refine lv_lload_n hx hb dX9_isTold_1 rfl (lv_at hl 1 rfl) ?_
  refine lv_aload_n hx hb dX9_isTold_2 rfl (lv_at hl 0 rfl) ?_
  refine fg_9_7 (k := 3) hx hb hts in_X9_isTold_9 hown hK hP (by decide) (by decide) (hts _ lk_X9_isTold_9) dX9_isTold_3 ?_
  refine lv_aload_n hx hb dX9_isTold_6 rfl (lv_at hl 0 rfl) ?_
  refine fg_9_4 (k := 3) hx hb hts in_X9_isTold_9 hown hK hP (by decide) (by decide) (hts _ lk_X9_isTold_49) dX9_isTold_7 ?_
  have hr1 := rg_9_4 hR (k := 3) (by decide) (by decide)
  refine r_cVi (k := 3) (As := [.long a1, .ref (ad 41), .int (σ0 3 4)]) (rest := []) ⟨hx, hb, hml, hown, hts⟩ hK hP hN hS (c_X9_numberOf l D cA ad hI σ0 τ0 hR 3 a1 41 (σ0 3 4) ⟨by omega, by omega⟩ ⟨by omega, by omega⟩ (by omega)) (cwV 3 hts gX9_isTold_X9_numberOf rfl rfl rfl (by decide +kernel) ⟨by decide, by decide⟩) (rv_Valley hK hP (by decide) (by decide)) rfl hl.1 rfl (Nat.le_of_ble_eq_true rfl) dX9_isTold_10 (Nat.zero_le _) (Nat.zero_le _) (fun r2 u2 H2 locs2 hp2 hP hS => ?_)
  obtain ⟨σ2, τ2⟩ := u2
  obtain ⟨hR, f2, fL2, hq2, hp2_0⟩ : P_X9_numberOf σ0 τ0 3 a1 41 (σ0 3 4) r2 σ2 τ2 := hp2
  have hP : va_P D vwCl (gw cA ad σ2 τ2) H2 := hP
  obtain rfl := FrL.nil fL2
  obtain rfl := Fr.nil f2
  refine r_iconst hx hb dX9_isTold_13 (by decide) (fun z3 ez3 => ?_)
  refine r_icmp_ne (tgt := 34) hx hb dX9_isTold_14 (by decide) (fun c4 => ?_) (fun c4 => ?_)
  · refine r_iconst hx hb dX9_isTold_34 (by decide) (fun z5 ez5 => ?_)
    refine lv_goto (tgt := 39) hx hb dX9_isTold_35 (by decide) ?_
    exact r_zret hx hb hr hK hP hS hk (by omega) dX9_isTold_39 (show P_X9_isTold σ0 τ0 a1 z5 σ0 τ0 from ⟨hR, hF, hFL, by omega, by omega⟩)
  · refine lv_aload_n hx hb dX9_isTold_17 rfl (lv_at hl 0 rfl) ?_
    refine lv_lload_n hx hb dX9_isTold_18 rfl (lv_at hl 1 rfl) ?_
    refine lv_aload_n hx hb dX9_isTold_19 rfl (lv_at hl 0 rfl) ?_
    refine fg_9_8 (k := 3) hx hb hts in_X9_isTold_9 hown hK hP (by decide) (by decide) (hts _ lk_X9_isTold_15) dX9_isTold_20 ?_
    refine lv_aload_n hx hb dX9_isTold_23 rfl (lv_at hl 0 rfl) ?_
    refine fg_9_5 (k := 3) hx hb hts in_X9_isTold_9 hown hK hP (by decide) (by decide) (hts _ lk_X9_isTold_52) dX9_isTold_24 ?_
    have hr6 := rg_9_5 hR (k := 3) (by decide) (by decide)
    refine r_cVi (k := 3) (As := [.long a1, .ref (ad 45), .int (σ0 3 5)]) (rest := []) ⟨hx, hb, hml, hown, hts⟩ hK hP hN hS (c_X9_numberOf l D cA ad hI σ0 τ0 hR 3 a1 45 (σ0 3 5) ⟨by omega, by omega⟩ ⟨by omega, by omega⟩ (by omega)) (cwV 3 hts gX9_isTold_X9_numberOf rfl rfl rfl (by decide +kernel) ⟨by decide, by decide⟩) (rv_Valley hK hP (by decide) (by decide)) rfl hl.1 rfl (Nat.le_of_ble_eq_true rfl) dX9_isTold_27 (Nat.zero_le _) (Nat.zero_le _) (fun r7 u7 H7 locs7 hp7 hP hS => ?_)
    obtain ⟨σ7, τ7⟩ := u7
    obtain ⟨hR, f7, fL7, hq7, hp7_0⟩ : P_X9_numberOf σ0 τ0 3 a1 45 (σ0 3 5) r7 σ7 τ7 := hp7
    have hP : va_P D vwCl (gw cA ad σ7 τ7) H7 := hP
    obtain rfl := FrL.nil fL7
    obtain rfl := Fr.nil f7
    refine r_iconst hx hb dX9_isTold_30 (by decide) (fun z8 ez8 => ?_)
    refine r_icmp_eq (tgt := 38) hx hb dX9_isTold_31 (by decide) (fun c9 => ?_) (fun c9 => ?_)
    · refine r_iconst hx hb dX9_isTold_38 (by decide) (fun z10 ez10 => ?_)
      exact r_zret hx hb hr hK hP hS hk (by omega) dX9_isTold_39 (show P_X9_isTold σ0 τ0 a1 z10 σ0 τ0 from ⟨hR, hF, hFL, by omega, by omega⟩)
    · refine r_iconst hx hb dX9_isTold_34 (by decide) (fun z11 ez11 => ?_)
      refine lv_goto (tgt := 39) hx hb dX9_isTold_35 (by decide) ?_
      exact r_zret hx hb hr hK hP hS hk (by omega) dX9_isTold_39 (show P_X9_isTold σ0 τ0 a1 z11 σ0 τ0 from ⟨hR, hF, hFL, by omega, by omega⟩)
theorem in_X10_isNewName_10 : ∀ w ∈ u_ws RX10 TX10 5, w ∈ wsX10_isNewName := by decide +kernel
theorem in_X10_isNewName_8 : ∀ w ∈ u_ws RX8 TX8 15, w ∈ wsX10_isNewName := by decide +kernel
theorem lk_X10_isNewName_15 : Cond.fieldLink RX10 15 "CuckooShares$ValleyText" "into" "LCuckooShares$Valley;" ∈ wsX10_isNewName := by decide +kernel
theorem lk_X10_isNewName_9 : Cond.fieldLink RX10 9 "CuckooShares$ValleyText" "tape" "LCuckooShares$Tape;" ∈ wsX10_isNewName := by decide +kernel
abbrev L_X10_isNewName : List Rc := [(1, 1, 13, 14)]
abbrev LL_X10_isNewName : List Rc := []
def P_X10_isNewName (σ0 : Nat → Nat → Int32) (τ0 : Nat → Nat → Int64) (b : Nat → Int) (N : Nat) (mo : Nat) (q : Nat) (h : Nat → Int) (nm : Nat → Int) (r : Int32) (σ : Nat → Nat → Int32) (τ : Nat → Nat → Int64) : Prop := Rg σ ∧ Fr L_X10_isNewName σ0 σ ∧ FrL LL_X10_isNewName τ0 τ ∧ (0 ≤ r.toInt ∧ r.toInt ≤ 1) ∧ (RO r σ (newP b N mo h nm q) (fun _ => True)) ∧ (r.toInt = 0 ∨ (σ 1 13).toInt = (σ0 1 13).toInt) ∧ CT σ τ b N mo q ∧ CN τ b h nm ∧ CS σ h
set_option maxHeartbeats 4000000 in
theorem c_X10_isNewName (l : Launch) (D : va_G) (cA : Nat → ClassId) (ad : Nat → Nat) (hI : Inj ad) (σ0 : Nat → Nat → Int32) (τ0 : Nat → Nat → Int64) (hR : Rg σ0) (b : Nat → Int) (N : Nat) (mo : Nat) (q : Nat) (h : Nat → Int) (nm : Nat → Int) (gCT0 : CT σ0 τ0 b N mo q) (gCN0 : CN τ0 b h nm) (gCS0 : CS σ0 h) : Met l yX10_isNewName wsX10_isNewName ({ frames := 2, cells := 0, slots := 0, locals := 47 } : Room) (WQc D cA ad [.ref (ad 6)] σ0 τ0) (va_Qi (fun (r : Int32) (u : SS) => P_X10_isNewName σ0 τ0 b N mo q h nm r u.1 u.2) (WB D cA ad) (AA ad)) 0 0 (AA ad) := by
  refine Met.ofW (cc := cX10_isNewName) (maxL := 1) (ret := (some .boolean)) (by decide) rfl ?_
  intro p e s m args below meth c s₁ B hml hv
  obtain ⟨rfl, hP, hK, hN⟩ := hv
  have C : Cy p s m _ meth c cX10_isNewName 1 wsX10_isNewName RX10 D cA ad (some .boolean) := ⟨B.exec, B.bytes, hml, findClass_of_methodNamed B.named, atoms_spec (ws := wsX10_isNewName) B.pre, hK, B.notSynchronized, B.returns, hI, hN⟩
  have hl := lv_entry ([.ref (ad 6)]) (n := 1) (Nat.le_of_ble_eq_true rfl)
  rw [lg_entry_eq]
  generalize (lg_sl ([.ref (ad 6)]) ++ List.replicate (1 - (lg_sl ([.ref (ad 6)])).length) Slot.unset).toArray = ls at hl ⊢
  have hl : lv_has ls 1 [(0, .ref (ad 6))] := hl
  have hS : va_S (AA ad) s.heap s.heap [] := va_S.rf
  have hF : Fr L_X10_isNewName σ0 σ0 := Fr.rf
  have hFL : FrL LL_X10_isNewName τ0 τ0 := FrL.rf
  have gCT := gCT0
  have gCN := gCN0
  have gCS := gCS0
  obtain ⟨hx, hb, _, hown, hts, _, hk, hr, _, _⟩ := C
  have htk := gCT.tk
  have hr8 := rg_9_4 hR (k := 3) (by decide) (by decide)
  have hr9 := rg_9_5 hR (k := 3) (by decide) (by decide)
  have hc0 := gCS.1
  have hc1 := gCS.2.1
  refine lv_aload_n hx hb dX10_isNewName_0 rfl (lv_at hl 0 rfl) ?_
  refine fg_10_0 (k := 6) hx hb hts in_X10_isNewName_10 hown hK hP (by decide) (by decide) (hts _ lk_X10_isNewName_9) dX10_isNewName_1 ?_
  refine fgN_8_9 (k := 1) hx hb hts in_X10_isNewName_8 hown hK hP (by decide) (by decide) (hN.use nw_10_34) dX10_isNewName_4 ?_
  refine r_bipush hx hb dX10_isNewName_7 (by decide) (fun z1 ez1 => ?_)
  refine r_icmp_eq (tgt := 21) hx hb dX10_isNewName_9 (by decide) (fun c2 => ?_) (fun c2 => ?_)
  · refine lv_aload_n hx hb dX10_isNewName_21 rfl (lv_at hl 0 rfl) ?_
    refine fg_10_1 (k := 6) hx hb hts in_X10_isNewName_10 hown hK hP (by decide) (by decide) (hts _ lk_X10_isNewName_15) dX10_isNewName_22 ?_
    refine lv_aload_n hx hb dX10_isNewName_25 rfl (lv_at hl 0 rfl) ?_
    refine fg_10_0 (k := 6) hx hb hts in_X10_isNewName_10 hown hK hP (by decide) (by decide) (hts _ lk_X10_isNewName_9) dX10_isNewName_26 ?_
    refine fgN_8_11 (k := 1) hx hb hts in_X10_isNewName_8 hown hK hP (by decide) (by decide) (hN.use nw_10_108) dX10_isNewName_29 ?_
    refine r_cVi (k := 3) (As := [.long (τ0 1 11)]) (rest := []) ⟨hx, hb, hml, hown, hts⟩ hK hP hN hS (c_X9_isTold l D cA ad hI σ0 τ0 hR (τ0 1 11)) (cwV 1 hts gX10_isNewName_X9_isTold rfl rfl rfl (by decide +kernel) ⟨by decide, by decide⟩) (rv_Valley hK hP (by decide) (by decide)) rfl hl.1 rfl (Nat.le_of_ble_eq_true rfl) dX10_isNewName_32 (Nat.zero_le _) (Nat.zero_le _) (fun r3 u3 H3 locs3 hp3 hP hS => ?_)
    obtain ⟨σ3, τ3⟩ := u3
    obtain ⟨hR, f3, fL3, hq3, hp3_0⟩ : P_X9_isTold σ0 τ0 (τ0 1 11) r3 σ3 τ3 := hp3
    have hP : va_P D vwCl (gw cA ad σ3 τ3) H3 := hP
    obtain rfl := FrL.nil fL3
    obtain rfl := Fr.nil f3
    rw [gCS.1, gCS.2.1] at hp3_0
    have hf0 := CN.f0 gCN (by omega) (gCT.nr (by omega))
    have hf1 := CN.f1 gCN (by omega) (gCT.nr (by omega))
    refine r_if_eq (tgt := 49) hx hb dX10_isNewName_35 (by decide) (fun c4 => ?_) (fun c4 => ?_)
    · refine r_iconst hx hb dX10_isNewName_49 (by decide) (fun z5 ez5 => ?_)
      refine lv_goto (tgt := 54) hx hb dX10_isNewName_50 (by decide) ?_
      exact r_zret hx hb hr hK hP hS hk (by omega) dX10_isNewName_54 (show P_X10_isNewName σ0 τ0 b N mo q h nm z5 σ0 τ0 from ⟨hR, hF, hFL, by omega, by first | exact RO.ofk (by unfold newP; rw [if_pos (by omega)]) (by omega) (by omega) (by omega) | exact RO.ofk (by unfold newP; rw [if_neg (by omega), if_pos (by omega)]) (by omega) (by omega) (by omega) | exact RO.ofr (a := ()) (by unfold newP; rw [if_neg (by omega), if_neg (by omega)]) (by omega) trivial, by omega, gCT, gCN, gCS⟩)
    · refine lv_aload_n hx hb dX10_isNewName_38 rfl (lv_at hl 0 rfl) ?_
      refine fg_10_0 (k := 6) hx hb hts in_X10_isNewName_10 hown hK hP (by decide) (by decide) (hts _ lk_X10_isNewName_9) dX10_isNewName_39 ?_
      refine r_iconst hx hb dX10_isNewName_42 (by decide) (fun z6 ez6 => ?_)
      refine r_cVi (k := 1) (As := [.int z6]) (rest := []) ⟨hx, hb, hml, hown, hts⟩ hK hP hN hS (c_X8_blame_v l D cA ad hI σ0 τ0 hR z6 _ _ _ _ (by omega) gCT) (cwV 1 hts gX10_isNewName_X8_blame rfl rfl rfl (by decide +kernel) ⟨by decide, by decide⟩) (rv_Tape hK hP (by decide) (by decide)) rfl hl.1 rfl (Nat.le_of_ble_eq_true rfl) dX10_isNewName_43 (Nat.zero_le _) (Nat.zero_le _) (fun r7 u7 H7 locs7 hp7 hP hS => ?_)
      obtain ⟨σ7, τ7⟩ := u7
      obtain ⟨hR, f7, fL7, hq7, hp7_0, hp7_1, hp7_2, gnCT⟩ : P_X8_blame_v σ0 τ0 z6 _ _ _ _ r7 σ7 τ7 := hp7
      have hP : va_P D vwCl (gw cA ad σ7 τ7) H7 := hP
      obtain rfl := FrL.nil fL7
      have hF := hF.step f7 (by decide)
      have gCS := gCS.ag (Agr.fr f7 (by decide))
      have gCT := gCT.ag (Agr.fr f7 (by decide))
      refine r_if_eq (tgt := 53) hx hb dX10_isNewName_46 (by decide) (fun c8 => ?_) (fun c8 => ?_)
      · refine r_iconst hx hb dX10_isNewName_53 (by decide) (fun z9 ez9 => ?_)
        exact r_zret hx hb hr hK hP hS hk (by omega) dX10_isNewName_54 (show P_X10_isNewName σ0 τ0 b N mo q h nm z9 σ7 τ0 from ⟨hR, hF, hFL, by omega, by first | exact RO.ofk (by unfold newP; rw [if_pos (by omega)]) (by omega) (by omega) (by omega) | exact RO.ofk (by unfold newP; rw [if_neg (by omega), if_pos (by omega)]) (by omega) (by omega) (by omega) | exact RO.ofr (a := ()) (by unfold newP; rw [if_neg (by omega), if_neg (by omega)]) (by omega) trivial, by omega, gCT, gCN, gCS⟩)
      · exfalso; omega
  · refine lv_aload_n hx hb dX10_isNewName_12 rfl (lv_at hl 0 rfl) ?_
    refine fg_10_0 (k := 6) hx hb hts in_X10_isNewName_10 hown hK hP (by decide) (by decide) (hts _ lk_X10_isNewName_9) dX10_isNewName_13 ?_
    refine r_iconst hx hb dX10_isNewName_16 (by decide) (fun z10 ez10 => ?_)
    refine r_cVi (k := 1) (As := [.int z10]) (rest := []) ⟨hx, hb, hml, hown, hts⟩ hK hP hN hS (c_X8_blame_v l D cA ad hI σ0 τ0 hR z10 _ _ _ _ (by omega) gCT) (cwV 1 hts gX10_isNewName_X8_blame rfl rfl rfl (by decide +kernel) ⟨by decide, by decide⟩) (rv_Tape hK hP (by decide) (by decide)) rfl hl.1 rfl (Nat.le_of_ble_eq_true rfl) dX10_isNewName_17 (Nat.zero_le _) (Nat.zero_le _) (fun r11 u11 H11 locs11 hp11 hP hS => ?_)
    obtain ⟨σ11, τ11⟩ := u11
    obtain ⟨hR, f11, fL11, hq11, hp11_0, hp11_1, hp11_2, gnCT⟩ : P_X8_blame_v σ0 τ0 z10 _ _ _ _ r11 σ11 τ11 := hp11
    have hP : va_P D vwCl (gw cA ad σ11 τ11) H11 := hP
    obtain rfl := FrL.nil fL11
    have hF := hF.step f11 (by decide)
    have gCS := gCS.ag (Agr.fr f11 (by decide))
    have gCT := gCT.ag (Agr.fr f11 (by decide))
    exact r_zret hx hb hr hK hP hS hk (by omega) dX10_isNewName_20 (show P_X10_isNewName σ0 τ0 b N mo q h nm r11 σ11 τ0 from ⟨hR, hF, hFL, by omega, by first | exact RO.ofk (by unfold newP; rw [if_pos (by omega)]) (by omega) (by omega) (by omega) | exact RO.ofk (by unfold newP; rw [if_neg (by omega), if_pos (by omega)]) (by omega) (by omega) (by omega) | exact RO.ofr (a := ()) (by unfold newP; rw [if_neg (by omega), if_neg (by omega)]) (by omega) trivial, by omega, gCT, gCN, gCS⟩)
abbrev L_X10_readInto_hillR_0 : List Rc := [(1, 1, 12, 14), (1, 1, 7, 10), (76, 83, 0, 0)]
abbrev LL_X10_readInto_hillR_0 : List Rc := [(1, 1, 11, 11)]
def P_X10_readInto_hillR_0 (σ0 : Nat → Nat → Int32) (τ0 : Nat → Nat → Int64) (k1 : Nat) (a2 : Int32) (a3 : Int32) (a4 : Int32) (b : Nat → Int) (N : Nat) (mo : Nat) (q : Nat) (lo : Int) (hi : Int) (r : Int32) (σ : Nat → Nat → Int32) (τ : Nat → Nat → Int64) : Prop := Rg σ ∧ Fr L_X10_readInto_hillR_0 σ0 σ ∧ FrL LL_X10_readInto_hillR_0 τ0 τ ∧ (0 ≤ r.toInt ∧ r.toInt ≤ 1) ∧ (RO r σ (numP b N mo lo hi q) (fun z => CT σ τ b N mo z.1 ∧ (σ k1 0).toInt = z.2)) ∧ (Fr [(1, 1, 7, 14), (k1, k1, 0, 0)] σ0 σ) ∧ (r.toInt = 0 ∨ (σ 1 13).toInt = (σ0 1 13).toInt)
set_option maxHeartbeats 4000000 in
theorem c_X10_readInto_hillR_0 (l : Launch) (D : va_G) (cA : Nat → ClassId) (ad : Nat → Nat) (hI : Inj ad) (σ0 : Nat → Nat → Int32) (τ0 : Nat → Nat → Int64) (hR : Rg σ0) (k1 : Nat) (a2 : Int32) (a3 : Int32) (a4 : Int32) (b : Nat → Int) (N : Nat) (mo : Nat) (q : Nat) (lo : Int) (hi : Int) (hk1 : 76 ≤ k1 ∧ k1 ≤ 83) (ha2 : 0 ≤ a2.toInt ∧ a2.toInt ≤ 0) (ha3 : 0 ≤ a3.toInt ∧ a3.toInt ≤ 0) (ha4 : 20 ≤ a4.toInt ∧ a4.toInt ≤ 20) (hpre0 : a3.toInt = lo) (hpre1 : a4.toInt = hi) (gCT0 : CT σ0 τ0 b N mo q) : Met l yX10_readInto wsX10_readInto ({ frames := 2, cells := 0, slots := 0, locals := 43 } : Room) (WQc D cA ad [.ref (ad 6), .ref (ad k1), .int a2, .int a3, .int a4] σ0 τ0) (va_Qi (fun (r : Int32) (u : SS) => P_X10_readInto_hillR_0 σ0 τ0 k1 a2 a3 a4 b N mo q lo hi r u.1 u.2) (WB D cA ad) (AA ad)) 0 0 (AA ad) := by
  refine Met.ofW (cc := cX10_readInto) (maxL := 5) (ret := (some .boolean)) (by decide) rfl ?_
  intro p e s m args below meth c s₁ B hml hv
  obtain ⟨rfl, hP, hK, hN⟩ := hv
  have C : Cy p s m _ meth c cX10_readInto 5 wsX10_readInto RX10 D cA ad (some .boolean) := ⟨B.exec, B.bytes, hml, findClass_of_methodNamed B.named, atoms_spec (ws := wsX10_readInto) B.pre, hK, B.notSynchronized, B.returns, hI, hN⟩
  have hl := lv_entry ([.ref (ad 6), .ref (ad k1), .int a2, .int a3, .int a4]) (n := 5) (Nat.le_of_ble_eq_true rfl)
  rw [lg_entry_eq]
  generalize (lg_sl ([.ref (ad 6), .ref (ad k1), .int a2, .int a3, .int a4]) ++ List.replicate (5 - (lg_sl ([.ref (ad 6), .ref (ad k1), .int a2, .int a3, .int a4])).length) Slot.unset).toArray = ls at hl ⊢
  have hl : lv_has ls 5 [(0, .ref (ad 6)), (1, .ref (ad k1)), (2, .int a2), (3, .int a3), (4, .int a4)] := hl
  have hS : va_S (AA ad) s.heap s.heap [] := va_S.rf
  have hF : Fr L_X10_readInto_hillR_0 σ0 σ0 := Fr.rf
  have hFL : FrL LL_X10_readInto_hillR_0 τ0 τ0 := FrL.rf
  have gCT := gCT0
  obtain ⟨hx, hb, _, hown, hts, _, hk, hr, _, _⟩ := C
  refine lv_iload_n hx hb dX10_readInto_0 rfl (lv_at hl 2 rfl) ?_
  refine r_if_lt (tgt := 23) hx hb dX10_readInto_1 (by decide) (fun c1 => ?_) (fun c1 => ?_)
  · exfalso; omega
  · refine lv_iload_n hx hb dX10_readInto_4 rfl (lv_at hl 2 rfl) ?_
    refine lv_aload_n hx hb dX10_readInto_5 rfl (lv_at hl 1 rfl) ?_
    refine al_hillR (k := k1) hx hb hK hP (by omega) (by omega) dX10_readInto_6 (fun z2 ez2 => ?_)
    refine r_icmp_ge (tgt := 23) hx hb dX10_readInto_7 (by decide) (fun c3 => ?_) (fun c3 => ?_)
    · exfalso; omega
    · refine lv_aload_n hx hb dX10_readInto_10 rfl (lv_at hl 0 rfl) ?_
      refine fg_10_0 (k := 6) hx hb hts in_X10_readInto_10 hown hK hP (by decide) (by decide) (hts _ lk_X10_readInto_9) dX10_readInto_11 ?_
      refine lv_iload_n hx hb dX10_readInto_14 rfl (lv_at hl 3 rfl) ?_
      refine lv_iload hx hb dX10_readInto_15 (lv_at hl 4 rfl) ?_
      refine r_cVi (k := 1) (As := [.int a3, .int a4]) (rest := []) ⟨hx, hb, hml, hown, hts⟩ hK hP hN hS (c_X8_takeNumber_v l D cA ad hI σ0 τ0 hR a3 a4 b N mo _ lo hi (by omega) (by omega) (by omega) (by omega) gCT) (cwV 2 hts gX10_readInto_X8_takeNumber rfl rfl rfl (by decide +kernel) ⟨by decide, by decide⟩) (rv_Tape hK hP (by decide) (by decide)) rfl hl.1 rfl (Nat.le_of_ble_eq_true rfl) dX10_readInto_17 (Nat.zero_le _) (Nat.zero_le _) (fun r4 u4 H4 locs4 hp4 hP hS => ?_)
      obtain ⟨σ4, τ4⟩ := u4
      obtain ⟨hR, f4, fL4, hq4, hp4_0, hp4_1⟩ : P_X8_takeNumber_v σ0 τ0 a3 a4 b N mo _ lo hi r4 σ4 τ4 := hp4
      have o1 := hp4_0
      have ft := f4
      have hP : va_P D vwCl (gw cA ad σ4 τ4) H4 := hP
      have hFL := hFL.step fL4 (by decide)
      have hF := hF.step f4 (by decide)
      refine r_if_ne (tgt := 25) hx hb dX10_readInto_20 (by decide) (fun c5 => ?_) (fun c5 => ?_)
      · replace hp4_1 := hp4_1.resolve_left (by omega)
        obtain ⟨y, e1, gCT, gvl⟩ := o1.ye (by omega)
        refine lv_aload_n hx hb dX10_readInto_25 rfl (lv_at hl 1 rfl) ?_
        refine lv_iload_n hx hb dX10_readInto_26 rfl (lv_at hl 2 rfl) ?_
        refine lv_aload_n hx hb dX10_readInto_27 rfl (lv_at hl 0 rfl) ?_
        refine fg_10_0 (k := 6) hx hb hts in_X10_readInto_10 hown hK hP (by decide) (by decide) (hts _ lk_X10_readInto_9) dX10_readInto_28 ?_
        refine fgN_8_12 (k := 1) hx hb hts in_X10_readInto_8 hown hK hP (by decide) (by decide) (hN.use nw_10_93) dX10_readInto_31 ?_
        refine as_hillR (k := k1) (j := 0) hx hb hK hP hI hR hS (by omega) (by omega) (by omega) (by omega) dX10_readInto_34 (fun σ6 H6 locs6 u6 v6 hR hP hS => ?_)
        have uw := u6
        have vw := v6
        have hF := hF.puts u6 2 rfl (by omega) (by omega) (by decide) (by decide)
        have gCT := gCT.ag (Agr.putV u6 (by intro q hq; simp only [Gd_CT, List.mem_cons, List.not_mem_nil, or_false] at hq; rcases hq with rfl | rfl <;> dsimp only [inRc] <;> omega))
        have t7 : (σ6 1 13).toInt = (σ4 1 13).toInt := congrArg Int32.toInt (u6 1 13 (by omega))
        have t8 : (σ6 1 12).toInt = (σ4 1 12).toInt := congrArg Int32.toInt (u6 1 12 (by omega))
        refine r_iconst hx hb dX10_readInto_35 (by decide) (fun z9 ez9 => ?_)
        exact r_zret hx hb hr hK hP hS hk (by omega) dX10_readInto_36 (show P_X10_readInto_hillR_0 σ0 τ0 k1 a2 a3 a4 b N mo q lo hi z9 σ6 τ4 from ⟨hR, hF, hFL, by omega, by first | exact RO.ofr e1 (by omega) ⟨gCT, by omega⟩ | (obtain ⟨f, e1, x1, x2⟩ := o1.no (by omega); exact RO.ofl e1 (by omega) x1 x2), by first | exact Fr.r2b (Fr.r2a ft (by decide)) uw | exact Fr.r2a ft (by decide), by omega⟩)
      · clear hp4_1
        refine r_iconst hx hb dX10_readInto_23 (by decide) (fun z10 ez10 => ?_)
        exact r_zret hx hb hr hK hP hS hk (by omega) dX10_readInto_24 (show P_X10_readInto_hillR_0 σ0 τ0 k1 a2 a3 a4 b N mo q lo hi z10 σ4 τ4 from ⟨hR, hF, hFL, by omega, by first | exact RO.ofr e1 (by omega) ⟨gCT, by omega⟩ | (obtain ⟨f, e1, x1, x2⟩ := o1.no (by omega); exact RO.ofl e1 (by omega) x1 x2), by first | exact Fr.r2b (Fr.r2a ft (by decide)) uw | exact Fr.r2a ft (by decide), by omega⟩)
abbrev L_X10_readInto_hillR_1 : List Rc := [(1, 1, 12, 14), (1, 1, 7, 10), (76, 83, 1, 1)]
abbrev LL_X10_readInto_hillR_1 : List Rc := [(1, 1, 11, 11)]
def P_X10_readInto_hillR_1 (σ0 : Nat → Nat → Int32) (τ0 : Nat → Nat → Int64) (k1 : Nat) (a2 : Int32) (a3 : Int32) (a4 : Int32) (b : Nat → Int) (N : Nat) (mo : Nat) (q : Nat) (lo : Int) (hi : Int) (r : Int32) (σ : Nat → Nat → Int32) (τ : Nat → Nat → Int64) : Prop := Rg σ ∧ Fr L_X10_readInto_hillR_1 σ0 σ ∧ FrL LL_X10_readInto_hillR_1 τ0 τ ∧ (0 ≤ r.toInt ∧ r.toInt ≤ 1) ∧ (RO r σ (numP b N mo lo hi q) (fun z => CT σ τ b N mo z.1 ∧ (σ k1 1).toInt = z.2)) ∧ (Fr [(1, 1, 7, 14), (k1, k1, 1, 1)] σ0 σ) ∧ (r.toInt = 0 ∨ (σ 1 13).toInt = (σ0 1 13).toInt)
set_option maxHeartbeats 4000000 in
theorem c_X10_readInto_hillR_1 (l : Launch) (D : va_G) (cA : Nat → ClassId) (ad : Nat → Nat) (hI : Inj ad) (σ0 : Nat → Nat → Int32) (τ0 : Nat → Nat → Int64) (hR : Rg σ0) (k1 : Nat) (a2 : Int32) (a3 : Int32) (a4 : Int32) (b : Nat → Int) (N : Nat) (mo : Nat) (q : Nat) (lo : Int) (hi : Int) (hk1 : 76 ≤ k1 ∧ k1 ≤ 83) (ha2 : 1 ≤ a2.toInt ∧ a2.toInt ≤ 1) (ha3 : 0 ≤ a3.toInt ∧ a3.toInt ≤ 0) (ha4 : 20 ≤ a4.toInt ∧ a4.toInt ≤ 20) (hpre0 : a3.toInt = lo) (hpre1 : a4.toInt = hi) (gCT0 : CT σ0 τ0 b N mo q) : Met l yX10_readInto wsX10_readInto ({ frames := 2, cells := 0, slots := 0, locals := 43 } : Room) (WQc D cA ad [.ref (ad 6), .ref (ad k1), .int a2, .int a3, .int a4] σ0 τ0) (va_Qi (fun (r : Int32) (u : SS) => P_X10_readInto_hillR_1 σ0 τ0 k1 a2 a3 a4 b N mo q lo hi r u.1 u.2) (WB D cA ad) (AA ad)) 0 0 (AA ad) := by
  refine Met.ofW (cc := cX10_readInto) (maxL := 5) (ret := (some .boolean)) (by decide) rfl ?_
  intro p e s m args below meth c s₁ B hml hv
  obtain ⟨rfl, hP, hK, hN⟩ := hv
  have C : Cy p s m _ meth c cX10_readInto 5 wsX10_readInto RX10 D cA ad (some .boolean) := ⟨B.exec, B.bytes, hml, findClass_of_methodNamed B.named, atoms_spec (ws := wsX10_readInto) B.pre, hK, B.notSynchronized, B.returns, hI, hN⟩
  have hl := lv_entry ([.ref (ad 6), .ref (ad k1), .int a2, .int a3, .int a4]) (n := 5) (Nat.le_of_ble_eq_true rfl)
  rw [lg_entry_eq]
  generalize (lg_sl ([.ref (ad 6), .ref (ad k1), .int a2, .int a3, .int a4]) ++ List.replicate (5 - (lg_sl ([.ref (ad 6), .ref (ad k1), .int a2, .int a3, .int a4])).length) Slot.unset).toArray = ls at hl ⊢
  have hl : lv_has ls 5 [(0, .ref (ad 6)), (1, .ref (ad k1)), (2, .int a2), (3, .int a3), (4, .int a4)] := hl
  have hS : va_S (AA ad) s.heap s.heap [] := va_S.rf
  have hF : Fr L_X10_readInto_hillR_1 σ0 σ0 := Fr.rf
  have hFL : FrL LL_X10_readInto_hillR_1 τ0 τ0 := FrL.rf
  have gCT := gCT0
  obtain ⟨hx, hb, _, hown, hts, _, hk, hr, _, _⟩ := C
  refine lv_iload_n hx hb dX10_readInto_0 rfl (lv_at hl 2 rfl) ?_
  refine r_if_lt (tgt := 23) hx hb dX10_readInto_1 (by decide) (fun c1 => ?_) (fun c1 => ?_)
  · exfalso; omega
  · refine lv_iload_n hx hb dX10_readInto_4 rfl (lv_at hl 2 rfl) ?_
    refine lv_aload_n hx hb dX10_readInto_5 rfl (lv_at hl 1 rfl) ?_
    refine al_hillR (k := k1) hx hb hK hP (by omega) (by omega) dX10_readInto_6 (fun z2 ez2 => ?_)
    refine r_icmp_ge (tgt := 23) hx hb dX10_readInto_7 (by decide) (fun c3 => ?_) (fun c3 => ?_)
    · exfalso; omega
    · refine lv_aload_n hx hb dX10_readInto_10 rfl (lv_at hl 0 rfl) ?_
      refine fg_10_0 (k := 6) hx hb hts in_X10_readInto_10 hown hK hP (by decide) (by decide) (hts _ lk_X10_readInto_9) dX10_readInto_11 ?_
      refine lv_iload_n hx hb dX10_readInto_14 rfl (lv_at hl 3 rfl) ?_
      refine lv_iload hx hb dX10_readInto_15 (lv_at hl 4 rfl) ?_
      refine r_cVi (k := 1) (As := [.int a3, .int a4]) (rest := []) ⟨hx, hb, hml, hown, hts⟩ hK hP hN hS (c_X8_takeNumber_v l D cA ad hI σ0 τ0 hR a3 a4 b N mo _ lo hi (by omega) (by omega) (by omega) (by omega) gCT) (cwV 2 hts gX10_readInto_X8_takeNumber rfl rfl rfl (by decide +kernel) ⟨by decide, by decide⟩) (rv_Tape hK hP (by decide) (by decide)) rfl hl.1 rfl (Nat.le_of_ble_eq_true rfl) dX10_readInto_17 (Nat.zero_le _) (Nat.zero_le _) (fun r4 u4 H4 locs4 hp4 hP hS => ?_)
      obtain ⟨σ4, τ4⟩ := u4
      obtain ⟨hR, f4, fL4, hq4, hp4_0, hp4_1⟩ : P_X8_takeNumber_v σ0 τ0 a3 a4 b N mo _ lo hi r4 σ4 τ4 := hp4
      have o1 := hp4_0
      have ft := f4
      have hP : va_P D vwCl (gw cA ad σ4 τ4) H4 := hP
      have hFL := hFL.step fL4 (by decide)
      have hF := hF.step f4 (by decide)
      refine r_if_ne (tgt := 25) hx hb dX10_readInto_20 (by decide) (fun c5 => ?_) (fun c5 => ?_)
      · replace hp4_1 := hp4_1.resolve_left (by omega)
        obtain ⟨y, e1, gCT, gvl⟩ := o1.ye (by omega)
        refine lv_aload_n hx hb dX10_readInto_25 rfl (lv_at hl 1 rfl) ?_
        refine lv_iload_n hx hb dX10_readInto_26 rfl (lv_at hl 2 rfl) ?_
        refine lv_aload_n hx hb dX10_readInto_27 rfl (lv_at hl 0 rfl) ?_
        refine fg_10_0 (k := 6) hx hb hts in_X10_readInto_10 hown hK hP (by decide) (by decide) (hts _ lk_X10_readInto_9) dX10_readInto_28 ?_
        refine fgN_8_12 (k := 1) hx hb hts in_X10_readInto_8 hown hK hP (by decide) (by decide) (hN.use nw_10_93) dX10_readInto_31 ?_
        refine as_hillR (k := k1) (j := 1) hx hb hK hP hI hR hS (by omega) (by omega) (by omega) (by omega) dX10_readInto_34 (fun σ6 H6 locs6 u6 v6 hR hP hS => ?_)
        have uw := u6
        have vw := v6
        have hF := hF.puts u6 2 rfl (by omega) (by omega) (by decide) (by decide)
        have gCT := gCT.ag (Agr.putV u6 (by intro q hq; simp only [Gd_CT, List.mem_cons, List.not_mem_nil, or_false] at hq; rcases hq with rfl | rfl <;> dsimp only [inRc] <;> omega))
        have t7 : (σ6 1 13).toInt = (σ4 1 13).toInt := congrArg Int32.toInt (u6 1 13 (by omega))
        have t8 : (σ6 1 12).toInt = (σ4 1 12).toInt := congrArg Int32.toInt (u6 1 12 (by omega))
        refine r_iconst hx hb dX10_readInto_35 (by decide) (fun z9 ez9 => ?_)
        exact r_zret hx hb hr hK hP hS hk (by omega) dX10_readInto_36 (show P_X10_readInto_hillR_1 σ0 τ0 k1 a2 a3 a4 b N mo q lo hi z9 σ6 τ4 from ⟨hR, hF, hFL, by omega, by first | exact RO.ofr e1 (by omega) ⟨gCT, by omega⟩ | (obtain ⟨f, e1, x1, x2⟩ := o1.no (by omega); exact RO.ofl e1 (by omega) x1 x2), by first | exact Fr.r2b (Fr.r2a ft (by decide)) uw | exact Fr.r2a ft (by decide), by omega⟩)
      · clear hp4_1
        refine r_iconst hx hb dX10_readInto_23 (by decide) (fun z10 ez10 => ?_)
        exact r_zret hx hb hr hK hP hS hk (by omega) dX10_readInto_24 (show P_X10_readInto_hillR_1 σ0 τ0 k1 a2 a3 a4 b N mo q lo hi z10 σ4 τ4 from ⟨hR, hF, hFL, by omega, by first | exact RO.ofr e1 (by omega) ⟨gCT, by omega⟩ | (obtain ⟨f, e1, x1, x2⟩ := o1.no (by omega); exact RO.ofl e1 (by omega) x1 x2), by first | exact Fr.r2b (Fr.r2a ft (by decide)) uw | exact Fr.r2a ft (by decide), by omega⟩)
theorem in_X10_readHill_10 : ∀ w ∈ u_ws RX10 TX10 5, w ∈ wsX10_readHill := by decide +kernel
theorem in_X10_readHill_8 : ∀ w ∈ u_ws RX8 TX8 15, w ∈ wsX10_readHill := by decide +kernel
theorem in_X10_readHill_9 : ∀ w ∈ u_ws RX9 TX9 14, w ∈ wsX10_readHill := by decide +kernel
theorem lk_X10_readHill_15 : Cond.fieldLink RX10 15 "CuckooShares$ValleyText" "into" "LCuckooShares$Valley;" ∈ wsX10_readHill := by decide +kernel
theorem lk_X10_readHill_9 : Cond.fieldLink RX10 9 "CuckooShares$ValleyText" "tape" "LCuckooShares$Tape;" ∈ wsX10_readHill := by decide +kernel
abbrev L_X10_readHill : List Rc := [(1, 1, 7, 10), (3, 3, 4, 4), (1, 1, 12, 14), (76, 83, 0, 2)]
abbrev LL_X10_readHill : List Rc := [(1, 1, 11, 11), (41, 41, 0, 7)]
def P_X10_readHill (σ0 : Nat → Nat → Int32) (τ0 : Nat → Nat → Int64) (b : Nat → Int) (N : Nat) (mo : Nat) (q : Nat) (h : Nat → Int) (nm : Nat → Int) (r : Int32) (σ : Nat → Nat → Int32) (τ : Nat → Nat → Int64) : Prop := Rg σ ∧ Fr L_X10_readHill σ0 σ ∧ FrL LL_X10_readHill τ0 τ ∧ (0 ≤ r.toInt ∧ r.toInt ≤ 1) ∧ (RO r σ (hilP b N mo (q, h, nm, σ0 6 3, σ0 6 4)) (CR σ τ b N mo)) ∧ (r.toInt = 0 ∨ (σ 1 13).toInt = (σ0 1 13).toInt)
set_option maxHeartbeats 4000000 in
theorem c_X10_readHill (l : Launch) (D : va_G) (cA : Nat → ClassId) (ad : Nat → Nat) (hI : Inj ad) (σ0 : Nat → Nat → Int32) (τ0 : Nat → Nat → Int64) (hR : Rg σ0) (b : Nat → Int) (N : Nat) (mo : Nat) (q : Nat) (h : Nat → Int) (nm : Nat → Int) (gCT0 : CT σ0 τ0 b N mo q) (gCN0 : CN τ0 b h nm) (gCS0 : CS σ0 h) (gCM0 : CM σ0 h) (gCF0 : CF σ0 h) : Met l yX10_readHill wsX10_readHill ({ frames := 3, cells := 0, slots := 0, locals := 67 } : Room) (WQc D cA ad [.ref (ad 6)] σ0 τ0) (va_Qi (fun (r : Int32) (u : SS) => P_X10_readHill σ0 τ0 b N mo q h nm r u.1 u.2) (WB D cA ad) (AA ad)) 0 0 (AA ad) := by
  refine Met.ofW (cc := cX10_readHill) (maxL := 2) (ret := (some .boolean)) (by decide) rfl ?_
  intro p e s m args below meth c s₁ B hml hv
  obtain ⟨rfl, hP, hK, hN⟩ := hv
  have C : Cy p s m _ meth c cX10_readHill 2 wsX10_readHill RX10 D cA ad (some .boolean) := ⟨B.exec, B.bytes, hml, findClass_of_methodNamed B.named, atoms_spec (ws := wsX10_readHill) B.pre, hK, B.notSynchronized, B.returns, hI, hN⟩
  have hl := lv_entry ([.ref (ad 6)]) (n := 2) (Nat.le_of_ble_eq_true rfl)
  rw [lg_entry_eq]
  generalize (lg_sl ([.ref (ad 6)]) ++ List.replicate (2 - (lg_sl ([.ref (ad 6)])).length) Slot.unset).toArray = ls at hl ⊢
  have hl : lv_has ls 2 [(0, .ref (ad 6))] := hl
  have hS : va_S (AA ad) s.heap s.heap [] := va_S.rf
  have hF : Fr L_X10_readHill σ0 σ0 := Fr.rf
  have hFL : FrL LL_X10_readHill τ0 τ0 := FrL.rf
  have gCT := gCT0
  have gCN := gCN0
  have gCS := gCS0
  have gCM := gCM0
  have gCF := gCF0
  obtain ⟨hx, hb, _, hown, hts, _, hk, hr, _, _⟩ := C
  have hcs := gCS.1
  refine lv_aload_n hx hb dX10_readHill_0 rfl (lv_at hl 0 rfl) ?_
  refine fg_10_1 (k := 6) hx hb hts in_X10_readHill_10 hown hK hP (by decide) (by decide) (hts _ lk_X10_readHill_15) dX10_readHill_1 ?_
  refine fgN_9_4 (k := 3) hx hb hts in_X10_readHill_9 hown hK hP (by decide) (by decide) (hN.use nw_10_116) dX10_readHill_4 ?_
  have hr1 := rg_9_4 hR (k := 3) (by decide) (by decide)
  refine lv_istore_n (lv' := [(1, .int (σ0 3 4)), (0, .ref (ad 6))]) hx hb dX10_readHill_7 rfl hl (by decide) rfl (fun ls hl => ?_)
  refine lv_iload_n hx hb dX10_readHill_8 rfl (lv_at hl 0 rfl) ?_
  refine r_bipush hx hb dX10_readHill_9 (by decide) (fun z2 ez2 => ?_)
  refine r_icmp_lt (tgt := 23) hx hb dX10_readHill_11 (by decide) (fun c3 => ?_) (fun c3 => ?_)
  · refine lv_aload_n hx hb dX10_readHill_23 rfl (lv_at hl 1 rfl) ?_
    refine fg_10_0 (k := 6) hx hb hts in_X10_readHill_10 hown hK hP (by decide) (by decide) (hts _ lk_X10_readHill_9) dX10_readHill_24 ?_
    refine r_cVv (k := 1) (As := []) (rest := []) ⟨hx, hb, hml, hown, hts⟩ hK hP hN hS (c_X8_next_v l D cA ad hI σ0 τ0 hR _ _ _ _ gCT) (cwV 0 hts gX10_readHill_X8_next rfl rfl rfl (by decide +kernel) ⟨by decide, by decide⟩) (rv_Tape hK hP (by decide) (by decide)) rfl hl.1 rfl (Nat.le_of_ble_eq_true rfl) dX10_readHill_27 (Nat.zero_le _) (Nat.zero_le _) (fun u4 H4 locs4 hp4 hP hS => ?_)
    obtain ⟨σ4, τ4⟩ := u4
    obtain ⟨hR, f4, fL4, hp4_0⟩ : P_X8_next_v σ0 τ0 _ _ _ _ σ4 τ4 := hp4
    have hP : va_P D vwCl (gw cA ad σ4 τ4) H4 := hP
    have hFL := hFL.step fL4 (by decide)
    have gCN := gCN.agL (AgrL.fr fL4 (by decide))
    have hF := hF.step f4 (by decide)
    have gCF := gCF.ag (Agr.fr f4 (by decide))
    have gCM := gCM.ag (Agr.fr f4 (by decide))
    have gCS := gCS.ag (Agr.fr f4 (by decide))
    have t5 : (σ4 1 13).toInt = (σ0 1 13).toInt := congrArg Int32.toInt (f4.at 1 13 (by decide))
    have t6 : (σ4 3 4).toInt = (σ0 3 4).toInt := congrArg Int32.toInt (f4.at 3 4 (by decide))
    have gCT := hp4_0
    refine lv_aload_n hx hb dX10_readHill_30 rfl (lv_at hl 1 rfl) ?_
    refine r_cVi (k := 6) (As := []) (rest := []) ⟨hx, hb, hml, hown, hts⟩ hK hP hN hS (c_X10_isNewName l D cA ad hI σ4 τ4 hR _ _ _ _ _ _ gCT gCN gCS) (cwV 0 hts gX10_readHill_X10_isNewName rfl rfl rfl (by decide +kernel) ⟨by decide, by decide⟩) (rv_VText hK hP (by decide) (by decide)) rfl hl.1 rfl (Nat.le_of_ble_eq_true rfl) dX10_readHill_31 (Nat.zero_le _) (Nat.zero_le _) (fun r7 u7 H7 locs7 hp7 hP hS => ?_)
    obtain ⟨σ7, τ7⟩ := u7
    obtain ⟨hR, f7, fL7, hq7, hp7_0, hp7_1, gnCT, gnCN, gnCS⟩ : P_X10_isNewName σ4 τ4 _ _ _ _ _ _ r7 σ7 τ7 := hp7
    have o1 := hp7_0
    have hP : va_P D vwCl (gw cA ad σ7 τ7) H7 := hP
    obtain rfl := FrL.nil fL7
    have hF := hF.step f7 (by decide)
    have gCF := gCF.ag (Agr.fr f7 (by decide))
    have gCM := gCM.ag (Agr.fr f7 (by decide))
    have gCS := gCS.ag (Agr.fr f7 (by decide))
    have gCT := gCT.ag (Agr.fr f7 (by decide))
    have t8 : (σ7 3 4).toInt = (σ4 3 4).toInt := congrArg Int32.toInt (f7.at 3 4 (by decide))
    refine r_if_ne (tgt := 39) hx hb dX10_readHill_34 (by decide) (fun c9 => ?_) (fun c9 => ?_)
    · replace hp7_1 := hp7_1.resolve_left (by omega)
      obtain ⟨_, e1, _⟩ := o1.ye (by omega)
      have hnr := gCT.nr (new_47 e1)
      refine lv_aload_n hx hb dX10_readHill_39 rfl (lv_at hl 1 rfl) ?_
      refine fg_10_1 (k := 6) hx hb hts in_X10_readHill_10 hown hK hP (by decide) (by decide) (hts _ lk_X10_readHill_15) dX10_readHill_40 ?_
      refine fgN_9_7 (k := 3) hx hb hts in_X10_readHill_9 hown hK hP (by decide) (by decide) (hN.use nw_10_122) dX10_readHill_43 ?_
      refine lv_iload_n hx hb dX10_readHill_46 rfl (lv_at hl 0 rfl) ?_
      refine lv_aload_n hx hb dX10_readHill_47 rfl (lv_at hl 1 rfl) ?_
      refine fg_10_0 (k := 6) hx hb hts in_X10_readHill_10 hown hK hP (by decide) (by decide) (hts _ lk_X10_readHill_9) dX10_readHill_48 ?_
      refine fgN_8_11 (k := 1) hx hb hts in_X10_readHill_8 hown hK hP (by decide) (by decide) (hN.use nw_10_108) dX10_readHill_51 ?_
      obtain ⟨j10, ej10⟩ : ∃ j : Nat, (σ0 3 4).toInt = (j : Int) := ⟨_, ti_nat (by omega)⟩
      refine asL_vnames (k := 41) (j := j10) hx hb hK hP hI hS (by decide) (by decide) ej10 (by omega) dX10_readHill_54 (fun τ11 H11 locs11 uL11 vL11 hP hS => ?_)
      have un := uL11
      have vn := vL11
      have hFL := hFL.puts uL11 1 rfl (by decide) (by decide) (by omega) (by omega)
      have gCT := gCT.agL (AgrL.putV uL11 (by intro q hq; simp only [GdL_CT, List.mem_cons, List.not_mem_nil, or_false] at hq; rcases hq with rfl | rfl <;> dsimp only [inRc] <;> omega))
      have gCN := CN.hil2 gCN un vn hnr (by omega) (by omega)
      refine lv_aload_n hx hb dX10_readHill_55 rfl (lv_at hl 1 rfl) ?_
      refine fg_10_1 (k := 6) hx hb hts in_X10_readHill_10 hown hK hP (by decide) (by decide) (hts _ lk_X10_readHill_15) dX10_readHill_56 ?_
      refine lv_dup hx hb dX10_readHill_59 rfl ?_
      refine fgN_9_4 (k := 3) hx hb hts in_X10_readHill_9 hown hK hP (by decide) (by decide) (hN.use nw_10_116) dX10_readHill_60 ?_
      refine r_iconst hx hb dX10_readHill_63 (by decide) (fun z12 ez12 => ?_)
      refine r_iadd hx hb dX10_readHill_64 (by omega) (fun z13 ez13 => ?_)
      refine fpN_9_4 (k := 3) hx hb hts in_X10_readHill_9 hown hK hP (by decide) (by decide) (hN.use nw_10_116) hI hR hS (by omega) dX10_readHill_65 (fun σ14 H14 locs14 u14 v14 hR hP hS => ?_)
      have uk := u14
      have vk := v14
      have hF := hF.puts u14 1 rfl (by decide) (by decide) (by decide) (by decide)
      have gCF := gCF.ag (Agr.put u14 (by decide))
      have gCM := gCM.ag (Agr.put u14 (by decide))
      have gCT := gCT.ag (Agr.put u14 (by decide))
      have t15 : (σ14 1 13).toInt = (σ7 1 13).toInt := congrArg Int32.toInt (u14 1 13 (by omega))
      have gCS := gCS.c0 uk (by omega)
      refine lv_aload_n hx hb dX10_readHill_68 rfl (lv_at hl 1 rfl) ?_
      refine fg_10_0 (k := 6) hx hb hts in_X10_readHill_10 hown hK hP (by decide) (by decide) (hts _ lk_X10_readHill_9) dX10_readHill_69 ?_
      refine r_cVv (k := 1) (As := []) (rest := []) ⟨hx, hb, hml, hown, hts⟩ hK hP hN hS (c_X8_next_v l D cA ad hI σ14 τ11 hR _ _ _ _ gCT) (cwV 0 hts gX10_readHill_X8_next rfl rfl rfl (by decide +kernel) ⟨by decide, by decide⟩) (rv_Tape hK hP (by decide) (by decide)) rfl hl.1 rfl (Nat.le_of_ble_eq_true rfl) dX10_readHill_72 (Nat.zero_le _) (Nat.zero_le _) (fun u16 H16 locs16 hp16 hP hS => ?_)
      obtain ⟨σ16, τ16⟩ := u16
      obtain ⟨hR, f16, fL16, hp16_0⟩ : P_X8_next_v σ14 τ11 _ _ _ _ σ16 τ16 := hp16
      have hP : va_P D vwCl (gw cA ad σ16 τ16) H16 := hP
      have hFL := hFL.step fL16 (by decide)
      have gCN := gCN.agL (AgrL.fr fL16 (by decide))
      have hF := hF.step f16 (by decide)
      have gCF := gCF.ag (Agr.fr f16 (by decide))
      have gCM := gCM.ag (Agr.fr f16 (by decide))
      have gCS := gCS.ag (Agr.fr f16 (by decide))
      have t17 : (σ16 1 13).toInt = (σ14 1 13).toInt := congrArg Int32.toInt (f16.at 1 13 (by decide))
      have t18 : (σ16 3 4).toInt = (σ14 3 4).toInt := congrArg Int32.toInt (f16.at 3 4 (by decide))
      have gCT := hp16_0
      refine lv_aload_n hx hb dX10_readHill_75 rfl (lv_at hl 1 rfl) ?_
      refine fg_10_1 (k := 6) hx hb hts in_X10_readHill_10 hown hK hP (by decide) (by decide) (hts _ lk_X10_readHill_15) dX10_readHill_76 ?_
      refine fgN_9_9 (k := 3) hx hb hts in_X10_readHill_9 hown hK hP (by decide) (by decide) (hN.use nw_10_126) dX10_readHill_79 ?_
      refine lv_iload_n hx hb dX10_readHill_82 rfl (lv_at hl 0 rfl) ?_
      refine ad_hillA (k := 49) (j := j10) hx hb hK hP (by decide) (by decide) ej10 (by omega) dX10_readHill_83 ?_
      refine r_iconst hx hb dX10_readHill_84 (by decide) (fun z19 ez19 => ?_)
      refine r_iconst hx hb dX10_readHill_85 (by decide) (fun z20 ez20 => ?_)
      refine as_hillR (k := 76 + j10) (j := 2) hx hb hK hP hI hR hS (by omega) (by omega) (by omega) (by omega) dX10_readHill_86 (fun σ21 H21 locs21 u21 v21 hR hP hS => ?_)
      have hF := hF.puts u21 3 rfl (by omega) (by omega) (by decide) (by decide)
      have gCF := gCF.ag (Agr.putV u21 (by intro q hq; simp only [Gd_CF, List.mem_cons, List.not_mem_nil, or_false] at hq; rcases hq with rfl | rfl <;> dsimp only [inRc] <;> omega))
      have gCM := gCM.ag (Agr.putV u21 (by intro q hq; simp only [Gd_CM, List.mem_cons, List.not_mem_nil, or_false] at hq; rcases hq with rfl <;> dsimp only [inRc] <;> omega))
      have gCS := gCS.ag (Agr.putV u21 (by intro q hq; simp only [Gd_CS, List.mem_cons, List.not_mem_nil, or_false] at hq; rcases hq with rfl | rfl <;> dsimp only [inRc] <;> omega))
      have gCT := gCT.ag (Agr.putV u21 (by intro q hq; simp only [Gd_CT, List.mem_cons, List.not_mem_nil, or_false] at hq; rcases hq with rfl | rfl <;> dsimp only [inRc] <;> omega))
      have t22 : (σ21 1 13).toInt = (σ16 1 13).toInt := congrArg Int32.toInt (u21 1 13 (by omega))
      have t23 : (σ21 3 4).toInt = (σ16 3 4).toInt := congrArg Int32.toInt (u21 3 4 (by omega))
      refine lv_aload_n hx hb dX10_readHill_87 rfl (lv_at hl 1 rfl) ?_
      refine lv_aload_n hx hb dX10_readHill_88 rfl (lv_at hl 1 rfl) ?_
      refine fg_10_1 (k := 6) hx hb hts in_X10_readHill_10 hown hK hP (by decide) (by decide) (hts _ lk_X10_readHill_15) dX10_readHill_89 ?_
      refine fgN_9_9 (k := 3) hx hb hts in_X10_readHill_9 hown hK hP (by decide) (by decide) (hN.use nw_10_126) dX10_readHill_92 ?_
      refine lv_iload_n hx hb dX10_readHill_95 rfl (lv_at hl 0 rfl) ?_
      refine ad_hillA (k := 49) (j := j10) hx hb hK hP (by decide) (by decide) ej10 (by omega) dX10_readHill_96 ?_
      refine r_iconst hx hb dX10_readHill_97 (by decide) (fun z24 ez24 => ?_)
      refine r_iconst hx hb dX10_readHill_98 (by decide) (fun z25 ez25 => ?_)
      refine r_bipush hx hb dX10_readHill_99 (by decide) (fun z26 ez26 => ?_)
      refine r_cVi (k := 6) (As := [.ref (ad (76 + j10)), .int z24, .int z25, .int z26]) (rest := []) ⟨hx, hb, hml, hown, hts⟩ hK hP hN hS (c_X10_readInto_hillR_0 l D cA ad hI σ21 τ16 hR (76 + j10) z24 z25 z26 b N mo _ 0 20 ⟨by omega, by omega⟩ (by omega) (by omega) (by omega) (by omega) (by omega) gCT) (cwV 4 hts gX10_readHill_X10_readInto rfl rfl rfl (by decide +kernel) ⟨by decide, by decide⟩) (rv_VText hK hP (by decide) (by decide)) rfl hl.1 rfl (Nat.le_of_ble_eq_true rfl) dX10_readHill_101 (Nat.zero_le _) (Nat.zero_le _) (fun r27 u27 H27 locs27 hp27 hP hS => ?_)
      obtain ⟨σ27, τ27⟩ := u27
      obtain ⟨hR, f27, fL27, hq27, hp27_0, hp27_1, hp27_2⟩ : P_X10_readInto_hillR_0 σ21 τ16 (76 + j10) z24 z25 z26 b N mo _ 0 20 r27 σ27 τ27 := hp27
      have o2 := hp27_0
      have hP : va_P D vwCl (gw cA ad σ27 τ27) H27 := hP
      have hFL := hFL.step fL27 (by decide)
      have gCN := gCN.agL (AgrL.fr fL27 (by decide))
      have hF := hF.step f27 (by decide)
      have gCF := gCF.ag (Agr.fr f27 (by decide))
      have gCM := gCM.ag (Agr.fr f27 (by decide))
      have gCS := gCS.ag (Agr.fr f27 (by decide))
      have t28 : (σ27 3 4).toInt = (σ21 3 4).toInt := congrArg Int32.toInt (f27.at 3 4 (by decide))
      refine r_if_eq (tgt := 131) hx hb dX10_readHill_104 (by decide) (fun c29 => ?_) (fun c29 => ?_)
      · clear hp27_2
        refine r_iconst hx hb dX10_readHill_131 (by decide) (fun z30 ez30 => ?_)
        exact r_zret hx hb hr hK hP hS hk (by omega) dX10_readHill_132 (show P_X10_readHill σ0 τ0 b N mo q h nm z30 σ27 τ27 from ⟨hR, hF, hFL, by omega, by first | exact RO.ofr (by unfold hilP; dsimp only; rw [if_neg (by omega), e1, bnd_r, e2, bnd_r, e3, bnd_r]) (by omega) (CR.mk gCT (gCN.h (uh3e (by omega) (by omega)) (uh3e (by omega) (by omega))) (gCS.h (fun j g1 => uh3e (by omega) (by omega))) (gCM.h (uh3 (by omega) (by omega) (by omega)) (fun j g1 g2 => uh3 (by omega) (by omega) (by omega))) (gCF.h (uh3 (by omega) (by omega) (by omega)) (fun j g1 => uh3 (by omega) (by omega) (by omega))) (hF.at 6 3 (by decide)) (hF.at 6 4 (by decide))) | exact RO.ofk (by unfold hilP; dsimp only; rw [if_pos (by omega)]) (by omega) (by omega) (by omega) | (obtain ⟨f, e3, x1, x2⟩ := o3.no (by omega); exact RO.ofl (by unfold hilP; dsimp only; rw [if_neg (by omega), e1, bnd_r, e2, bnd_r, e3, bnd_l]) (by omega) x1 x2) | (obtain ⟨f, e2, x1, x2⟩ := o2.no (by omega); exact RO.ofl (by unfold hilP; dsimp only; rw [if_neg (by omega), e1, bnd_r, e2, bnd_l]) (by omega) x1 x2) | (obtain ⟨f, e1, x1, x2⟩ := o1.no (by omega); exact RO.ofl (by unfold hilP; dsimp only; rw [if_neg (by omega), e1, bnd_l]) (by omega) x1 x2), by omega⟩)
      · replace hp27_2 := hp27_2.resolve_left (by omega)
        obtain ⟨y, e2, gCT, gvy⟩ := o2.ye (by omega)
        refine lv_aload_n hx hb dX10_readHill_107 rfl (lv_at hl 1 rfl) ?_
        refine lv_aload_n hx hb dX10_readHill_108 rfl (lv_at hl 1 rfl) ?_
        refine fg_10_1 (k := 6) hx hb hts in_X10_readHill_10 hown hK hP (by decide) (by decide) (hts _ lk_X10_readHill_15) dX10_readHill_109 ?_
        refine fgN_9_9 (k := 3) hx hb hts in_X10_readHill_9 hown hK hP (by decide) (by decide) (hN.use nw_10_126) dX10_readHill_112 ?_
        refine lv_iload_n hx hb dX10_readHill_115 rfl (lv_at hl 0 rfl) ?_
        refine ad_hillA (k := 49) (j := j10) hx hb hK hP (by decide) (by decide) ej10 (by omega) dX10_readHill_116 ?_
        refine r_iconst hx hb dX10_readHill_117 (by decide) (fun z31 ez31 => ?_)
        refine r_iconst hx hb dX10_readHill_118 (by decide) (fun z32 ez32 => ?_)
        refine r_bipush hx hb dX10_readHill_119 (by decide) (fun z33 ez33 => ?_)
        refine r_cVi (k := 6) (As := [.ref (ad (76 + j10)), .int z31, .int z32, .int z33]) (rest := []) ⟨hx, hb, hml, hown, hts⟩ hK hP hN hS (c_X10_readInto_hillR_1 l D cA ad hI σ27 τ27 hR (76 + j10) z31 z32 z33 b N mo _ 0 20 ⟨by omega, by omega⟩ (by omega) (by omega) (by omega) (by omega) (by omega) gCT) (cwV 4 hts gX10_readHill_X10_readInto rfl rfl rfl (by decide +kernel) ⟨by decide, by decide⟩) (rv_VText hK hP (by decide) (by decide)) rfl hl.1 rfl (Nat.le_of_ble_eq_true rfl) dX10_readHill_121 (Nat.zero_le _) (Nat.zero_le _) (fun r34 u34 H34 locs34 hp34 hP hS => ?_)
        obtain ⟨σ34, τ34⟩ := u34
        obtain ⟨hR, f34, fL34, hq34, hp34_0, hp34_1, hp34_2⟩ : P_X10_readInto_hillR_1 σ27 τ27 (76 + j10) z31 z32 z33 b N mo _ 0 20 r34 σ34 τ34 := hp34
        have o3 := hp34_0
        have hP : va_P D vwCl (gw cA ad σ34 τ34) H34 := hP
        have hFL := hFL.step fL34 (by decide)
        have gCN := gCN.agL (AgrL.fr fL34 (by decide))
        have hF := hF.step f34 (by decide)
        have gCF := gCF.ag (Agr.fr f34 (by decide))
        have gCM := gCM.ag (Agr.fr f34 (by decide))
        have gCS := gCS.ag (Agr.fr f34 (by decide))
        have t35 : (σ34 3 4).toInt = (σ27 3 4).toInt := congrArg Int32.toInt (f34.at 3 4 (by decide))
        refine r_if_eq (tgt := 131) hx hb dX10_readHill_124 (by decide) (fun c36 => ?_) (fun c36 => ?_)
        · clear hp34_2
          refine r_iconst hx hb dX10_readHill_131 (by decide) (fun z37 ez37 => ?_)
          exact r_zret hx hb hr hK hP hS hk (by omega) dX10_readHill_132 (show P_X10_readHill σ0 τ0 b N mo q h nm z37 σ34 τ34 from ⟨hR, hF, hFL, by omega, by first | exact RO.ofr (by unfold hilP; dsimp only; rw [if_neg (by omega), e1, bnd_r, e2, bnd_r, e3, bnd_r]) (by omega) (CR.mk gCT (gCN.h (uh3e (by omega) (by omega)) (uh3e (by omega) (by omega))) (gCS.h (fun j g1 => uh3e (by omega) (by omega))) (gCM.h (uh3 (by omega) (by omega) (by omega)) (fun j g1 g2 => uh3 (by omega) (by omega) (by omega))) (gCF.h (uh3 (by omega) (by omega) (by omega)) (fun j g1 => uh3 (by omega) (by omega) (by omega))) (hF.at 6 3 (by decide)) (hF.at 6 4 (by decide))) | exact RO.ofk (by unfold hilP; dsimp only; rw [if_pos (by omega)]) (by omega) (by omega) (by omega) | (obtain ⟨f, e3, x1, x2⟩ := o3.no (by omega); exact RO.ofl (by unfold hilP; dsimp only; rw [if_neg (by omega), e1, bnd_r, e2, bnd_r, e3, bnd_l]) (by omega) x1 x2) | (obtain ⟨f, e2, x1, x2⟩ := o2.no (by omega); exact RO.ofl (by unfold hilP; dsimp only; rw [if_neg (by omega), e1, bnd_r, e2, bnd_l]) (by omega) x1 x2) | (obtain ⟨f, e1, x1, x2⟩ := o1.no (by omega); exact RO.ofl (by unfold hilP; dsimp only; rw [if_neg (by omega), e1, bnd_l]) (by omega) x1 x2), by omega⟩)
        · replace hp34_2 := hp34_2.resolve_left (by omega)
          obtain ⟨w, e3, gCT, gvw⟩ := o3.ye (by omega)
          refine r_iconst hx hb dX10_readHill_127 (by decide) (fun z38 ez38 => ?_)
          refine lv_goto (tgt := 132) hx hb dX10_readHill_128 (by decide) ?_
          exact r_zret hx hb hr hK hP hS hk (by omega) dX10_readHill_132 (show P_X10_readHill σ0 τ0 b N mo q h nm z38 σ34 τ34 from ⟨hR, hF, hFL, by omega, by first | exact RO.ofr (by unfold hilP; dsimp only; rw [if_neg (by omega), e1, bnd_r, e2, bnd_r, e3, bnd_r]) (by omega) (CR.mk gCT (gCN.h (uh3e (by omega) (by omega)) (uh3e (by omega) (by omega))) (gCS.h (fun j g1 => uh3e (by omega) (by omega))) (gCM.h (uh3 (by omega) (by omega) (by omega)) (fun j g1 g2 => uh3 (by omega) (by omega) (by omega))) (gCF.h (uh3 (by omega) (by omega) (by omega)) (fun j g1 => uh3 (by omega) (by omega) (by omega))) (hF.at 6 3 (by decide)) (hF.at 6 4 (by decide))) | exact RO.ofk (by unfold hilP; dsimp only; rw [if_pos (by omega)]) (by omega) (by omega) (by omega) | (obtain ⟨f, e3, x1, x2⟩ := o3.no (by omega); exact RO.ofl (by unfold hilP; dsimp only; rw [if_neg (by omega), e1, bnd_r, e2, bnd_r, e3, bnd_l]) (by omega) x1 x2) | (obtain ⟨f, e2, x1, x2⟩ := o2.no (by omega); exact RO.ofl (by unfold hilP; dsimp only; rw [if_neg (by omega), e1, bnd_r, e2, bnd_l]) (by omega) x1 x2) | (obtain ⟨f, e1, x1, x2⟩ := o1.no (by omega); exact RO.ofl (by unfold hilP; dsimp only; rw [if_neg (by omega), e1, bnd_l]) (by omega) x1 x2), by omega⟩)
    · clear hp7_1
      refine r_iconst hx hb dX10_readHill_37 (by decide) (fun z39 ez39 => ?_)
      exact r_zret hx hb hr hK hP hS hk (by omega) dX10_readHill_38 (show P_X10_readHill σ0 τ0 b N mo q h nm z39 σ7 τ4 from ⟨hR, hF, hFL, by omega, by first | exact RO.ofr (by unfold hilP; dsimp only; rw [if_neg (by omega), e1, bnd_r, e2, bnd_r, e3, bnd_r]) (by omega) (CR.mk gCT (gCN.h (uh3e (by omega) (by omega)) (uh3e (by omega) (by omega))) (gCS.h (fun j g1 => uh3e (by omega) (by omega))) (gCM.h (uh3 (by omega) (by omega) (by omega)) (fun j g1 g2 => uh3 (by omega) (by omega) (by omega))) (gCF.h (uh3 (by omega) (by omega) (by omega)) (fun j g1 => uh3 (by omega) (by omega) (by omega))) (hF.at 6 3 (by decide)) (hF.at 6 4 (by decide))) | exact RO.ofk (by unfold hilP; dsimp only; rw [if_pos (by omega)]) (by omega) (by omega) (by omega) | (obtain ⟨f, e3, x1, x2⟩ := o3.no (by omega); exact RO.ofl (by unfold hilP; dsimp only; rw [if_neg (by omega), e1, bnd_r, e2, bnd_r, e3, bnd_l]) (by omega) x1 x2) | (obtain ⟨f, e2, x1, x2⟩ := o2.no (by omega); exact RO.ofl (by unfold hilP; dsimp only; rw [if_neg (by omega), e1, bnd_r, e2, bnd_l]) (by omega) x1 x2) | (obtain ⟨f, e1, x1, x2⟩ := o1.no (by omega); exact RO.ofl (by unfold hilP; dsimp only; rw [if_neg (by omega), e1, bnd_l]) (by omega) x1 x2), by omega⟩)
  · refine lv_aload_n hx hb dX10_readHill_14 rfl (lv_at hl 1 rfl) ?_
    refine fg_10_0 (k := 6) hx hb hts in_X10_readHill_10 hown hK hP (by decide) (by decide) (hts _ lk_X10_readHill_9) dX10_readHill_15 ?_
    refine r_iconst hx hb dX10_readHill_18 (by decide) (fun z40 ez40 => ?_)
    refine r_cVi (k := 1) (As := [.int z40]) (rest := []) ⟨hx, hb, hml, hown, hts⟩ hK hP hN hS (c_X8_blame_v l D cA ad hI σ0 τ0 hR z40 _ _ _ _ (by omega) gCT) (cwV 1 hts gX10_readHill_X8_blame rfl rfl rfl (by decide +kernel) ⟨by decide, by decide⟩) (rv_Tape hK hP (by decide) (by decide)) rfl hl.1 rfl (Nat.le_of_ble_eq_true rfl) dX10_readHill_19 (Nat.zero_le _) (Nat.zero_le _) (fun r41 u41 H41 locs41 hp41 hP hS => ?_)
    obtain ⟨σ41, τ41⟩ := u41
    obtain ⟨hR, f41, fL41, hq41, hp41_0, hp41_1, hp41_2, gnCT⟩ : P_X8_blame_v σ0 τ0 z40 _ _ _ _ r41 σ41 τ41 := hp41
    have hP : va_P D vwCl (gw cA ad σ41 τ41) H41 := hP
    obtain rfl := FrL.nil fL41
    have hF := hF.step f41 (by decide)
    have gCF := gCF.ag (Agr.fr f41 (by decide))
    have gCM := gCM.ag (Agr.fr f41 (by decide))
    have gCS := gCS.ag (Agr.fr f41 (by decide))
    have gCT := gCT.ag (Agr.fr f41 (by decide))
    have t42 : (σ41 3 4).toInt = (σ0 3 4).toInt := congrArg Int32.toInt (f41.at 3 4 (by decide))
    exact r_zret hx hb hr hK hP hS hk (by omega) dX10_readHill_22 (show P_X10_readHill σ0 τ0 b N mo q h nm r41 σ41 τ0 from ⟨hR, hF, hFL, by omega, by first | exact RO.ofr (by unfold hilP; dsimp only; rw [if_neg (by omega), e1, bnd_r, e2, bnd_r, e3, bnd_r]) (by omega) (CR.mk gCT (gCN.h (uh3e (by omega) (by omega)) (uh3e (by omega) (by omega))) (gCS.h (fun j g1 => uh3e (by omega) (by omega))) (gCM.h (uh3 (by omega) (by omega) (by omega)) (fun j g1 g2 => uh3 (by omega) (by omega) (by omega))) (gCF.h (uh3 (by omega) (by omega) (by omega)) (fun j g1 => uh3 (by omega) (by omega) (by omega))) (hF.at 6 3 (by decide)) (hF.at 6 4 (by decide))) | exact RO.ofk (by unfold hilP; dsimp only; rw [if_pos (by omega)]) (by omega) (by omega) (by omega) | (obtain ⟨f, e3, x1, x2⟩ := o3.no (by omega); exact RO.ofl (by unfold hilP; dsimp only; rw [if_neg (by omega), e1, bnd_r, e2, bnd_r, e3, bnd_l]) (by omega) x1 x2) | (obtain ⟨f, e2, x1, x2⟩ := o2.no (by omega); exact RO.ofl (by unfold hilP; dsimp only; rw [if_neg (by omega), e1, bnd_r, e2, bnd_l]) (by omega) x1 x2) | (obtain ⟨f, e1, x1, x2⟩ := o1.no (by omega); exact RO.ofl (by unfold hilP; dsimp only; rw [if_neg (by omega), e1, bnd_l]) (by omega) x1 x2), by omega⟩)
