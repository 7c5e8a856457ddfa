theorem in_X8_append_8 : ∀ w ∈ u_ws RX8 TX8 15, w ∈ wsX8_append := by decide +kernel
theorem lk_X8_append_29 : Cond.fieldLink RX8 29 "CuckooShares$Tape" "size" "I" ∈ wsX8_append := by decide +kernel
theorem lk_X8_append_9 : Cond.fieldLink RX8 9 "CuckooShares$Tape" "bytes" "[B" ∈ wsX8_append := by decide +kernel
abbrev L_X8_append : List Rc := [(35, 35, 0, 939), (1, 1, 5, 5)]
def P_X8_append (σ0 : Nat → Nat → Int32) (a1 : Int32) (σ : Nat → Nat → Int32) : Prop := Rg σ ∧ Fr L_X8_append σ0 σ ∧ ((σ 1 5).toInt = (σ0 1 5).toInt + 4)
def J_X8_append_3 (p : Program) (l : Launch) (e : Env) (s : State) (m : MethodId) (args : Array Value) (below : List Frame) (meth : Method) (c : Code) (D : va_G) (cA : Nat → ClassId) (ad : Nat → Nat) (σ0 : Nat → Nat → Int32) (a1 : Int32) (n : Nat) : Prop := ∀ (σ : Nat → Nat → Int32) (τ : Nat → Nat → Int64) (H : Heap) (locs : List Loc) (x2 : Int32) (ls : Array Slot), Rg σ → Fr L_X8_append σ0 σ → va_P D vwCl (gw cA ad σ τ) H → va_S (AA ad) s.heap H locs → (-8 ≤ x2.toInt ∧ x2.toInt ≤ 24) → (8 * (σ 1 5).toInt = 8 * (σ0 1 5).toInt + 24 - x2.toInt) → lv_has ls 3 [(0, .ref (ad 1)), (1, .int a1), (2, .int x2)] → 2 * (x2.toInt - -8) + 1 < (n : Int) → W p l e ({ frames := 0, cells := 0, slots := 0, locals := 0 } : Room) s m args below meth c H locs 0 0 (MQ below (va_Qv (fun u : SS => P_X8_append σ0 a1 u.1) (WB D cA ad) (AA ad)) args s 0 0 (AA ad)) (F0 m 3 ls [])
set_option maxHeartbeats 4000000 in
theorem B_X8_append_3 (p : Program) (l : Launch) (e : Env) (s : State) (m : MethodId) (args : Array Value) (below : List Frame) (meth : Method) (c : Code) (D : va_G) (cA : Nat → ClassId) (ad : Nat → Nat) (σ0 : Nat → Nat → Int32) (a1 : Int32) (n : Nat) (C : Cy p s m args meth c cX8_append 3 wsX8_append RX8 D cA ad none) (hq0 : (σ0 1 5).toInt ≤ 936) (K3 : J_X8_append_3 p l e s m args below meth c D cA ad σ0 a1 n) : J_X8_append_3 p l e s m args below meth c D cA ad σ0 a1 (n + 1) := by
  obtain ⟨hx, hb, hml, hown, hts, hK, hk, hr, hI, hN⟩ := C
  intro σ τ H locs x2 ls hR hF hP hS hc0 hc1 hl hm
  refine lv_iload_n hx hb dX8_append_3 rfl (lv_at hl 2 rfl) ?_
  refine r_if_lt (tgt := 46) hx hb dX8_append_4 (by decide) (fun c1 => ?_) (fun c1 => ?_)
  · exact r_vret hx hb hr hK hP hS hk dX8_append_46 (show P_X8_append σ0 a1 σ from ⟨hR, hF, by omega⟩)
  · refine lv_aload_n hx hb dX8_append_7 rfl (lv_at hl 0 rfl) ?_
    refine fg_8_5 (k := 1) hx hb hts in_X8_append_8 hown hK hP (by decide) (by decide) (hts _ lk_X8_append_29) dX8_append_8 ?_
    have hr2 := rg_8_5 hR (k := 1) (by decide) (by decide)
    refine r_sipush hx hb dX8_append_11 (by decide) (fun z3 ez3 => ?_)
    refine r_icmp_ge (tgt := 40) hx hb dX8_append_14 (by decide) (fun c4 => ?_) (fun c4 => ?_)
    · refine r_iinc (k := 2) (lv1 := fun z5 => [(2, .int z5), (0, .ref (ad 1)), (1, .int a1)]) hx hb dX8_append_40 hl rfl (by decide) (fun _ => rfl) (by decide) (by omega) (fun z5 ls ez5 hl => ?_)
      refine lv_goto (tgt := 3) hx hb dX8_append_43 (by decide) ?_
      exact K3 σ τ H locs z5 ls hR hF hP hS (by omega) (by omega) (lv_sub hl [1, 2, 0] rfl) (by omega)
    · refine lv_aload_n hx hb dX8_append_17 rfl (lv_at hl 0 rfl) ?_
      refine fg_8_0 (k := 1) hx hb hts in_X8_append_8 hown hK hP (by decide) (by decide) (hts _ lk_X8_append_9) dX8_append_18 ?_
      refine lv_aload_n hx hb dX8_append_21 rfl (lv_at hl 0 rfl) ?_
      refine fg_8_5 (k := 1) hx hb hts in_X8_append_8 hown hK hP (by decide) (by decide) (hts _ lk_X8_append_29) dX8_append_22 ?_
      refine lv_iload_n hx hb dX8_append_25 rfl (lv_at hl 1 rfl) ?_
      refine lv_iload_n hx hb dX8_append_26 rfl (lv_at hl 2 rfl) ?_
      refine r_ishrU hx hb dX8_append_27 (fun z6 => ?_)
      refine r_i2b hx hb dX8_append_28 (fun z7 => ?_)
      obtain ⟨j8, ej8⟩ : ∃ j : Nat, (σ 1 5).toInt = (j : Int) := ⟨_, ti_nat (by omega)⟩
      refine as_bytes (k := 35) (j := j8) hx hb hK hP hI hR hS (by decide) (by decide) ej8 (by omega) dX8_append_29 (fun σ9 H9 locs9 u9 hR hP hS => ?_)
      have hF := hF.puts u9 0 rfl (by decide) (by decide) (by omega) (by omega)
      have t10 : (σ9 1 5).toInt = (σ 1 5).toInt := congrArg Int32.toInt (u9 1 5 (by omega))
      refine lv_aload_n hx hb dX8_append_30 rfl (lv_at hl 0 rfl) ?_
      refine lv_dup hx hb dX8_append_31 rfl ?_
      refine fg_8_5 (k := 1) hx hb hts in_X8_append_8 hown hK hP (by decide) (by decide) (hts _ lk_X8_append_29) dX8_append_32 ?_
      refine r_iconst hx hb dX8_append_35 (by decide) (fun z11 ez11 => ?_)
      refine r_iadd hx hb dX8_append_36 (by omega) (fun z12 ez12 => ?_)
      refine fp_8_5 (k := 1) hx hb hts in_X8_append_8 hown hK hP (by decide) (by decide) (hts _ lk_X8_append_29) hI hR hS (by omega) dX8_append_37 (fun σ13 H13 locs13 u13 v13 hR hP hS => ?_)
      have hF := hF.puts u13 1 rfl (by decide) (by decide) (by decide) (by decide)
      refine r_iinc (k := 2) (lv1 := fun z14 => [(2, .int z14), (0, .ref (ad 1)), (1, .int a1)]) hx hb dX8_append_40 hl rfl (by decide) (fun _ => rfl) (by decide) (by omega) (fun z14 ls ez14 hl => ?_)
      refine lv_goto (tgt := 3) hx hb dX8_append_43 (by decide) ?_
      exact K3 σ13 τ H13 locs13 z14 ls hR hF hP hS (by omega) (by omega) (lv_sub hl [1, 2, 0] rfl) (by omega)
theorem A_X8_append (p : Program) (l : Launch) (e : Env) (s : State) (m : MethodId) (args : Array Value) (below : List Frame) (meth : Method) (c : Code) (D : va_G) (cA : Nat → ClassId) (ad : Nat → Nat) (σ0 : Nat → Nat → Int32) (a1 : Int32) (C : Cy p s m args meth c cX8_append 3 wsX8_append RX8 D cA ad none) (hq0 : (σ0 1 5).toInt ≤ 936) : ∀ n : Nat, J_X8_append_3 p l e s m args below meth c D cA ad σ0 a1 n := by
  intro n
  induction n with
  | zero =>
    exact (by intro σ τ H locs x2 ls hR hF hP hS hc0 hc1 hl hm; exfalso; omega)
  | succ n ih =>
    exact B_X8_append_3 p l e s m args below meth c D cA ad σ0 a1 n C hq0 ih
set_option maxHeartbeats 4000000 in
theorem c_X8_append (l : Launch) (D : va_G) (cA : Nat → ClassId) (ad : Nat → Nat) (hI : Inj ad) (σ0 : Nat → Nat → Int32) (τ0 : Nat → Nat → Int64) (hR : Rg σ0) (a1 : Int32) (hq0 : (σ0 1 5).toInt ≤ 936) : Met l yX8_append wsX8_append ({ frames := 0, cells := 0, slots := 0, locals := 0 } : Room) (WQc D cA ad [.ref (ad 1), .int a1] σ0 τ0) (va_Qv (fun u : SS => P_X8_append σ0 a1 u.1) (WB D cA ad) (AA ad)) 0 0 (AA ad) := by
  refine Met.ofW (cc := cX8_append) (maxL := 3) (ret := none) (by decide) rfl ?_
  intro p e s m args below meth c s₁ B hml hv
  obtain ⟨rfl, hP, hK, hN⟩ := hv
  have C : Cy p s m _ meth c cX8_append 3 wsX8_append RX8 D cA ad none := ⟨B.exec, B.bytes, hml, findClass_of_methodNamed B.named, atoms_spec (ws := wsX8_append) B.pre, hK, B.notSynchronized, B.returns, hI, hN⟩
  have hl := lv_entry ([.ref (ad 1), .int a1]) (n := 3) (Nat.le_of_ble_eq_true rfl)
  rw [lg_entry_eq]
  generalize (lg_sl ([.ref (ad 1), .int a1]) ++ List.replicate (3 - (lg_sl ([.ref (ad 1), .int a1])).length) Slot.unset).toArray = ls at hl ⊢
  have hl : lv_has ls 3 [(0, .ref (ad 1)), (1, .int a1)] := hl
  have hS : va_S (AA ad) s.heap s.heap [] := va_S.rf
  have hF : Fr L_X8_append σ0 σ0 := Fr.rf
  have hA := A_X8_append p l e s m _ below meth c D cA ad σ0 a1 C hq0 138
  have K3 := hA
  clear hA
  obtain ⟨hx, hb, _, hown, hts, _, hk, hr, _, _⟩ := C
  refine r_bipush hx hb dX8_append_0 (by decide) (fun z1 ez1 => ?_)
  refine lv_istore_n (lv' := [(2, .int z1), (0, .ref (ad 1)), (1, .int a1)]) hx hb dX8_append_2 rfl hl (by decide) rfl (fun ls hl => ?_)
  exact K3 σ0 τ0 s.heap [] z1 ls hR hF hP hS (by omega) (by omega) (lv_sub hl [1, 2, 0] rfl) (by omega)
theorem in_X8_blame_8 : ∀ w ∈ u_ws RX8 TX8 15, w ∈ wsX8_blame := by decide +kernel
theorem lk_X8_blame_33 : Cond.fieldLink RX8 33 "CuckooShares$Tape" "fault" "I" ∈ wsX8_blame := by decide +kernel
theorem lk_X8_blame_36 : Cond.fieldLink RX8 36 "CuckooShares$Tape" "faultPlace" "I" ∈ wsX8_blame := by decide +kernel
theorem lk_X8_blame_88 : Cond.fieldLink RX8 88 "CuckooShares$Tape" "place" "I" ∈ wsX8_blame := by decide +kernel
abbrev L_X8_blame : List Rc := [(1, 1, 13, 14)]
def P_X8_blame (σ0 : Nat → Nat → Int32) (a1 : Int32) (r : Int32) (σ : Nat → Nat → Int32) : Prop := Rg σ ∧ Fr L_X8_blame σ0 σ ∧ (0 ≤ r.toInt ∧ r.toInt ≤ 0)
set_option maxHeartbeats 4000000 in
theorem c_X8_blame (l : Launch) (D : va_G) (cA : Nat → ClassId) (ad : Nat → Nat) (hI : Inj ad) (σ0 : Nat → Nat → Int32) (τ0 : Nat → Nat → Int64) (hR : Rg σ0) (a1 : Int32) (ha1 : 1 ≤ a1.toInt ∧ a1.toInt ≤ 4) : Met l yX8_blame wsX8_blame ({ frames := 0, cells := 0, slots := 0, locals := 0 } : Room) (WQc D cA ad [.ref (ad 1), .int a1] σ0 τ0) (va_Qi (fun (r : Int32) (u : SS) => P_X8_blame σ0 a1 r u.1) (WB D cA ad) (AA ad)) 0 0 (AA ad) := by
  refine Met.ofW (cc := cX8_blame) (maxL := 2) (ret := (some .boolean)) (by decide) rfl ?_
  intro p e s m args below meth c s₁ B hml hv
  obtain ⟨rfl, hP, hK, hN⟩ := hv
  have C : Cy p s m _ meth c cX8_blame 2 wsX8_blame RX8 D cA ad (some .boolean) := ⟨B.exec, B.bytes, hml, findClass_of_methodNamed B.named, atoms_spec (ws := wsX8_blame) B.pre, hK, B.notSynchronized, B.returns, hI, hN⟩
  have hl := lv_entry ([.ref (ad 1), .int a1]) (n := 2) (Nat.le_of_ble_eq_true rfl)
  rw [lg_entry_eq]
  generalize (lg_sl ([.ref (ad 1), .int a1]) ++ List.replicate (2 - (lg_sl ([.ref (ad 1), .int a1])).length) Slot.unset).toArray = ls at hl ⊢
  have hl : lv_has ls 2 [(0, .ref (ad 1)), (1, .int a1)] := hl
  have hS : va_S (AA ad) s.heap s.heap [] := va_S.rf
  have hF : Fr L_X8_blame σ0 σ0 := Fr.rf
  obtain ⟨hx, hb, _, hown, hts, _, hk, hr, _, _⟩ := C
  refine lv_aload_n hx hb dX8_blame_0 rfl (lv_at hl 0 rfl) ?_
  refine lv_iload_n hx hb dX8_blame_1 rfl (lv_at hl 1 rfl) ?_
  refine fp_8_13 (k := 1) hx hb hts in_X8_blame_8 hown hK hP (by decide) (by decide) (hts _ lk_X8_blame_33) hI hR hS dX8_blame_2 (fun σ1 H1 locs1 u1 v1 hR hP hS => ?_)
  have hF := hF.puts u1 0 rfl (by decide) (by decide) (by decide) (by decide)
  refine lv_aload_n hx hb dX8_blame_5 rfl (lv_at hl 0 rfl) ?_
  refine lv_aload_n hx hb dX8_blame_6 rfl (lv_at hl 0 rfl) ?_
  refine fg_8_8 (k := 1) hx hb hts in_X8_blame_8 hown hK hP (by decide) (by decide) (hts _ lk_X8_blame_88) dX8_blame_7 ?_
  refine fp_8_14 (k := 1) hx hb hts in_X8_blame_8 hown hK hP (by decide) (by decide) (hts _ lk_X8_blame_36) hI hR hS dX8_blame_10 (fun σ2 H2 locs2 u2 v2 hR hP hS => ?_)
  have hF := hF.puts u2 0 rfl (by decide) (by decide) (by decide) (by decide)
  refine r_iconst hx hb dX8_blame_13 (by decide) (fun z3 ez3 => ?_)
  exact r_zret hx hb hr hK hP hS hk (by omega) dX8_blame_14 (show P_X8_blame σ0 a1 z3 σ2 from ⟨hR, hF, by omega⟩)
theorem in_X8_toldHere_8 : ∀ w ∈ u_ws RX8 TX8 15, w ∈ wsX8_toldHere := by decide +kernel
theorem lk_X8_toldHere_85 : Cond.fieldLink RX8 85 "CuckooShares$Tape" "token" "I" ∈ wsX8_toldHere := by decide +kernel
abbrev L_X8_toldHere : List Rc := [(1, 1, 13, 14)]
def P_X8_toldHere (σ0 : Nat → Nat → Int32) (a1 : Int32) (r : Int32) (σ : Nat → Nat → Int32) : Prop := Rg σ ∧ Fr L_X8_toldHere σ0 σ ∧ (-1 ≤ r.toInt ∧ r.toInt ≤ 7)
set_option maxHeartbeats 4000000 in
theorem c_X8_toldHere (l : Launch) (D : va_G) (cA : Nat → ClassId) (ad : Nat → Nat) (hI : Inj ad) (σ0 : Nat → Nat → Int32) (τ0 : Nat → Nat → Int64) (hR : Rg σ0) (a1 : Int32) (ha1 : -1 ≤ a1.toInt ∧ a1.toInt ≤ 7) : Met l yX8_toldHere wsX8_toldHere ({ frames := 1, cells := 0, slots := 0, locals := 21 } : Room) (WQc D cA ad [.ref (ad 1), .int a1] σ0 τ0) (va_Qi (fun (r : Int32) (u : SS) => P_X8_toldHere σ0 a1 r u.1) (WB D cA ad) (AA ad)) 0 0 (AA ad) := by
  refine Met.ofW (cc := cX8_toldHere) (maxL := 2) (ret := (some .int)) (by decide) rfl ?_
  intro p e s m args below meth c s₁ B hml hv
  obtain ⟨rfl, hP, hK, hN⟩ := hv
  have C : Cy p s m _ meth c cX8_toldHere 2 wsX8_toldHere RX8 D cA ad (some .int) := ⟨B.exec, B.bytes, hml, findClass_of_methodNamed B.named, atoms_spec (ws := wsX8_toldHere) B.pre, hK, B.notSynchronized, B.returns, hI, hN⟩
  have hl := lv_entry ([.ref (ad 1), .int a1]) (n := 2) (Nat.le_of_ble_eq_true rfl)
  rw [lg_entry_eq]
  generalize (lg_sl ([.ref (ad 1), .int a1]) ++ List.replicate (2 - (lg_sl ([.ref (ad 1), .int a1])).length) Slot.unset).toArray = ls at hl ⊢
  have hl : lv_has ls 2 [(0, .ref (ad 1)), (1, .int a1)] := hl
  have hS : va_S (AA ad) s.heap s.heap [] := va_S.rf
  have hF : Fr L_X8_toldHere σ0 σ0 := Fr.rf
  obtain ⟨hx, hb, _, hown, hts, _, hk, hr, _, _⟩ := C
  refine lv_aload_n hx hb dX8_toldHere_0 rfl (lv_at hl 0 rfl) ?_
  refine fg_8_9 (k := 1) hx hb hts in_X8_toldHere_8 hown hK hP (by decide) (by decide) (hts _ lk_X8_toldHere_85) dX8_toldHere_1 ?_
  refine r_bipush hx hb dX8_toldHere_4 (by decide) (fun z1 ez1 => ?_)
  refine r_icmp_eq (tgt := 17) hx hb dX8_toldHere_6 (by decide) (fun c2 => ?_) (fun c2 => ?_)
  · refine lv_iload_n hx hb dX8_toldHere_17 rfl (lv_at hl 1 rfl) ?_
    refine r_iconst hx hb dX8_toldHere_18 (by decide) (fun z3 ez3 => ?_)
    refine r_icmp_ne (tgt := 28) hx hb dX8_toldHere_19 (by decide) (fun c4 => ?_) (fun c4 => ?_)
    · refine lv_iload_n hx hb dX8_toldHere_28 rfl (lv_at hl 1 rfl) ?_
      exact r_iret hx hb hr hK hP hS hk dX8_toldHere_29 (show P_X8_toldHere σ0 a1 a1 σ0 from ⟨hR, hF, by omega⟩)
    · refine lv_aload_n hx hb dX8_toldHere_22 rfl (lv_at hl 0 rfl) ?_
      refine r_iconst hx hb dX8_toldHere_23 (by decide) (fun z5 ez5 => ?_)
      refine r_cVi (k := 1) (As := [.int z5]) (rest := []) ⟨hx, hb, hml, hown, hts⟩ hK hP hN hS (c_X8_blame l D cA ad hI σ0 τ0 hR z5 (by omega)) (cwV 1 hts gX8_toldHere_X8_blame rfl rfl rfl (by decide +kernel) ⟨by decide, by decide⟩) (rv_Tape hK hP (by decide) (by decide)) rfl hl.1 rfl (Nat.le_of_ble_eq_true rfl) dX8_toldHere_24 (Nat.zero_le _) (Nat.zero_le _) (fun r6 u6 H6 locs6 hp6 hP hS => ?_)
      obtain ⟨σ6, τ6⟩ := u6
      obtain ⟨hR, f6, hq6⟩ : P_X8_blame σ0 z5 r6 σ6 := hp6
      have hP : va_P D vwCl (gw cA ad σ6 τ6) H6 := hP
      have hF := hF.step f6 (by decide)
      refine lv_pop hx hb dX8_toldHere_27 rfl ?_
      refine lv_iload_n hx hb dX8_toldHere_28 rfl (lv_at hl 1 rfl) ?_
      exact r_iret hx hb hr hK hP hS hk dX8_toldHere_29 (show P_X8_toldHere σ0 a1 a1 σ6 from ⟨hR, hF, by omega⟩)
  · refine lv_aload_n hx hb dX8_toldHere_9 rfl (lv_at hl 0 rfl) ?_
    refine r_iconst hx hb dX8_toldHere_10 (by decide) (fun z7 ez7 => ?_)
    refine r_cVi (k := 1) (As := [.int z7]) (rest := []) ⟨hx, hb, hml, hown, hts⟩ hK hP hN hS (c_X8_blame l D cA ad hI σ0 τ0 hR z7 (by omega)) (cwV 1 hts gX8_toldHere_X8_blame rfl rfl rfl (by decide +kernel) ⟨by decide, by decide⟩) (rv_Tape hK hP (by decide) (by decide)) rfl hl.1 rfl (Nat.le_of_ble_eq_true rfl) dX8_toldHere_11 (Nat.zero_le _) (Nat.zero_le _) (fun r8 u8 H8 locs8 hp8 hP hS => ?_)
    obtain ⟨σ8, τ8⟩ := u8
    obtain ⟨hR, f8, hq8⟩ : P_X8_blame σ0 z7 r8 σ8 := hp8
    have hP : va_P D vwCl (gw cA ad σ8 τ8) H8 := hP
    have hF := hF.step f8 (by decide)
    refine lv_pop hx hb dX8_toldHere_14 rfl ?_
    refine r_iconst hx hb dX8_toldHere_15 (by decide) (fun z9 ez9 => ?_)
    exact r_iret hx hb hr hK hP hS hk dX8_toldHere_16 (show P_X8_toldHere σ0 a1 z9 σ8 from ⟨hR, hF, by omega⟩)
abbrev L_X9_numberOf : List Rc := []
def P_X9_numberOf (σ0 : Nat → Nat → Int32) (k0 : Nat) (a1 : Int64) (k2 : Nat) (a3 : Int32) (r : Int32) (σ : Nat → Nat → Int32) : Prop := Rg σ ∧ Fr L_X9_numberOf σ0 σ ∧ (-1 ≤ r.toInt ∧ r.toInt ≤ 7)
def J_X9_numberOf_3 (p : Program) (l : Launch) (e : Env) (s : State) (m : MethodId) (args : Array Value) (below : List Frame) (meth : Method) (c : Code) (D : va_G) (cA : Nat → ClassId) (ad : Nat → Nat) (σ0 : Nat → Nat → Int32) (k0 : Nat) (a1 : Int64) (k2 : Nat) (a3 : Int32) (n : Nat) : Prop := ∀ (σ : Nat → Nat → Int32) (τ : Nat → Nat → Int64) (H : Heap) (locs : List Loc) (x5 : Int32) (ls : Array Slot), Rg σ → Fr L_X9_numberOf σ0 σ → va_P D vwCl (gw cA ad σ τ) H → va_S (AA ad) s.heap H locs → (0 ≤ x5.toInt ∧ x5.toInt ≤ 8) → lv_has ls 6 [(0, .ref (ad k0)), (1, .long a1), (3, .ref (ad k2)), (4, .int a3), (5, .int x5)] → 2 * (8 - x5.toInt) + 1 < (n : Int) → W p l e ({ frames := 0, cells := 0, slots := 0, locals := 0 } : Room) s m args below meth c H locs 0 0 (MQ below (va_Qi (fun (r : Int32) (u : SS) => P_X9_numberOf σ0 k0 a1 k2 a3 r u.1) (WB D cA ad) (AA ad)) args s 0 0 (AA ad)) (F0 m 3 ls [])
set_option maxHeartbeats 4000000 in
theorem B_X9_numberOf_3 (p : Program) (l : Launch) (e : Env) (s : State) (m : MethodId) (args : Array Value) (below : List Frame) (meth : Method) (c : Code) (D : va_G) (cA : Nat → ClassId) (ad : Nat → Nat) (σ0 : Nat → Nat → Int32) (k0 : Nat) (a1 : Int64) (k2 : Nat) (a3 : Int32) (n : Nat) (C : Cy p s m args meth c cX9_numberOf 6 wsX9_numberOf RX9 D cA ad (some .int)) (hk0 : 2 ≤ k0 ∧ k0 ≤ 3) (hk2 : 40 ≤ k2 ∧ k2 ≤ 45) (ha3 : 0 ≤ a3.toInt ∧ a3.toInt ≤ 8) (K3 : J_X9_numberOf_3 p l e s m args below meth c D cA ad σ0 k0 a1 k2 a3 n) : J_X9_numberOf_3 p l e s m args below meth c D cA ad σ0 k0 a1 k2 a3 (n + 1) := by
  obtain ⟨hx, hb, hml, hown, hts, hK, hk, hr, hI, hN⟩ := C
  intro σ τ H locs x5 ls hR hF hP hS hc0 hl hm
  obtain rfl := Fr.nil hF
  refine lv_iload hx hb dX9_numberOf_3 (lv_at hl 4 rfl) ?_
  refine lv_iload hx hb dX9_numberOf_5 (lv_at hl 3 rfl) ?_
  refine r_icmp_ge (tgt := 35) hx hb dX9_numberOf_7 (by decide) (fun c1 => ?_) (fun c1 => ?_)
  · refine r_iconst hx hb dX9_numberOf_35 (by decide) (fun z2 ez2 => ?_)
    exact r_iret hx hb hr hK hP hS hk dX9_numberOf_36 (show P_X9_numberOf σ0 k0 a1 k2 a3 z2 σ0 from ⟨hR, hF, by omega⟩)
  · refine lv_iload hx hb dX9_numberOf_10 (lv_at hl 4 rfl) ?_
    refine lv_aload_n hx hb dX9_numberOf_12 rfl (lv_at hl 2 rfl) ?_
    refine al_vnames (k := k2) hx hb hK hP (by omega) (by omega) dX9_numberOf_13 (fun z3 ez3 => ?_)
    refine r_icmp_ge (tgt := 35) hx hb dX9_numberOf_14 (by decide) (fun c4 => ?_) (fun c4 => ?_)
    · exfalso; omega
    · refine lv_aload_n hx hb dX9_numberOf_17 rfl (lv_at hl 2 rfl) ?_
      refine lv_iload hx hb dX9_numberOf_18 (lv_at hl 4 rfl) ?_
      obtain ⟨j5, ej5⟩ : ∃ j : Nat, x5.toInt = (j : Int) := ⟨_, ti_nat (by omega)⟩
      refine ad_vnames (k := k2) (j := j5) hx hb hK hP (by omega) (by omega) ej5 (by omega) dX9_numberOf_20 (fun z6 => ?_)
      refine lv_lload_n hx hb dX9_numberOf_21 rfl (lv_at hl 1 rfl) ?_
      refine r_lcmp hx hb dX9_numberOf_22 (fun z7 => ?_)
      refine r_if_ne (tgt := 29) hx hb dX9_numberOf_23 (by decide) (fun c8 => ?_) (fun c8 => ?_)
      · refine r_iinc (k := 4) (lv1 := fun z9 => [(5, .int z9), (0, .ref (ad k0)), (1, .long a1), (3, .ref (ad k2)), (4, .int a3)]) hx hb dX9_numberOf_29 hl rfl (by decide) (fun _ => rfl) (by decide) (by omega) (fun z9 ls ez9 hl => ?_)
        refine lv_goto (tgt := 3) hx hb dX9_numberOf_32 (by decide) ?_
        exact K3 σ0 τ H locs z9 ls hR hF hP hS (by omega) (lv_sub hl [1, 2, 3, 4, 0] rfl) (by omega)
      · refine lv_iload hx hb dX9_numberOf_26 (lv_at hl 4 rfl) ?_
        exact r_iret hx hb hr hK hP hS hk dX9_numberOf_28 (show P_X9_numberOf σ0 k0 a1 k2 a3 x5 σ0 from ⟨hR, hF, by omega⟩)
theorem A_X9_numberOf (p : Program) (l : Launch) (e : Env) (s : State) (m : MethodId) (args : Array Value) (below : List Frame) (meth : Method) (c : Code) (D : va_G) (cA : Nat → ClassId) (ad : Nat → Nat) (σ0 : Nat → Nat → Int32) (k0 : Nat) (a1 : Int64) (k2 : Nat) (a3 : Int32) (C : Cy p s m args meth c cX9_numberOf 6 wsX9_numberOf RX9 D cA ad (some .int)) (hk0 : 2 ≤ k0 ∧ k0 ≤ 3) (hk2 : 40 ≤ k2 ∧ k2 ≤ 45) (ha3 : 0 ≤ a3.toInt ∧ a3.toInt ≤ 8) : ∀ n : Nat, J_X9_numberOf_3 p l e s m args below meth c D cA ad σ0 k0 a1 k2 a3 n := by
  intro n
  induction n with
  | zero =>
    exact (by intro σ τ H locs x5 ls hR hF hP hS hc0 hl hm; exfalso; omega)
  | succ n ih =>
    exact B_X9_numberOf_3 p l e s m args below meth c D cA ad σ0 k0 a1 k2 a3 n C hk0 hk2 ha3 ih
set_option maxHeartbeats 4000000 in
theorem c_X9_numberOf (l : Launch) (D : va_G) (cA : Nat → ClassId) (ad : Nat → Nat) (hI : Inj ad) (σ0 : Nat → Nat → Int32) (τ0 : Nat → Nat → Int64) (hR : Rg σ0) (k0 : Nat) (a1 : Int64) (k2 : Nat) (a3 : Int32) (hk0 : 2 ≤ k0 ∧ k0 ≤ 3) (hk2 : 40 ≤ k2 ∧ k2 ≤ 45) (ha3 : 0 ≤ a3.toInt ∧ a3.toInt ≤ 8) : Met l yX9_numberOf wsX9_numberOf ({ frames := 0, cells := 0, slots := 0, locals := 0 } : Room) (WQc D cA ad [.ref (ad k0), .long a1, .ref (ad k2), .int a3] σ0 τ0) (va_Qi (fun (r : Int32) (u : SS) => P_X9_numberOf σ0 k0 a1 k2 a3 r u.1) (WB D cA ad) (AA ad)) 0 0 (AA ad) := by
  refine Met.ofW (cc := cX9_numberOf) (maxL := 6) (ret := (some .int)) (by decide) rfl ?_
  intro p e s m args below meth c s₁ B hml hv
  obtain ⟨rfl, hP, hK, hN⟩ := hv
  have C : Cy p s m _ meth c cX9_numberOf 6 wsX9_numberOf RX9 D cA ad (some .int) := ⟨B.exec, B.bytes, hml, findClass_of_methodNamed B.named, atoms_spec (ws := wsX9_numberOf) B.pre, hK, B.notSynchronized, B.returns, hI, hN⟩
  have hl := lv_entry ([.ref (ad k0), .long a1, .ref (ad k2), .int a3]) (n := 6) (Nat.le_of_ble_eq_true rfl)
  rw [lg_entry_eq]
  generalize (lg_sl ([.ref (ad k0), .long a1, .ref (ad k2), .int a3]) ++ List.replicate (6 - (lg_sl ([.ref (ad k0), .long a1, .ref (ad k2), .int a3])).length) Slot.unset).toArray = ls at hl ⊢
  have hl : lv_has ls 6 [(0, .ref (ad k0)), (1, .long a1), (3, .ref (ad k2)), (4, .int a3)] := hl
  have hS : va_S (AA ad) s.heap s.heap [] := va_S.rf
  have hF : Fr L_X9_numberOf σ0 σ0 := Fr.rf
  have hA := A_X9_numberOf p l e s m _ below meth c D cA ad σ0 k0 a1 k2 a3 C hk0 hk2 ha3 42
  have K3 := hA
  clear hA
  obtain ⟨hx, hb, _, hown, hts, _, hk, hr, _, _⟩ := C
  refine r_iconst hx hb dX9_numberOf_0 (by decide) (fun z1 ez1 => ?_)
  refine lv_istore (lv' := [(5, .int z1), (0, .ref (ad k0)), (1, .long a1), (3, .ref (ad k2)), (4, .int a3)]) hx hb dX9_numberOf_1 hl (by decide) rfl (fun ls hl => ?_)
  exact K3 σ0 τ0 s.heap [] z1 ls hR hF hP hS (by omega) (lv_sub hl [1, 2, 3, 4, 0] rfl) (by omega)
theorem in_X8_manHere_8 : ∀ w ∈ u_ws RX8 TX8 15, w ∈ wsX8_manHere := by decide +kernel
theorem in_X8_manHere_9 : ∀ w ∈ u_ws RX9 TX9 14, w ∈ wsX8_manHere := by decide +kernel
theorem lk_X8_manHere_94 : Cond.fieldLink RX8 94 "CuckooShares$Tape" "name" "J" ∈ wsX8_manHere := by decide +kernel
abbrev L_X8_manHere : List Rc := [(1, 1, 13, 14)]
def P_X8_manHere (σ0 : Nat → Nat → Int32) (k1 : Nat) (r : Int32) (σ : Nat → Nat → Int32) : Prop := Rg σ ∧ Fr L_X8_manHere σ0 σ ∧ (-1 ≤ r.toInt ∧ r.toInt ≤ 7)
set_option maxHeartbeats 4000000 in
theorem c_X8_manHere (l : Launch) (D : va_G) (cA : Nat → ClassId) (ad : Nat → Nat) (hI : Inj ad) (σ0 : Nat → Nat → Int32) (τ0 : Nat → Nat → Int64) (hR : Rg σ0) (k1 : Nat) (hk1 : 2 ≤ k1 ∧ k1 ≤ 3) : Met l yX8_manHere wsX8_manHere ({ frames := 2, cells := 0, slots := 0, locals := 42 } : Room) (WQc D cA ad [.ref (ad 1), .ref (ad k1)] σ0 τ0) (va_Qi (fun (r : Int32) (u : SS) => P_X8_manHere σ0 k1 r u.1) (WB D cA ad) (AA ad)) 0 0 (AA ad) := by
  refine Met.ofW (cc := cX8_manHere) (maxL := 2) (ret := (some .int)) (by decide) rfl ?_
  intro p e s m args below meth c s₁ B hml hv
  obtain ⟨rfl, hP, hK, hN⟩ := hv
  have C : Cy p s m _ meth c cX8_manHere 2 wsX8_manHere RX8 D cA ad (some .int) := ⟨B.exec, B.bytes, hml, findClass_of_methodNamed B.named, atoms_spec (ws := wsX8_manHere) B.pre, hK, B.notSynchronized, B.returns, hI, hN⟩
  have hl := lv_entry ([.ref (ad 1), .ref (ad k1)]) (n := 2) (Nat.le_of_ble_eq_true rfl)
  rw [lg_entry_eq]
  generalize (lg_sl ([.ref (ad 1), .ref (ad k1)]) ++ List.replicate (2 - (lg_sl ([.ref (ad 1), .ref (ad k1)])).length) Slot.unset).toArray = ls at hl ⊢
  have hl : lv_has ls 2 [(0, .ref (ad 1)), (1, .ref (ad k1))] := hl
  have hS : va_S (AA ad) s.heap s.heap [] := va_S.rf
  have hF : Fr L_X8_manHere σ0 σ0 := Fr.rf
  obtain ⟨hx, hb, _, hown, hts, _, hk, hr, _, _⟩ := C
  refine lv_aload_n hx hb dX8_manHere_0 rfl (lv_at hl 0 rfl) ?_
  refine lv_aload_n hx hb dX8_manHere_1 rfl (lv_at hl 1 rfl) ?_
  refine lv_aload_n hx hb dX8_manHere_2 rfl (lv_at hl 0 rfl) ?_
  refine fg_8_11 (k := 1) hx hb hts in_X8_manHere_8 hown hK hP (by decide) (by decide) (hts _ lk_X8_manHere_94) dX8_manHere_3 ?_
  refine lv_aload_n hx hb dX8_manHere_6 rfl (lv_at hl 1 rfl) ?_
  refine fgN_9_8 (k := k1) hx hb hts in_X8_manHere_9 hown hK hP (by omega) (by omega) (hN.use nw_8_143) dX8_manHere_7 ?_
  refine lv_aload_n hx hb dX8_manHere_10 rfl (lv_at hl 1 rfl) ?_
  refine fgN_9_5 (k := k1) hx hb hts in_X8_manHere_9 hown hK hP (by omega) (by omega) (hN.use nw_8_146) dX8_manHere_11 ?_
  have hr1 := rg_9_5 hR (k := k1) (by omega) (by omega)
  refine r_cVi (k := k1) (As := [.long (τ0 1 11), .ref (ad (k1 + 42)), .int (σ0 k1 5)]) (rest := [.ref (ad 1)]) ⟨hx, hb, hml, hown, hts⟩ hK hP hN hS (c_X9_numberOf l D cA ad hI σ0 τ0 hR k1 (τ0 1 11) (k1 + 42) (σ0 k1 5) ⟨by omega, by omega⟩ ⟨by omega, by omega⟩ (by omega)) (cwV 3 hts gX8_manHere_X9_numberOf rfl rfl rfl (by decide +kernel) ⟨by decide, by decide⟩) (rv_Valley hK hP (by omega) (by omega)) rfl hl.1 rfl (Nat.le_of_ble_eq_true rfl) dX8_manHere_14 (Nat.zero_le _) (Nat.zero_le _) (fun r2 u2 H2 locs2 hp2 hP hS => ?_)
  obtain ⟨σ2, τ2⟩ := u2
  obtain ⟨hR, f2, hq2⟩ : P_X9_numberOf σ0 k1 (τ0 1 11) (k1 + 42) (σ0 k1 5) r2 σ2 := hp2
  have hP : va_P D vwCl (gw cA ad σ2 τ2) H2 := hP
  obtain rfl := Fr.nil f2
  refine r_cVi (k := 1) (As := [.int r2]) (rest := []) ⟨hx, hb, hml, hown, hts⟩ hK hP hN hS (c_X8_toldHere l D cA ad hI σ0 τ2 hR r2 (by omega)) (cwV 1 hts gX8_manHere_X8_toldHere rfl rfl rfl (by decide +kernel) ⟨by decide, by decide⟩) (rv_Tape hK hP (by decide) (by decide)) rfl hl.1 rfl (Nat.le_of_ble_eq_true rfl) dX8_manHere_17 (Nat.zero_le _) (Nat.zero_le _) (fun r3 u3 H3 locs3 hp3 hP hS => ?_)
  obtain ⟨σ3, τ3⟩ := u3
  obtain ⟨hR, f3, hq3⟩ : P_X8_toldHere σ0 r2 r3 σ3 := hp3
  have hP : va_P D vwCl (gw cA ad σ3 τ3) H3 := hP
  have hF := hF.step f3 (by decide)
  exact r_iret hx hb hr hK hP hS hk dX8_manHere_20 (show P_X8_manHere σ0 k1 r3 σ3 from ⟨hR, hF, by omega⟩)
theorem in_X8_next_8 : ∀ w ∈ u_ws RX8 TX8 15, w ∈ wsX8_next := by decide +kernel
theorem lk_X8_next_15 : Cond.fieldLink RX8 15 "CuckooShares$Tape" "tokens" "[I" ∈ wsX8_next := by decide +kernel
theorem lk_X8_next_19 : Cond.fieldLink RX8 19 "CuckooShares$Tape" "places" "[I" ∈ wsX8_next := by decide +kernel
theorem lk_X8_next_22 : Cond.fieldLink RX8 22 "CuckooShares$Tape" "numbers" "[I" ∈ wsX8_next := by decide +kernel
theorem lk_X8_next_25 : Cond.fieldLink RX8 25 "CuckooShares$Tape" "names" "[J" ∈ wsX8_next := by decide +kernel
theorem lk_X8_next_39 : Cond.fieldLink RX8 39 "CuckooShares$Tape" "tokensRead" "I" ∈ wsX8_next := by decide +kernel
theorem lk_X8_next_69 : Cond.fieldLink RX8 69 "CuckooShares$Tape" "tokensTaken" "I" ∈ wsX8_next := by decide +kernel
theorem lk_X8_next_85 : Cond.fieldLink RX8 85 "CuckooShares$Tape" "token" "I" ∈ wsX8_next := by decide +kernel
theorem lk_X8_next_88 : Cond.fieldLink RX8 88 "CuckooShares$Tape" "place" "I" ∈ wsX8_next := by decide +kernel
theorem lk_X8_next_91 : Cond.fieldLink RX8 91 "CuckooShares$Tape" "number" "I" ∈ wsX8_next := by decide +kernel
theorem lk_X8_next_94 : Cond.fieldLink RX8 94 "CuckooShares$Tape" "name" "J" ∈ wsX8_next := by decide +kernel
abbrev L_X8_next : List Rc := [(1, 1, 7, 10)]
def P_X8_next (σ0 : Nat → Nat → Int32)  (σ : Nat → Nat → Int32) : Prop := Rg σ ∧ Fr L_X8_next σ0 σ
set_option maxHeartbeats 4000000 in
theorem c_X8_next (l : Launch) (D : va_G) (cA : Nat → ClassId) (ad : Nat → Nat) (hI : Inj ad) (σ0 : Nat → Nat → Int32) (τ0 : Nat → Nat → Int64) (hR : Rg σ0)   : Met l yX8_next wsX8_next ({ frames := 0, cells := 0, slots := 0, locals := 0 } : Room) (WQc D cA ad [.ref (ad 1)] σ0 τ0) (va_Qv (fun u : SS => P_X8_next σ0 u.1) (WB D cA ad) (AA ad)) 0 0 (AA ad) := by
  refine Met.ofW (cc := cX8_next) (maxL := 1) (ret := none) (by decide) rfl ?_
  intro p e s m args below meth c s₁ B hml hv
  obtain ⟨rfl, hP, hK, hN⟩ := hv
  have C : Cy p s m _ meth c cX8_next 1 wsX8_next RX8 D cA ad none := ⟨B.exec, B.bytes, hml, findClass_of_methodNamed B.named, atoms_spec (ws := wsX8_next) B.pre, hK, B.notSynchronized, B.returns, hI, hN⟩
  have hl := lv_entry ([.ref (ad 1)]) (n := 1) (Nat.le_of_ble_eq_true rfl)
  rw [lg_entry_eq]
  generalize (lg_sl ([.ref (ad 1)]) ++ List.replicate (1 - (lg_sl ([.ref (ad 1)])).length) Slot.unset).toArray = ls at hl ⊢
  have hl : lv_has ls 1 [(0, .ref (ad 1))] := hl
  have hS : va_S (AA ad) s.heap s.heap [] := va_S.rf
  have hF : Fr L_X8_next σ0 σ0 := Fr.rf
  obtain ⟨hx, hb, _, hown, hts, _, hk, hr, _, _⟩ := C
  refine lv_aload_n hx hb dX8_next_0 rfl (lv_at hl 0 rfl) ?_
  refine fg_8_7 (k := 1) hx hb hts in_X8_next_8 hown hK hP (by decide) (by decide) (hts _ lk_X8_next_69) dX8_next_1 ?_
  have hr1 := rg_8_7 hR (k := 1) (by decide) (by decide)
  refine lv_aload_n hx hb dX8_next_4 rfl (lv_at hl 0 rfl) ?_
  refine fg_8_6 (k := 1) hx hb hts in_X8_next_8 hown hK hP (by decide) (by decide) (hts _ lk_X8_next_39) dX8_next_5 ?_
  have hr2 := rg_8_6 hR (k := 1) (by decide) (by decide)
  refine r_icmp_ge (tgt := 85) hx hb dX8_next_8 (by decide) (fun c3 => ?_) (fun c3 => ?_)
  · exact r_vret hx hb hr hK hP hS hk dX8_next_85 (show P_X8_next σ0 σ0 from ⟨hR, hF⟩)
  · refine lv_aload_n hx hb dX8_next_11 rfl (lv_at hl 0 rfl) ?_
    refine fg_8_7 (k := 1) hx hb hts in_X8_next_8 hown hK hP (by decide) (by decide) (hts _ lk_X8_next_69) dX8_next_12 ?_
    refine lv_aload_n hx hb dX8_next_15 rfl (lv_at hl 0 rfl) ?_
    refine fg_8_1 (k := 1) hx hb hts in_X8_next_8 hown hK hP (by decide) (by decide) (hts _ lk_X8_next_15) dX8_next_16 ?_
    refine al_tokens (k := 36) hx hb hK hP (by decide) (by decide) dX8_next_19 (fun z4 ez4 => ?_)
    refine r_icmp_ge (tgt := 85) hx hb dX8_next_20 (by decide) (fun c5 => ?_) (fun c5 => ?_)
    · exfalso; omega
    · refine lv_aload_n hx hb dX8_next_23 rfl (lv_at hl 0 rfl) ?_
      refine lv_aload_n hx hb dX8_next_24 rfl (lv_at hl 0 rfl) ?_
      refine fg_8_1 (k := 1) hx hb hts in_X8_next_8 hown hK hP (by decide) (by decide) (hts _ lk_X8_next_15) dX8_next_25 ?_
      refine lv_aload_n hx hb dX8_next_28 rfl (lv_at hl 0 rfl) ?_
      refine fg_8_7 (k := 1) hx hb hts in_X8_next_8 hown hK hP (by decide) (by decide) (hts _ lk_X8_next_69) dX8_next_29 ?_
      obtain ⟨j6, ej6⟩ : ∃ j : Nat, (σ0 1 7).toInt = (j : Int) := ⟨_, ti_nat (by omega)⟩
      refine ad_tokens (k := 36) (j := j6) hx hb hK hP (by decide) (by decide) ej6 (by omega) dX8_next_32 ?_
      refine fp_8_9 (k := 1) hx hb hts in_X8_next_8 hown hK hP (by decide) (by decide) (hts _ lk_X8_next_85) hI hR hS dX8_next_33 (fun σ7 H7 locs7 u7 v7 hR hP hS => ?_)
      have hF := hF.puts u7 0 rfl (by decide) (by decide) (by decide) (by decide)
      have t8 : (σ7 1 7).toInt = (σ0 1 7).toInt := congrArg Int32.toInt (u7 1 7 (by omega))
      refine lv_aload_n hx hb dX8_next_36 rfl (lv_at hl 0 rfl) ?_
      refine lv_aload_n hx hb dX8_next_37 rfl (lv_at hl 0 rfl) ?_
      refine fg_8_2 (k := 1) hx hb hts in_X8_next_8 hown hK hP (by decide) (by decide) (hts _ lk_X8_next_19) dX8_next_38 ?_
      refine lv_aload_n hx hb dX8_next_41 rfl (lv_at hl 0 rfl) ?_
      refine fg_8_7 (k := 1) hx hb hts in_X8_next_8 hown hK hP (by decide) (by decide) (hts _ lk_X8_next_69) dX8_next_42 ?_
      obtain ⟨j9, ej9⟩ : ∃ j : Nat, (σ7 1 7).toInt = (j : Int) := ⟨_, ti_nat (by omega)⟩
      refine ad_tokens (k := 37) (j := j9) hx hb hK hP (by decide) (by decide) ej9 (by omega) dX8_next_45 ?_
      refine fp_8_8 (k := 1) hx hb hts in_X8_next_8 hown hK hP (by decide) (by decide) (hts _ lk_X8_next_88) hI hR hS dX8_next_46 (fun σ10 H10 locs10 u10 v10 hR hP hS => ?_)
      have hF := hF.puts u10 0 rfl (by decide) (by decide) (by decide) (by decide)
      have t11 : (σ10 1 7).toInt = (σ7 1 7).toInt := congrArg Int32.toInt (u10 1 7 (by omega))
      refine lv_aload_n hx hb dX8_next_49 rfl (lv_at hl 0 rfl) ?_
      refine lv_aload_n hx hb dX8_next_50 rfl (lv_at hl 0 rfl) ?_
      refine fg_8_3 (k := 1) hx hb hts in_X8_next_8 hown hK hP (by decide) (by decide) (hts _ lk_X8_next_22) dX8_next_51 ?_
      refine lv_aload_n hx hb dX8_next_54 rfl (lv_at hl 0 rfl) ?_
      refine fg_8_7 (k := 1) hx hb hts in_X8_next_8 hown hK hP (by decide) (by decide) (hts _ lk_X8_next_69) dX8_next_55 ?_
      obtain ⟨j12, ej12⟩ : ∃ j : Nat, (σ10 1 7).toInt = (j : Int) := ⟨_, ti_nat (by omega)⟩
      refine ad_tokens (k := 38) (j := j12) hx hb hK hP (by decide) (by decide) ej12 (by omega) dX8_next_58 ?_
      refine fp_8_10 (k := 1) hx hb hts in_X8_next_8 hown hK hP (by decide) (by decide) (hts _ lk_X8_next_91) hI hR hS dX8_next_59 (fun σ13 H13 locs13 u13 v13 hR hP hS => ?_)
      have hF := hF.puts u13 0 rfl (by decide) (by decide) (by decide) (by decide)
      have t14 : (σ13 1 7).toInt = (σ10 1 7).toInt := congrArg Int32.toInt (u13 1 7 (by omega))
      refine lv_aload_n hx hb dX8_next_62 rfl (lv_at hl 0 rfl) ?_
      refine lv_aload_n hx hb dX8_next_63 rfl (lv_at hl 0 rfl) ?_
      refine fg_8_4 (k := 1) hx hb hts in_X8_next_8 hown hK hP (by decide) (by decide) (hts _ lk_X8_next_25) dX8_next_64 ?_
      refine lv_aload_n hx hb dX8_next_67 rfl (lv_at hl 0 rfl) ?_
      refine fg_8_7 (k := 1) hx hb hts in_X8_next_8 hown hK hP (by decide) (by decide) (hts _ lk_X8_next_69) dX8_next_68 ?_
      obtain ⟨j15, ej15⟩ : ∃ j : Nat, (σ13 1 7).toInt = (j : Int) := ⟨_, ti_nat (by omega)⟩
      refine ad_names (k := 39) (j := j15) hx hb hK hP (by decide) (by decide) ej15 (by omega) dX8_next_71 (fun z16 => ?_)
      refine fp_8_11 (k := 1) hx hb hts in_X8_next_8 hown hK hP (by decide) (by decide) (hts _ lk_X8_next_94) hI hS dX8_next_72 (fun τ17 H17 locs17 hP hS => ?_)
      refine lv_aload_n hx hb dX8_next_75 rfl (lv_at hl 0 rfl) ?_
      refine lv_dup hx hb dX8_next_76 rfl ?_
      refine fg_8_7 (k := 1) hx hb hts in_X8_next_8 hown hK hP (by decide) (by decide) (hts _ lk_X8_next_69) dX8_next_77 ?_
      refine r_iconst hx hb dX8_next_80 (by decide) (fun z18 ez18 => ?_)
      refine r_iadd hx hb dX8_next_81 (by omega) (fun z19 ez19 => ?_)
      refine fp_8_7 (k := 1) hx hb hts in_X8_next_8 hown hK hP (by decide) (by decide) (hts _ lk_X8_next_69) hI hR hS (by omega) dX8_next_82 (fun σ20 H20 locs20 u20 v20 hR hP hS => ?_)
      have hF := hF.puts u20 0 rfl (by decide) (by decide) (by decide) (by decide)
      exact r_vret hx hb hr hK hP hS hk dX8_next_85 (show P_X8_next σ0 σ20 from ⟨hR, hF⟩)
theorem in_X10_takeManOnce_10 : ∀ w ∈ u_ws RX10 TX10 5, w ∈ wsX10_takeManOnce := by decide +kernel
theorem in_X10_takeManOnce_9 : ∀ w ∈ u_ws RX9 TX9 14, w ∈ wsX10_takeManOnce := by decide +kernel
theorem lk_X10_takeManOnce_15 : Cond.fieldLink RX10 15 "CuckooShares$ValleyText" "into" "LCuckooShares$Valley;" ∈ wsX10_takeManOnce := by decide +kernel
theorem lk_X10_takeManOnce_9 : Cond.fieldLink RX10 9 "CuckooShares$ValleyText" "tape" "LCuckooShares$Tape;" ∈ wsX10_takeManOnce := by decide +kernel
abbrev L_X10_takeManOnce : List Rc := [(1, 1, 7, 10), (1, 1, 13, 14)]
def P_X10_takeManOnce (σ0 : Nat → Nat → Int32) (a1 : Int32) (a2 : Int32) (r : Int32) (σ : Nat → Nat → Int32) : Prop := Rg σ ∧ Fr L_X10_takeManOnce σ0 σ ∧ (-1 ≤ r.toInt ∧ r.toInt ≤ 7)
set_option maxHeartbeats 4000000 in
theorem c_X10_takeManOnce (l : Launch) (D : va_G) (cA : Nat → ClassId) (ad : Nat → Nat) (hI : Inj ad) (σ0 : Nat → Nat → Int32) (τ0 : Nat → Nat → Int64) (hR : Rg σ0) (a1 : Int32) (a2 : Int32) (ha1 : 3 ≤ a1.toInt ∧ a1.toInt ≤ 5) (ha2 : -1 ≤ a2.toInt ∧ a2.toInt ≤ 0) : Met l yX10_takeManOnce wsX10_takeManOnce ({ frames := 3, cells := 0, slots := 0, locals := 63 } : Room) (WQc D cA ad [.ref (ad 6), .int a1, .int a2] σ0 τ0) (va_Qi (fun (r : Int32) (u : SS) => P_X10_takeManOnce σ0 a1 a2 r u.1) (WB D cA ad) (AA ad)) 0 0 (AA ad) := by
  refine Met.ofW (cc := cX10_takeManOnce) (maxL := 4) (ret := (some .int)) (by decide) rfl ?_
  intro p e s m args below meth c s₁ B hml hv
  obtain ⟨rfl, hP, hK, hN⟩ := hv
  have C : Cy p s m _ meth c cX10_takeManOnce 4 wsX10_takeManOnce RX10 D cA ad (some .int) := ⟨B.exec, B.bytes, hml, findClass_of_methodNamed B.named, atoms_spec (ws := wsX10_takeManOnce) B.pre, hK, B.notSynchronized, B.returns, hI, hN⟩
  have hl := lv_entry ([.ref (ad 6), .int a1, .int a2]) (n := 4) (Nat.le_of_ble_eq_true rfl)
  rw [lg_entry_eq]
  generalize (lg_sl ([.ref (ad 6), .int a1, .int a2]) ++ List.replicate (4 - (lg_sl ([.ref (ad 6), .int a1, .int a2])).length) Slot.unset).toArray = ls at hl ⊢
  have hl : lv_has ls 4 [(0, .ref (ad 6)), (1, .int a1), (2, .int a2)] := hl
  have hS : va_S (AA ad) s.heap s.heap [] := va_S.rf
  have hF : Fr L_X10_takeManOnce σ0 σ0 := Fr.rf
  obtain ⟨hx, hb, _, hown, hts, _, hk, hr, _, _⟩ := C
  refine lv_aload_n hx hb dX10_takeManOnce_0 rfl (lv_at hl 0 rfl) ?_
  refine fg_10_0 (k := 6) hx hb hts in_X10_takeManOnce_10 hown hK hP (by decide) (by decide) (hts _ lk_X10_takeManOnce_9) dX10_takeManOnce_1 ?_
  refine r_cVv (k := 1) (As := []) (rest := []) ⟨hx, hb, hml, hown, hts⟩ hK hP hN hS (c_X8_next l D cA ad hI σ0 τ0 hR) (cwV 0 hts gX10_takeManOnce_X8_next rfl rfl rfl (by decide +kernel) ⟨by decide, by decide⟩) (rv_Tape hK hP (by decide) (by decide)) rfl hl.1 rfl (Nat.le_of_ble_eq_true rfl) dX10_takeManOnce_4 (Nat.zero_le _) (Nat.zero_le _) (fun u1 H1 locs1 hp1 hP hS => ?_)
  obtain ⟨σ1, τ1⟩ := u1
  obtain ⟨hR, f1⟩ : P_X8_next σ0 σ1 := hp1
  have hP : va_P D vwCl (gw cA ad σ1 τ1) H1 := hP
  have hF := hF.step f1 (by decide)
  refine lv_aload_n hx hb dX10_takeManOnce_7 rfl (lv_at hl 0 rfl) ?_
  refine fg_10_0 (k := 6) hx hb hts in_X10_takeManOnce_10 hown hK hP (by decide) (by decide) (hts _ lk_X10_takeManOnce_9) dX10_takeManOnce_8 ?_
  refine lv_aload_n hx hb dX10_takeManOnce_11 rfl (lv_at hl 0 rfl) ?_
  refine fg_10_1 (k := 6) hx hb hts in_X10_takeManOnce_10 hown hK hP (by decide) (by decide) (hts _ lk_X10_takeManOnce_15) dX10_takeManOnce_12 ?_
  refine r_cVi (k := 1) (As := [.ref (ad 3)]) (rest := []) ⟨hx, hb, hml, hown, hts⟩ hK hP hN hS (c_X8_manHere l D cA ad hI σ1 τ1 hR 3 ⟨by omega, by omega⟩) (cwV 1 hts gX10_takeManOnce_X8_manHere rfl rfl rfl (by decide +kernel) ⟨by decide, by decide⟩) (rv_Tape hK hP (by decide) (by decide)) rfl hl.1 rfl (Nat.le_of_ble_eq_true rfl) dX10_takeManOnce_15 (Nat.zero_le _) (Nat.zero_le _) (fun r2 u2 H2 locs2 hp2 hP hS => ?_)
  obtain ⟨σ2, τ2⟩ := u2
  obtain ⟨hR, f2, hq2⟩ : P_X8_manHere σ1 3 r2 σ2 := hp2
  have hP : va_P D vwCl (gw cA ad σ2 τ2) H2 := hP
  have hF := hF.step f2 (by decide)
  refine lv_istore_n (lv' := [(3, .int r2), (0, .ref (ad 6)), (1, .int a1), (2, .int a2)]) hx hb dX10_takeManOnce_18 rfl hl (by decide) rfl (fun ls hl => ?_)
  refine lv_iload_n hx hb dX10_takeManOnce_19 rfl (lv_at hl 0 rfl) ?_
  refine r_iconst hx hb dX10_takeManOnce_20 (by decide) (fun z3 ez3 => ?_)
  refine r_icmp_ne (tgt := 26) hx hb dX10_takeManOnce_21 (by decide) (fun c4 => ?_) (fun c4 => ?_)
  · refine lv_aload_n hx hb dX10_takeManOnce_26 rfl (lv_at hl 1 rfl) ?_
    refine fg_10_1 (k := 6) hx hb hts in_X10_takeManOnce_10 hown hK hP (by decide) (by decide) (hts _ lk_X10_takeManOnce_15) dX10_takeManOnce_27 ?_
    refine fgN_9_10 (k := 3) hx hb hts in_X10_takeManOnce_9 hown hK hP (by decide) (by decide) (hN.use nw_10_144) dX10_takeManOnce_30 ?_
    refine lv_iload_n hx hb dX10_takeManOnce_33 rfl (lv_at hl 0 rfl) ?_
    obtain ⟨j5, ej5⟩ : ∃ j : Nat, r2.toInt = (j : Int) := ⟨_, ti_nat (by omega)⟩
    refine ad_manA (k := 53) (j := j5) hx hb hK hP (by decide) (by decide) ej5 (by omega) dX10_takeManOnce_34 ?_
    refine lv_iload_n hx hb dX10_takeManOnce_35 rfl (lv_at hl 2 rfl) ?_
    obtain ⟨j6, ej6⟩ : ∃ j : Nat, a1.toInt = (j : Int) := ⟨_, ti_nat (by omega)⟩
    refine ad_manR (k := 108 + j5) (j := j6) hx hb hK hP (by omega) (by omega) ej6 (by omega) dX10_takeManOnce_36 ?_
    refine lv_iload_n hx hb dX10_takeManOnce_37 rfl (lv_at hl 3 rfl) ?_
    refine r_icmp_eq (tgt := 52) hx hb dX10_takeManOnce_38 (by decide) (fun c7 => ?_) (fun c7 => ?_)
    · refine lv_aload_n hx hb dX10_takeManOnce_52 rfl (lv_at hl 1 rfl) ?_
      refine fg_10_0 (k := 6) hx hb hts in_X10_takeManOnce_10 hown hK hP (by decide) (by decide) (hts _ lk_X10_takeManOnce_9) dX10_takeManOnce_53 ?_
      refine r_cVv (k := 1) (As := []) (rest := []) ⟨hx, hb, hml, hown, hts⟩ hK hP hN hS (c_X8_next l D cA ad hI σ2 τ2 hR) (cwV 0 hts gX10_takeManOnce_X8_next rfl rfl rfl (by decide +kernel) ⟨by decide, by decide⟩) (rv_Tape hK hP (by decide) (by decide)) rfl hl.1 rfl (Nat.le_of_ble_eq_true rfl) dX10_takeManOnce_56 (Nat.zero_le _) (Nat.zero_le _) (fun u8 H8 locs8 hp8 hP hS => ?_)
      obtain ⟨σ8, τ8⟩ := u8
      obtain ⟨hR, f8⟩ : P_X8_next σ2 σ8 := hp8
      have hP : va_P D vwCl (gw cA ad σ8 τ8) H8 := hP
      have hF := hF.step f8 (by decide)
      refine lv_iload_n hx hb dX10_takeManOnce_59 rfl (lv_at hl 0 rfl) ?_
      exact r_iret hx hb hr hK hP hS hk dX10_takeManOnce_60 (show P_X10_takeManOnce σ0 a1 a2 r2 σ8 from ⟨hR, hF, by omega⟩)
    · refine lv_aload_n hx hb dX10_takeManOnce_41 rfl (lv_at hl 1 rfl) ?_
      refine fg_10_0 (k := 6) hx hb hts in_X10_takeManOnce_10 hown hK hP (by decide) (by decide) (hts _ lk_X10_takeManOnce_9) dX10_takeManOnce_42 ?_
      refine r_iconst hx hb dX10_takeManOnce_45 (by decide) (fun z9 ez9 => ?_)
      refine r_cVi (k := 1) (As := [.int z9]) (rest := []) ⟨hx, hb, hml, hown, hts⟩ hK hP hN hS (c_X8_blame l D cA ad hI σ2 τ2 hR z9 (by omega)) (cwV 1 hts gX10_takeManOnce_X8_blame rfl rfl rfl (by decide +kernel) ⟨by decide, by decide⟩) (rv_Tape hK hP (by decide) (by decide)) rfl hl.1 rfl (Nat.le_of_ble_eq_true rfl) dX10_takeManOnce_46 (Nat.zero_le _) (Nat.zero_le _) (fun r10 u10 H10 locs10 hp10 hP hS => ?_)
      obtain ⟨σ10, τ10⟩ := u10
      obtain ⟨hR, f10, hq10⟩ : P_X8_blame σ2 z9 r10 σ10 := hp10
      have hP : va_P D vwCl (gw cA ad σ10 τ10) H10 := hP
      have hF := hF.step f10 (by decide)
      refine lv_pop hx hb dX10_takeManOnce_49 rfl ?_
      refine r_iconst hx hb dX10_takeManOnce_50 (by decide) (fun z11 ez11 => ?_)
      exact r_iret hx hb hr hK hP hS hk dX10_takeManOnce_51 (show P_X10_takeManOnce σ0 a1 a2 z11 σ10 from ⟨hR, hF, by omega⟩)
  · refine r_iconst hx hb dX10_takeManOnce_24 (by decide) (fun z12 ez12 => ?_)
    exact r_iret hx hb hr hK hP hS hk dX10_takeManOnce_25 (show P_X10_takeManOnce σ0 a1 a2 z12 σ2 from ⟨hR, hF, by omega⟩)
theorem in_X10_readDeaf_10 : ∀ w ∈ u_ws RX10 TX10 5, w ∈ wsX10_readDeaf := by decide +kernel
theorem in_X10_readDeaf_9 : ∀ w ∈ u_ws RX9 TX9 14, w ∈ wsX10_readDeaf := by decide +kernel
theorem lk_X10_readDeaf_15 : Cond.fieldLink RX10 15 "CuckooShares$ValleyText" "into" "LCuckooShares$Valley;" ∈ wsX10_readDeaf := by decide +kernel
theorem lk_X10_readDeaf_9 : Cond.fieldLink RX10 9 "CuckooShares$ValleyText" "tape" "LCuckooShares$Tape;" ∈ wsX10_readDeaf := by decide +kernel
abbrev L_X10_readDeaf : List Rc := [(1, 1, 7, 10), (1, 1, 13, 14), (108, 115, 4, 4)]
def P_X10_readDeaf (σ0 : Nat → Nat → Int32)  (r : Int32) (σ : Nat → Nat → Int32) : Prop := Rg σ ∧ Fr L_X10_readDeaf σ0 σ ∧ (0 ≤ r.toInt ∧ r.toInt ≤ 1)
set_option maxHeartbeats 4000000 in
theorem c_X10_readDeaf (l : Launch) (D : va_G) (cA : Nat → ClassId) (ad : Nat → Nat) (hI : Inj ad) (σ0 : Nat → Nat → Int32) (τ0 : Nat → Nat → Int64) (hR : Rg σ0)   : Met l yX10_readDeaf wsX10_readDeaf ({ frames := 4, cells := 0, slots := 0, locals := 86 } : Room) (WQc D cA ad [.ref (ad 6)] σ0 τ0) (va_Qi (fun (r : Int32) (u : SS) => P_X10_readDeaf σ0 r u.1) (WB D cA ad) (AA ad)) 0 0 (AA ad) := by
  refine Met.ofW (cc := cX10_readDeaf) (maxL := 3) (ret := (some .boolean)) (by decide) rfl ?_
  intro p e s m args below meth c s₁ B hml hv
  obtain ⟨rfl, hP, hK, hN⟩ := hv
  have C : Cy p s m _ meth c cX10_readDeaf 3 wsX10_readDeaf RX10 D cA ad (some .boolean) := ⟨B.exec, B.bytes, hml, findClass_of_methodNamed B.named, atoms_spec (ws := wsX10_readDeaf) B.pre, hK, B.notSynchronized, B.returns, hI, hN⟩
  have hl := lv_entry ([.ref (ad 6)]) (n := 3) (Nat.le_of_ble_eq_true rfl)
  rw [lg_entry_eq]
  generalize (lg_sl ([.ref (ad 6)]) ++ List.replicate (3 - (lg_sl ([.ref (ad 6)])).length) Slot.unset).toArray = ls at hl ⊢
  have hl : lv_has ls 3 [(0, .ref (ad 6))] := hl
  have hS : va_S (AA ad) s.heap s.heap [] := va_S.rf
  have hF : Fr L_X10_readDeaf σ0 σ0 := Fr.rf
  obtain ⟨hx, hb, _, hown, hts, _, hk, hr, _, _⟩ := C
  refine lv_aload_n hx hb dX10_readDeaf_0 rfl (lv_at hl 0 rfl) ?_
  refine r_iconst hx hb dX10_readDeaf_1 (by decide) (fun z1 ez1 => ?_)
  refine r_iconst hx hb dX10_readDeaf_2 (by decide) (fun z2 ez2 => ?_)
  refine r_cVi (k := 6) (As := [.int z1, .int z2]) (rest := []) ⟨hx, hb, hml, hown, hts⟩ hK hP hN hS (c_X10_takeManOnce l D cA ad hI σ0 τ0 hR z1 z2 (by omega) (by omega)) (cwV 2 hts gX10_readDeaf_X10_takeManOnce rfl rfl rfl (by decide +kernel) ⟨by decide, by decide⟩) (rv_VText hK hP (by decide) (by decide)) rfl hl.1 rfl (Nat.le_of_ble_eq_true rfl) dX10_readDeaf_3 (Nat.zero_le _) (Nat.zero_le _) (fun r3 u3 H3 locs3 hp3 hP hS => ?_)
  obtain ⟨σ3, τ3⟩ := u3
  obtain ⟨hR, f3, hq3⟩ : P_X10_takeManOnce σ0 z1 z2 r3 σ3 := hp3
  have hP : va_P D vwCl (gw cA ad σ3 τ3) H3 := hP
  have hF := hF.step f3 (by decide)
  refine lv_istore_n (lv' := [(1, .int r3), (0, .ref (ad 6))]) hx hb dX10_readDeaf_6 rfl hl (by decide) rfl (fun ls hl => ?_)
  refine lv_iload_n hx hb dX10_readDeaf_7 rfl (lv_at hl 0 rfl) ?_
  refine r_iconst hx hb dX10_readDeaf_8 (by decide) (fun z4 ez4 => ?_)
  refine r_icmp_ne (tgt := 14) hx hb dX10_readDeaf_9 (by decide) (fun c5 => ?_) (fun c5 => ?_)
  · refine lv_aload_n hx hb dX10_readDeaf_14 rfl (lv_at hl 1 rfl) ?_
    refine fg_10_0 (k := 6) hx hb hts in_X10_readDeaf_10 hown hK hP (by decide) (by decide) (hts _ lk_X10_readDeaf_9) dX10_readDeaf_15 ?_
    refine lv_aload_n hx hb dX10_readDeaf_18 rfl (lv_at hl 1 rfl) ?_
    refine fg_10_1 (k := 6) hx hb hts in_X10_readDeaf_10 hown hK hP (by decide) (by decide) (hts _ lk_X10_readDeaf_15) dX10_readDeaf_19 ?_
    refine r_cVi (k := 1) (As := [.ref (ad 3)]) (rest := []) ⟨hx, hb, hml, hown, hts⟩ hK hP hN hS (c_X8_manHere l D cA ad hI σ3 τ3 hR 3 ⟨by omega, by omega⟩) (cwV 1 hts gX10_readDeaf_X8_manHere rfl rfl rfl (by decide +kernel) ⟨by decide, by decide⟩) (rv_Tape hK hP (by decide) (by decide)) rfl hl.1 rfl (Nat.le_of_ble_eq_true rfl) dX10_readDeaf_22 (Nat.zero_le _) (Nat.zero_le _) (fun r6 u6 H6 locs6 hp6 hP hS => ?_)
    obtain ⟨σ6, τ6⟩ := u6
    obtain ⟨hR, f6, hq6⟩ : P_X8_manHere σ3 3 r6 σ6 := hp6
    have hP : va_P D vwCl (gw cA ad σ6 τ6) H6 := hP
    have hF := hF.step f6 (by decide)
    refine lv_istore_n (lv' := [(2, .int r6), (1, .int r3), (0, .ref (ad 6))]) hx hb dX10_readDeaf_25 rfl hl (by decide) rfl (fun ls hl => ?_)
    refine lv_iload_n hx hb dX10_readDeaf_26 rfl (lv_at hl 0 rfl) ?_
    refine r_iconst hx hb dX10_readDeaf_27 (by decide) (fun z7 ez7 => ?_)
    refine r_icmp_ne (tgt := 33) hx hb dX10_readDeaf_28 (by decide) (fun c8 => ?_) (fun c8 => ?_)
    · refine lv_iload_n hx hb dX10_readDeaf_33 rfl (lv_at hl 0 rfl) ?_
      refine lv_iload_n hx hb dX10_readDeaf_34 rfl (lv_at hl 1 rfl) ?_
      refine r_icmp_ne (tgt := 47) hx hb dX10_readDeaf_35 (by decide) (fun c9 => ?_) (fun c9 => ?_)
      · refine lv_aload_n hx hb dX10_readDeaf_47 rfl (lv_at hl 2 rfl) ?_
        refine fg_10_1 (k := 6) hx hb hts in_X10_readDeaf_10 hown hK hP (by decide) (by decide) (hts _ lk_X10_readDeaf_15) dX10_readDeaf_48 ?_
        refine fgN_9_10 (k := 3) hx hb hts in_X10_readDeaf_9 hown hK hP (by decide) (by decide) (hN.use nw_10_144) dX10_readDeaf_51 ?_
        refine lv_iload_n hx hb dX10_readDeaf_54 rfl (lv_at hl 1 rfl) ?_
        obtain ⟨j10, ej10⟩ : ∃ j : Nat, r3.toInt = (j : Int) := ⟨_, ti_nat (by omega)⟩
        refine ad_manA (k := 53) (j := j10) hx hb hK hP (by decide) (by decide) ej10 (by omega) dX10_readDeaf_55 ?_
        refine r_iconst hx hb dX10_readDeaf_56 (by decide) (fun z11 ez11 => ?_)
        refine lv_iload_n hx hb dX10_readDeaf_57 rfl (lv_at hl 0 rfl) ?_
        refine as_manR (k := 108 + j10) (j := 4) hx hb hK hP hI hR hS (by omega) (by omega) (by omega) (by omega) dX10_readDeaf_58 (fun σ12 H12 locs12 u12 v12 hR hP hS => ?_)
        have hF := hF.puts u12 2 rfl (by omega) (by omega) (by decide) (by decide)
        refine lv_aload_n hx hb dX10_readDeaf_59 rfl (lv_at hl 2 rfl) ?_
        refine fg_10_0 (k := 6) hx hb hts in_X10_readDeaf_10 hown hK hP (by decide) (by decide) (hts _ lk_X10_readDeaf_9) dX10_readDeaf_60 ?_
        refine r_cVv (k := 1) (As := []) (rest := []) ⟨hx, hb, hml, hown, hts⟩ hK hP hN hS (c_X8_next l D cA ad hI σ12 τ6 hR) (cwV 0 hts gX10_readDeaf_X8_next rfl rfl rfl (by decide +kernel) ⟨by decide, by decide⟩) (rv_Tape hK hP (by decide) (by decide)) rfl hl.1 rfl (Nat.le_of_ble_eq_true rfl) dX10_readDeaf_63 (Nat.zero_le _) (Nat.zero_le _) (fun u13 H13 locs13 hp13 hP hS => ?_)
        obtain ⟨σ13, τ13⟩ := u13
        obtain ⟨hR, f13⟩ : P_X8_next σ12 σ13 := hp13
        have hP : va_P D vwCl (gw cA ad σ13 τ13) H13 := hP
        have hF := hF.step f13 (by decide)
        refine r_iconst hx hb dX10_readDeaf_66 (by decide) (fun z14 ez14 => ?_)
        exact r_zret hx hb hr hK hP hS hk (by omega) dX10_readDeaf_67 (show P_X10_readDeaf σ0 z14 σ13 from ⟨hR, hF, by omega⟩)
      · refine lv_aload_n hx hb dX10_readDeaf_38 rfl (lv_at hl 2 rfl) ?_
        refine fg_10_0 (k := 6) hx hb hts in_X10_readDeaf_10 hown hK hP (by decide) (by decide) (hts _ lk_X10_readDeaf_9) dX10_readDeaf_39 ?_
        refine r_iconst hx hb dX10_readDeaf_42 (by decide) (fun z15 ez15 => ?_)
        refine r_cVi (k := 1) (As := [.int z15]) (rest := []) ⟨hx, hb, hml, hown, hts⟩ hK hP hN hS (c_X8_blame l D cA ad hI σ6 τ6 hR z15 (by omega)) (cwV 1 hts gX10_readDeaf_X8_blame rfl rfl rfl (by decide +kernel) ⟨by decide, by decide⟩) (rv_Tape hK hP (by decide) (by decide)) rfl hl.1 rfl (Nat.le_of_ble_eq_true rfl) dX10_readDeaf_43 (Nat.zero_le _) (Nat.zero_le _) (fun r16 u16 H16 locs16 hp16 hP hS => ?_)
        obtain ⟨σ16, τ16⟩ := u16
        obtain ⟨hR, f16, hq16⟩ : P_X8_blame σ6 z15 r16 σ16 := hp16
        have hP : va_P D vwCl (gw cA ad σ16 τ16) H16 := hP
        have hF := hF.step f16 (by decide)
        exact r_zret hx hb hr hK hP hS hk (by omega) dX10_readDeaf_46 (show P_X10_readDeaf σ0 r16 σ16 from ⟨hR, hF, by omega⟩)
    · refine r_iconst hx hb dX10_readDeaf_31 (by decide) (fun z17 ez17 => ?_)
      exact r_zret hx hb hr hK hP hS hk (by omega) dX10_readDeaf_32 (show P_X10_readDeaf σ0 z17 σ6 from ⟨hR, hF, by omega⟩)
  · refine r_iconst hx hb dX10_readDeaf_12 (by decide) (fun z18 ez18 => ?_)
    exact r_zret hx hb hr hK hP hS hk (by omega) dX10_readDeaf_13 (show P_X10_readDeaf σ0 z18 σ3 from ⟨hR, hF, by omega⟩)
theorem in_X8_takeNumber_8 : ∀ w ∈ u_ws RX8 TX8 15, w ∈ wsX8_takeNumber := by decide +kernel
theorem lk_X8_takeNumber_125 : Cond.fieldLink RX8 125 "CuckooShares$Tape" "value" "I" ∈ wsX8_takeNumber := by decide +kernel
theorem lk_X8_takeNumber_85 : Cond.fieldLink RX8 85 "CuckooShares$Tape" "token" "I" ∈ wsX8_takeNumber := by decide +kernel
theorem lk_X8_takeNumber_91 : Cond.fieldLink RX8 91 "CuckooShares$Tape" "number" "I" ∈ wsX8_takeNumber := by decide +kernel
abbrev L_X8_takeNumber : List Rc := [(1, 1, 7, 10), (1, 1, 12, 14)]
def P_X8_takeNumber (σ0 : Nat → Nat → Int32) (a1 : Int32) (a2 : Int32) (r : Int32) (σ : Nat → Nat → Int32) : Prop := Rg σ ∧ Fr L_X8_takeNumber σ0 σ ∧ (0 ≤ r.toInt ∧ r.toInt ≤ 1)
set_option maxHeartbeats 4000000 in
theorem c_X8_takeNumber (l : Launch) (D : va_G) (cA : Nat → ClassId) (ad : Nat → Nat) (hI : Inj ad) (σ0 : Nat → Nat → Int32) (τ0 : Nat → Nat → Int64) (hR : Rg σ0) (a1 : Int32) (a2 : Int32) (ha2 : 3 ≤ a2.toInt ∧ a2.toInt ≤ 999) : Met l yX8_takeNumber wsX8_takeNumber ({ frames := 1, cells := 0, slots := 0, locals := 21 } : Room) (WQc D cA ad [.ref (ad 1), .int a1, .int a2] σ0 τ0) (va_Qi (fun (r : Int32) (u : SS) => P_X8_takeNumber σ0 a1 a2 r u.1) (WB D cA ad) (AA ad)) 0 0 (AA ad) := by
  refine Met.ofW (cc := cX8_takeNumber) (maxL := 3) (ret := (some .boolean)) (by decide) rfl ?_
  intro p e s m args below meth c s₁ B hml hv
  obtain ⟨rfl, hP, hK, hN⟩ := hv
  have C : Cy p s m _ meth c cX8_takeNumber 3 wsX8_takeNumber RX8 D cA ad (some .boolean) := ⟨B.exec, B.bytes, hml, findClass_of_methodNamed B.named, atoms_spec (ws := wsX8_takeNumber) B.pre, hK, B.notSynchronized, B.returns, hI, hN⟩
  have hl := lv_entry ([.ref (ad 1), .int a1, .int a2]) (n := 3) (Nat.le_of_ble_eq_true rfl)
  rw [lg_entry_eq]
  generalize (lg_sl ([.ref (ad 1), .int a1, .int a2]) ++ List.replicate (3 - (lg_sl ([.ref (ad 1), .int a1, .int a2])).length) Slot.unset).toArray = ls at hl ⊢
  have hl : lv_has ls 3 [(0, .ref (ad 1)), (1, .int a1), (2, .int a2)] := hl
  have hS : va_S (AA ad) s.heap s.heap [] := va_S.rf
  have hF : Fr L_X8_takeNumber σ0 σ0 := Fr.rf
  obtain ⟨hx, hb, _, hown, hts, _, hk, hr, _, _⟩ := C
  refine lv_aload_n hx hb dX8_takeNumber_0 rfl (lv_at hl 0 rfl) ?_
  refine fg_8_9 (k := 1) hx hb hts in_X8_takeNumber_8 hown hK hP (by decide) (by decide) (hts _ lk_X8_takeNumber_85) dX8_takeNumber_1 ?_
  refine r_bipush hx hb dX8_takeNumber_4 (by decide) (fun z1 ez1 => ?_)
  refine r_icmp_eq (tgt := 15) hx hb dX8_takeNumber_6 (by decide) (fun c2 => ?_) (fun c2 => ?_)
  · refine lv_aload_n hx hb dX8_takeNumber_15 rfl (lv_at hl 0 rfl) ?_
    refine fg_8_10 (k := 1) hx hb hts in_X8_takeNumber_8 hown hK hP (by decide) (by decide) (hts _ lk_X8_takeNumber_91) dX8_takeNumber_16 ?_
    refine lv_iload_n hx hb dX8_takeNumber_19 rfl (lv_at hl 1 rfl) ?_
    refine r_icmp_lt (tgt := 31) hx hb dX8_takeNumber_20 (by decide) (fun c3 => ?_) (fun c3 => ?_)
    · refine lv_aload_n hx hb dX8_takeNumber_31 rfl (lv_at hl 0 rfl) ?_
      refine r_iconst hx hb dX8_takeNumber_32 (by decide) (fun z4 ez4 => ?_)
      refine r_cVi (k := 1) (As := [.int z4]) (rest := []) ⟨hx, hb, hml, hown, hts⟩ hK hP hN hS (c_X8_blame l D cA ad hI σ0 τ0 hR z4 (by omega)) (cwV 1 hts gX8_takeNumber_X8_blame rfl rfl rfl (by decide +kernel) ⟨by decide, by decide⟩) (rv_Tape hK hP (by decide) (by decide)) rfl hl.1 rfl (Nat.le_of_ble_eq_true rfl) dX8_takeNumber_33 (Nat.zero_le _) (Nat.zero_le _) (fun r5 u5 H5 locs5 hp5 hP hS => ?_)
      obtain ⟨σ5, τ5⟩ := u5
      obtain ⟨hR, f5, hq5⟩ : P_X8_blame σ0 z4 r5 σ5 := hp5
      have hP : va_P D vwCl (gw cA ad σ5 τ5) H5 := hP
      have hF := hF.step f5 (by decide)
      have t6 : (σ5 1 10).toInt = (σ0 1 10).toInt := congrArg Int32.toInt (f5.at 1 10 (by decide))
      exact r_zret hx hb hr hK hP hS hk (by omega) dX8_takeNumber_36 (show P_X8_takeNumber σ0 a1 a2 r5 σ5 from ⟨hR, hF, by omega⟩)
    · refine lv_aload_n hx hb dX8_takeNumber_23 rfl (lv_at hl 0 rfl) ?_
      refine fg_8_10 (k := 1) hx hb hts in_X8_takeNumber_8 hown hK hP (by decide) (by decide) (hts _ lk_X8_takeNumber_91) dX8_takeNumber_24 ?_
      refine lv_iload_n hx hb dX8_takeNumber_27 rfl (lv_at hl 2 rfl) ?_
      refine r_icmp_le (tgt := 37) hx hb dX8_takeNumber_28 (by decide) (fun c7 => ?_) (fun c7 => ?_)
      · refine lv_aload_n hx hb dX8_takeNumber_37 rfl (lv_at hl 0 rfl) ?_
        refine lv_aload_n hx hb dX8_takeNumber_38 rfl (lv_at hl 0 rfl) ?_
        refine fg_8_10 (k := 1) hx hb hts in_X8_takeNumber_8 hown hK hP (by decide) (by decide) (hts _ lk_X8_takeNumber_91) dX8_takeNumber_39 ?_
        refine fp_8_12 (k := 1) hx hb hts in_X8_takeNumber_8 hown hK hP (by decide) (by decide) (hts _ lk_X8_takeNumber_125) hI hR hS dX8_takeNumber_42 (fun σ8 H8 locs8 u8 v8 hR hP hS => ?_)
        have hF := hF.puts u8 1 rfl (by decide) (by decide) (by decide) (by decide)
        have t9 : (σ8 1 10).toInt = (σ0 1 10).toInt := congrArg Int32.toInt (u8 1 10 (by omega))
        refine lv_aload_n hx hb dX8_takeNumber_45 rfl (lv_at hl 0 rfl) ?_
        refine r_cVv (k := 1) (As := []) (rest := []) ⟨hx, hb, hml, hown, hts⟩ hK hP hN hS (c_X8_next l D cA ad hI σ8 τ0 hR) (cwV 0 hts gX8_takeNumber_X8_next rfl rfl rfl (by decide +kernel) ⟨by decide, by decide⟩) (rv_Tape hK hP (by decide) (by decide)) rfl hl.1 rfl (Nat.le_of_ble_eq_true rfl) dX8_takeNumber_46 (Nat.zero_le _) (Nat.zero_le _) (fun u10 H10 locs10 hp10 hP hS => ?_)
        obtain ⟨σ10, τ10⟩ := u10
        obtain ⟨hR, f10⟩ : P_X8_next σ8 σ10 := hp10
        have hP : va_P D vwCl (gw cA ad σ10 τ10) H10 := hP
        have hF := hF.step f10 (by decide)
        refine r_iconst hx hb dX8_takeNumber_49 (by decide) (fun z11 ez11 => ?_)
        exact r_zret hx hb hr hK hP hS hk (by omega) dX8_takeNumber_50 (show P_X8_takeNumber σ0 a1 a2 z11 σ10 from ⟨hR, hF, by omega⟩)
      · refine lv_aload_n hx hb dX8_takeNumber_31 rfl (lv_at hl 0 rfl) ?_
        refine r_iconst hx hb dX8_takeNumber_32 (by decide) (fun z12 ez12 => ?_)
        refine r_cVi (k := 1) (As := [.int z12]) (rest := []) ⟨hx, hb, hml, hown, hts⟩ hK hP hN hS (c_X8_blame l D cA ad hI σ0 τ0 hR z12 (by omega)) (cwV 1 hts gX8_takeNumber_X8_blame rfl rfl rfl (by decide +kernel) ⟨by decide, by decide⟩) (rv_Tape hK hP (by decide) (by decide)) rfl hl.1 rfl (Nat.le_of_ble_eq_true rfl) dX8_takeNumber_33 (Nat.zero_le _) (Nat.zero_le _) (fun r13 u13 H13 locs13 hp13 hP hS => ?_)
        obtain ⟨σ13, τ13⟩ := u13
        obtain ⟨hR, f13, hq13⟩ : P_X8_blame σ0 z12 r13 σ13 := hp13
        have hP : va_P D vwCl (gw cA ad σ13 τ13) H13 := hP
        have hF := hF.step f13 (by decide)
        have t14 : (σ13 1 10).toInt = (σ0 1 10).toInt := congrArg Int32.toInt (f13.at 1 10 (by decide))
        exact r_zret hx hb hr hK hP hS hk (by omega) dX8_takeNumber_36 (show P_X8_takeNumber σ0 a1 a2 r13 σ13 from ⟨hR, hF, by omega⟩)
  · refine lv_aload_n hx hb dX8_takeNumber_9 rfl (lv_at hl 0 rfl) ?_
    refine r_iconst hx hb dX8_takeNumber_10 (by decide) (fun z15 ez15 => ?_)
    refine r_cVi (k := 1) (As := [.int z15]) (rest := []) ⟨hx, hb, hml, hown, hts⟩ hK hP hN hS (c_X8_blame l D cA ad hI σ0 τ0 hR z15 (by omega)) (cwV 1 hts gX8_takeNumber_X8_blame rfl rfl rfl (by decide +kernel) ⟨by decide, by decide⟩) (rv_Tape hK hP (by decide) (by decide)) rfl hl.1 rfl (Nat.le_of_ble_eq_true rfl) dX8_takeNumber_11 (Nat.zero_le _) (Nat.zero_le _) (fun r16 u16 H16 locs16 hp16 hP hS => ?_)
    obtain ⟨σ16, τ16⟩ := u16
    obtain ⟨hR, f16, hq16⟩ : P_X8_blame σ0 z15 r16 σ16 := hp16
    have hP : va_P D vwCl (gw cA ad σ16 τ16) H16 := hP
    have hF := hF.step f16 (by decide)
    exact r_zret hx hb hr hK hP hS hk (by omega) dX8_takeNumber_14 (show P_X8_takeNumber σ0 a1 a2 r16 σ16 from ⟨hR, hF, by omega⟩)
theorem in_X10_readInto_10 : ∀ w ∈ u_ws RX10 TX10 5, w ∈ wsX10_readInto := by decide +kernel
theorem in_X10_readInto_8 : ∀ w ∈ u_ws RX8 TX8 15, w ∈ wsX10_readInto := by decide +kernel
theorem lk_X10_readInto_9 : Cond.fieldLink RX10 9 "CuckooShares$ValleyText" "tape" "LCuckooShares$Tape;" ∈ wsX10_readInto := by decide +kernel
abbrev L_X10_readInto_hillR : List Rc := [(1, 1, 7, 10), (1, 1, 12, 14), (76, 83, 0, 2)]
def P_X10_readInto_hillR (σ0 : Nat → Nat → Int32) (k1 : Nat) (a2 : Int32) (a3 : Int32) (a4 : Int32) (r : Int32) (σ : Nat → Nat → Int32) : Prop := Rg σ ∧ Fr L_X10_readInto_hillR σ0 σ ∧ (0 ≤ r.toInt ∧ r.toInt ≤ 1)
set_option maxHeartbeats 4000000 in
theorem c_X10_readInto_hillR (l : Launch) (D : va_G) (cA : Nat → ClassId) (ad : Nat → Nat) (hI : Inj ad) (σ0 : Nat → Nat → Int32) (τ0 : Nat → Nat → Int64) (hR : Rg σ0) (k1 : Nat) (a2 : Int32) (a3 : Int32) (a4 : Int32) (hk1 : 76 ≤ k1 ∧ k1 ≤ 83) (ha2 : 0 ≤ a2.toInt ∧ a2.toInt ≤ 2) (ha3 : 0 ≤ a3.toInt ∧ a3.toInt ≤ 0) (ha4 : 9 ≤ a4.toInt ∧ a4.toInt ≤ 20) : Met l yX10_readInto wsX10_readInto ({ frames := 2, cells := 0, slots := 0, locals := 43 } : Room) (WQc D cA ad [.ref (ad 6), .ref (ad k1), .int a2, .int a3, .int a4] σ0 τ0) (va_Qi (fun (r : Int32) (u : SS) => P_X10_readInto_hillR σ0 k1 a2 a3 a4 r u.1) (WB D cA ad) (AA ad)) 0 0 (AA ad) := by
  refine Met.ofW (cc := cX10_readInto) (maxL := 5) (ret := (some .boolean)) (by decide) rfl ?_
  intro p e s m args below meth c s₁ B hml hv
  obtain ⟨rfl, hP, hK, hN⟩ := hv
  have C : Cy p s m _ meth c cX10_readInto 5 wsX10_readInto RX10 D cA ad (some .boolean) := ⟨B.exec, B.bytes, hml, findClass_of_methodNamed B.named, atoms_spec (ws := wsX10_readInto) B.pre, hK, B.notSynchronized, B.returns, hI, hN⟩
  have hl := lv_entry ([.ref (ad 6), .ref (ad k1), .int a2, .int a3, .int a4]) (n := 5) (Nat.le_of_ble_eq_true rfl)
  rw [lg_entry_eq]
  generalize (lg_sl ([.ref (ad 6), .ref (ad k1), .int a2, .int a3, .int a4]) ++ List.replicate (5 - (lg_sl ([.ref (ad 6), .ref (ad k1), .int a2, .int a3, .int a4])).length) Slot.unset).toArray = ls at hl ⊢
  have hl : lv_has ls 5 [(0, .ref (ad 6)), (1, .ref (ad k1)), (2, .int a2), (3, .int a3), (4, .int a4)] := hl
  have hS : va_S (AA ad) s.heap s.heap [] := va_S.rf
  have hF : Fr L_X10_readInto_hillR σ0 σ0 := Fr.rf
  obtain ⟨hx, hb, _, hown, hts, _, hk, hr, _, _⟩ := C
  refine lv_iload_n hx hb dX10_readInto_0 rfl (lv_at hl 2 rfl) ?_
  refine r_if_lt (tgt := 23) hx hb dX10_readInto_1 (by decide) (fun c1 => ?_) (fun c1 => ?_)
  · exfalso; omega
  · refine lv_iload_n hx hb dX10_readInto_4 rfl (lv_at hl 2 rfl) ?_
    refine lv_aload_n hx hb dX10_readInto_5 rfl (lv_at hl 1 rfl) ?_
    refine al_hillR (k := k1) hx hb hK hP (by omega) (by omega) dX10_readInto_6 (fun z2 ez2 => ?_)
    refine r_icmp_ge (tgt := 23) hx hb dX10_readInto_7 (by decide) (fun c3 => ?_) (fun c3 => ?_)
    · exfalso; omega
    · refine lv_aload_n hx hb dX10_readInto_10 rfl (lv_at hl 0 rfl) ?_
      refine fg_10_0 (k := 6) hx hb hts in_X10_readInto_10 hown hK hP (by decide) (by decide) (hts _ lk_X10_readInto_9) dX10_readInto_11 ?_
      refine lv_iload_n hx hb dX10_readInto_14 rfl (lv_at hl 3 rfl) ?_
      refine lv_iload hx hb dX10_readInto_15 (lv_at hl 4 rfl) ?_
      refine r_cVi (k := 1) (As := [.int a3, .int a4]) (rest := []) ⟨hx, hb, hml, hown, hts⟩ hK hP hN hS (c_X8_takeNumber l D cA ad hI σ0 τ0 hR a3 a4 (by omega)) (cwV 2 hts gX10_readInto_X8_takeNumber rfl rfl rfl (by decide +kernel) ⟨by decide, by decide⟩) (rv_Tape hK hP (by decide) (by decide)) rfl hl.1 rfl (Nat.le_of_ble_eq_true rfl) dX10_readInto_17 (Nat.zero_le _) (Nat.zero_le _) (fun r4 u4 H4 locs4 hp4 hP hS => ?_)
      obtain ⟨σ4, τ4⟩ := u4
      obtain ⟨hR, f4, hq4⟩ : P_X8_takeNumber σ0 a3 a4 r4 σ4 := hp4
      have hP : va_P D vwCl (gw cA ad σ4 τ4) H4 := hP
      have hF := hF.step f4 (by decide)
      refine r_if_ne (tgt := 25) hx hb dX10_readInto_20 (by decide) (fun c5 => ?_) (fun c5 => ?_)
      · refine lv_aload_n hx hb dX10_readInto_25 rfl (lv_at hl 1 rfl) ?_
        refine lv_iload_n hx hb dX10_readInto_26 rfl (lv_at hl 2 rfl) ?_
        refine lv_aload_n hx hb dX10_readInto_27 rfl (lv_at hl 0 rfl) ?_
        refine fg_10_0 (k := 6) hx hb hts in_X10_readInto_10 hown hK hP (by decide) (by decide) (hts _ lk_X10_readInto_9) dX10_readInto_28 ?_
        refine fgN_8_12 (k := 1) hx hb hts in_X10_readInto_8 hown hK hP (by decide) (by decide) (hN.use nw_10_93) dX10_readInto_31 ?_
        obtain ⟨j6, ej6⟩ : ∃ j : Nat, a2.toInt = (j : Int) := ⟨_, ti_nat (by omega)⟩
        refine as_hillR (k := k1) (j := j6) hx hb hK hP hI hR hS (by omega) (by omega) ej6 (by omega) dX10_readInto_34 (fun σ7 H7 locs7 u7 v7 hR hP hS => ?_)
        have hF := hF.puts u7 2 rfl (by omega) (by omega) (by omega) (by omega)
        refine r_iconst hx hb dX10_readInto_35 (by decide) (fun z8 ez8 => ?_)
        exact r_zret hx hb hr hK hP hS hk (by omega) dX10_readInto_36 (show P_X10_readInto_hillR σ0 k1 a2 a3 a4 z8 σ7 from ⟨hR, hF, by omega⟩)
      · refine r_iconst hx hb dX10_readInto_23 (by decide) (fun z9 ez9 => ?_)
        exact r_zret hx hb hr hK hP hS hk (by omega) dX10_readInto_24 (show P_X10_readInto_hillR σ0 k1 a2 a3 a4 z9 σ4 from ⟨hR, hF, by omega⟩)
theorem in_X8_hillHere_8 : ∀ w ∈ u_ws RX8 TX8 15, w ∈ wsX8_hillHere := by decide +kernel
theorem in_X8_hillHere_9 : ∀ w ∈ u_ws RX9 TX9 14, w ∈ wsX8_hillHere := by decide +kernel
theorem lk_X8_hillHere_94 : Cond.fieldLink RX8 94 "CuckooShares$Tape" "name" "J" ∈ wsX8_hillHere := by decide +kernel
abbrev L_X8_hillHere : List Rc := [(1, 1, 13, 14)]
def P_X8_hillHere (σ0 : Nat → Nat → Int32) (k1 : Nat) (r : Int32) (σ : Nat → Nat → Int32) : Prop := Rg σ ∧ Fr L_X8_hillHere σ0 σ ∧ (-1 ≤ r.toInt ∧ r.toInt ≤ 7)
set_option maxHeartbeats 4000000 in
theorem c_X8_hillHere (l : Launch) (D : va_G) (cA : Nat → ClassId) (ad : Nat → Nat) (hI : Inj ad) (σ0 : Nat → Nat → Int32) (τ0 : Nat → Nat → Int64) (hR : Rg σ0) (k1 : Nat) (hk1 : 2 ≤ k1 ∧ k1 ≤ 3) : Met l yX8_hillHere wsX8_hillHere ({ frames := 2, cells := 0, slots := 0, locals := 42 } : Room) (WQc D cA ad [.ref (ad 1), .ref (ad k1)] σ0 τ0) (va_Qi (fun (r : Int32) (u : SS) => P_X8_hillHere σ0 k1 r u.1) (WB D cA ad) (AA ad)) 0 0 (AA ad) := by
  refine Met.ofW (cc := cX8_hillHere) (maxL := 2) (ret := (some .int)) (by decide) rfl ?_
  intro p e s m args below meth c s₁ B hml hv
  obtain ⟨rfl, hP, hK, hN⟩ := hv
  have C : Cy p s m _ meth c cX8_hillHere 2 wsX8_hillHere RX8 D cA ad (some .int) := ⟨B.exec, B.bytes, hml, findClass_of_methodNamed B.named, atoms_spec (ws := wsX8_hillHere) B.pre, hK, B.notSynchronized, B.returns, hI, hN⟩
  have hl := lv_entry ([.ref (ad 1), .ref (ad k1)]) (n := 2) (Nat.le_of_ble_eq_true rfl)
  rw [lg_entry_eq]
  generalize (lg_sl ([.ref (ad 1), .ref (ad k1)]) ++ List.replicate (2 - (lg_sl ([.ref (ad 1), .ref (ad k1)])).length) Slot.unset).toArray = ls at hl ⊢
  have hl : lv_has ls 2 [(0, .ref (ad 1)), (1, .ref (ad k1))] := hl
  have hS : va_S (AA ad) s.heap s.heap [] := va_S.rf
  have hF : Fr L_X8_hillHere σ0 σ0 := Fr.rf
  obtain ⟨hx, hb, _, hown, hts, _, hk, hr, _, _⟩ := C
  refine lv_aload_n hx hb dX8_hillHere_0 rfl (lv_at hl 0 rfl) ?_
  refine lv_aload_n hx hb dX8_hillHere_1 rfl (lv_at hl 1 rfl) ?_
  refine lv_aload_n hx hb dX8_hillHere_2 rfl (lv_at hl 0 rfl) ?_
  refine fg_8_11 (k := 1) hx hb hts in_X8_hillHere_8 hown hK hP (by decide) (by decide) (hts _ lk_X8_hillHere_94) dX8_hillHere_3 ?_
  refine lv_aload_n hx hb dX8_hillHere_6 rfl (lv_at hl 1 rfl) ?_
  refine fgN_9_7 (k := k1) hx hb hts in_X8_hillHere_9 hown hK hP (by omega) (by omega) (hN.use nw_8_128) dX8_hillHere_7 ?_
  refine lv_aload_n hx hb dX8_hillHere_10 rfl (lv_at hl 1 rfl) ?_
  refine fgN_9_4 (k := k1) hx hb hts in_X8_hillHere_9 hown hK hP (by omega) (by omega) (hN.use nw_8_133) dX8_hillHere_11 ?_
  have hr1 := rg_9_4 hR (k := k1) (by omega) (by omega)
  refine r_cVi (k := k1) (As := [.long (τ0 1 11), .ref (ad (k1 + 38)), .int (σ0 k1 4)]) (rest := [.ref (ad 1)]) ⟨hx, hb, hml, hown, hts⟩ hK hP hN hS (c_X9_numberOf l D cA ad hI σ0 τ0 hR k1 (τ0 1 11) (k1 + 38) (σ0 k1 4) ⟨by omega, by omega⟩ ⟨by omega, by omega⟩ (by omega)) (cwV 3 hts gX8_hillHere_X9_numberOf rfl rfl rfl (by decide +kernel) ⟨by decide, by decide⟩) (rv_Valley hK hP (by omega) (by omega)) rfl hl.1 rfl (Nat.le_of_ble_eq_true rfl) dX8_hillHere_14 (Nat.zero_le _) (Nat.zero_le _) (fun r2 u2 H2 locs2 hp2 hP hS => ?_)
  obtain ⟨σ2, τ2⟩ := u2
  obtain ⟨hR, f2, hq2⟩ : P_X9_numberOf σ0 k1 (τ0 1 11) (k1 + 38) (σ0 k1 4) r2 σ2 := hp2
  have hP : va_P D vwCl (gw cA ad σ2 τ2) H2 := hP
  obtain rfl := Fr.nil f2
  refine r_cVi (k := 1) (As := [.int r2]) (rest := []) ⟨hx, hb, hml, hown, hts⟩ hK hP hN hS (c_X8_toldHere l D cA ad hI σ0 τ2 hR r2 (by omega)) (cwV 1 hts gX8_hillHere_X8_toldHere rfl rfl rfl (by decide +kernel) ⟨by decide, by decide⟩) (rv_Tape hK hP (by decide) (by decide)) rfl hl.1 rfl (Nat.le_of_ble_eq_true rfl) dX8_hillHere_17 (Nat.zero_le _) (Nat.zero_le _) (fun r3 u3 H3 locs3 hp3 hP hS => ?_)
  obtain ⟨σ3, τ3⟩ := u3
  obtain ⟨hR, f3, hq3⟩ : P_X8_toldHere σ0 r2 r3 σ3 := hp3
  have hP : va_P D vwCl (gw cA ad σ3 τ3) H3 := hP
  have hF := hF.step f3 (by decide)
  exact r_iret hx hb hr hK hP hS hk dX8_hillHere_20 (show P_X8_hillHere σ0 k1 r3 σ3 from ⟨hR, hF, by omega⟩)
theorem in_X10_readFall_10 : ∀ w ∈ u_ws RX10 TX10 5, w ∈ wsX10_readFall := by decide +kernel
theorem in_X10_readFall_9 : ∀ w ∈ u_ws RX9 TX9 14, w ∈ wsX10_readFall := by decide +kernel
theorem lk_X10_readFall_15 : Cond.fieldLink RX10 15 "CuckooShares$ValleyText" "into" "LCuckooShares$Valley;" ∈ wsX10_readFall := by decide +kernel
theorem lk_X10_readFall_31 : Cond.fieldLink RX10 31 "CuckooShares$ValleyText" "fallsTold" "I" ∈ wsX10_readFall := by decide +kernel
theorem lk_X10_readFall_9 : Cond.fieldLink RX10 9 "CuckooShares$ValleyText" "tape" "LCuckooShares$Tape;" ∈ wsX10_readFall := by decide +kernel
abbrev L_X10_readFall : List Rc := [(1, 1, 7, 10), (6, 6, 4, 4), (1, 1, 12, 14), (76, 83, 0, 2)]
def P_X10_readFall (σ0 : Nat → Nat → Int32)  (r : Int32) (σ : Nat → Nat → Int32) : Prop := Rg σ ∧ Fr L_X10_readFall σ0 σ ∧ (0 ≤ r.toInt ∧ r.toInt ≤ 1)
set_option maxHeartbeats 4000000 in
theorem c_X10_readFall (l : Launch) (D : va_G) (cA : Nat → ClassId) (ad : Nat → Nat) (hI : Inj ad) (σ0 : Nat → Nat → Int32) (τ0 : Nat → Nat → Int64) (hR : Rg σ0)   : Met l yX10_readFall wsX10_readFall ({ frames := 3, cells := 0, slots := 0, locals := 67 } : Room) (WQc D cA ad [.ref (ad 6)] σ0 τ0) (va_Qi (fun (r : Int32) (u : SS) => P_X10_readFall σ0 r u.1) (WB D cA ad) (AA ad)) 0 0 (AA ad) := by
  refine Met.ofW (cc := cX10_readFall) (maxL := 2) (ret := (some .boolean)) (by decide) rfl ?_
  intro p e s m args below meth c s₁ B hml hv
  obtain ⟨rfl, hP, hK, hN⟩ := hv
  have C : Cy p s m _ meth c cX10_readFall 2 wsX10_readFall RX10 D cA ad (some .boolean) := ⟨B.exec, B.bytes, hml, findClass_of_methodNamed B.named, atoms_spec (ws := wsX10_readFall) B.pre, hK, B.notSynchronized, B.returns, hI, hN⟩
  have hl := lv_entry ([.ref (ad 6)]) (n := 2) (Nat.le_of_ble_eq_true rfl)
  rw [lg_entry_eq]
  generalize (lg_sl ([.ref (ad 6)]) ++ List.replicate (2 - (lg_sl ([.ref (ad 6)])).length) Slot.unset).toArray = ls at hl ⊢
  have hl : lv_has ls 2 [(0, .ref (ad 6))] := hl
  have hS : va_S (AA ad) s.heap s.heap [] := va_S.rf
  have hF : Fr L_X10_readFall σ0 σ0 := Fr.rf
  obtain ⟨hx, hb, _, hown, hts, _, hk, hr, _, _⟩ := C
  refine lv_aload_n hx hb dX10_readFall_0 rfl (lv_at hl 0 rfl) ?_
  refine fg_10_0 (k := 6) hx hb hts in_X10_readFall_10 hown hK hP (by decide) (by decide) (hts _ lk_X10_readFall_9) dX10_readFall_1 ?_
  refine r_cVv (k := 1) (As := []) (rest := []) ⟨hx, hb, hml, hown, hts⟩ hK hP hN hS (c_X8_next l D cA ad hI σ0 τ0 hR) (cwV 0 hts gX10_readFall_X8_next rfl rfl rfl (by decide +kernel) ⟨by decide, by decide⟩) (rv_Tape hK hP (by decide) (by decide)) rfl hl.1 rfl (Nat.le_of_ble_eq_true rfl) dX10_readFall_4 (Nat.zero_le _) (Nat.zero_le _) (fun u1 H1 locs1 hp1 hP hS => ?_)
  obtain ⟨σ1, τ1⟩ := u1
  obtain ⟨hR, f1⟩ : P_X8_next σ0 σ1 := hp1
  have hP : va_P D vwCl (gw cA ad σ1 τ1) H1 := hP
  have hF := hF.step f1 (by decide)
  refine lv_aload_n hx hb dX10_readFall_7 rfl (lv_at hl 0 rfl) ?_
  refine fg_10_0 (k := 6) hx hb hts in_X10_readFall_10 hown hK hP (by decide) (by decide) (hts _ lk_X10_readFall_9) dX10_readFall_8 ?_
  refine lv_aload_n hx hb dX10_readFall_11 rfl (lv_at hl 0 rfl) ?_
  refine fg_10_1 (k := 6) hx hb hts in_X10_readFall_10 hown hK hP (by decide) (by decide) (hts _ lk_X10_readFall_15) dX10_readFall_12 ?_
  refine r_cVi (k := 1) (As := [.ref (ad 3)]) (rest := []) ⟨hx, hb, hml, hown, hts⟩ hK hP hN hS (c_X8_hillHere l D cA ad hI σ1 τ1 hR 3 ⟨by omega, by omega⟩) (cwV 1 hts gX10_readFall_X8_hillHere rfl rfl rfl (by decide +kernel) ⟨by decide, by decide⟩) (rv_Tape hK hP (by decide) (by decide)) rfl hl.1 rfl (Nat.le_of_ble_eq_true rfl) dX10_readFall_15 (Nat.zero_le _) (Nat.zero_le _) (fun r2 u2 H2 locs2 hp2 hP hS => ?_)
  obtain ⟨σ2, τ2⟩ := u2
  obtain ⟨hR, f2, hq2⟩ : P_X8_hillHere σ1 3 r2 σ2 := hp2
  have hP : va_P D vwCl (gw cA ad σ2 τ2) H2 := hP
  have hF := hF.step f2 (by decide)
  refine lv_istore_n (lv' := [(1, .int r2), (0, .ref (ad 6))]) hx hb dX10_readFall_18 rfl hl (by decide) rfl (fun ls hl => ?_)
  refine lv_iload_n hx hb dX10_readFall_19 rfl (lv_at hl 0 rfl) ?_
  refine r_iconst hx hb dX10_readFall_20 (by decide) (fun z3 ez3 => ?_)
  refine r_icmp_ne (tgt := 26) hx hb dX10_readFall_21 (by decide) (fun c4 => ?_) (fun c4 => ?_)
  · refine lv_aload_n hx hb dX10_readFall_26 rfl (lv_at hl 1 rfl) ?_
    refine fg_10_4 (k := 6) hx hb hts in_X10_readFall_10 hown hK hP (by decide) (by decide) (hts _ lk_X10_readFall_31) dX10_readFall_27 ?_
    refine lv_iload_n hx hb dX10_readFall_30 rfl (lv_at hl 0 rfl) ?_
    refine r_ishrU hx hb dX10_readFall_31 (fun z5 => ?_)
    refine r_iconst hx hb dX10_readFall_32 (by decide) (fun z6 ez6 => ?_)
    refine r_iand (w := 1) hx hb 1 dX10_readFall_33 (by omega) (by decide) (fun z7 ez7 => ?_)
    refine r_iconst hx hb dX10_readFall_34 (by decide) (fun z8 ez8 => ?_)
    refine r_icmp_ne (tgt := 47) hx hb dX10_readFall_35 (by decide) (fun c9 => ?_) (fun c9 => ?_)
    · refine lv_aload_n hx hb dX10_readFall_47 rfl (lv_at hl 1 rfl) ?_
      refine lv_dup hx hb dX10_readFall_48 rfl ?_
      refine fg_10_4 (k := 6) hx hb hts in_X10_readFall_10 hown hK hP (by decide) (by decide) (hts _ lk_X10_readFall_31) dX10_readFall_49 ?_
      refine r_iconst hx hb dX10_readFall_52 (by decide) (fun z10 ez10 => ?_)
      refine lv_iload_n hx hb dX10_readFall_53 rfl (lv_at hl 0 rfl) ?_
      refine r_ishlU hx hb dX10_readFall_54 (fun z11 => ?_)
      refine r_iorU hx hb dX10_readFall_55 (fun z12 => ?_)
      refine fp_10_4 (k := 6) hx hb hts in_X10_readFall_10 hown hK hP (by decide) (by decide) (hts _ lk_X10_readFall_31) hI hR hS dX10_readFall_56 (fun σ13 H13 locs13 u13 v13 hR hP hS => ?_)
      have hF := hF.puts u13 1 rfl (by decide) (by decide) (by decide) (by decide)
      refine lv_aload_n hx hb dX10_readFall_59 rfl (lv_at hl 1 rfl) ?_
      refine fg_10_0 (k := 6) hx hb hts in_X10_readFall_10 hown hK hP (by decide) (by decide) (hts _ lk_X10_readFall_9) dX10_readFall_60 ?_
      refine r_cVv (k := 1) (As := []) (rest := []) ⟨hx, hb, hml, hown, hts⟩ hK hP hN hS (c_X8_next l D cA ad hI σ13 τ2 hR) (cwV 0 hts gX10_readFall_X8_next rfl rfl rfl (by decide +kernel) ⟨by decide, by decide⟩) (rv_Tape hK hP (by decide) (by decide)) rfl hl.1 rfl (Nat.le_of_ble_eq_true rfl) dX10_readFall_63 (Nat.zero_le _) (Nat.zero_le _) (fun u14 H14 locs14 hp14 hP hS => ?_)
      obtain ⟨σ14, τ14⟩ := u14
      obtain ⟨hR, f14⟩ : P_X8_next σ13 σ14 := hp14
      have hP : va_P D vwCl (gw cA ad σ14 τ14) H14 := hP
      have hF := hF.step f14 (by decide)
      have t15 : (σ14 6 4).toInt = (σ13 6 4).toInt := congrArg Int32.toInt (f14.at 6 4 (by decide))
      refine lv_aload_n hx hb dX10_readFall_66 rfl (lv_at hl 1 rfl) ?_
      refine lv_aload_n hx hb dX10_readFall_67 rfl (lv_at hl 1 rfl) ?_
      refine fg_10_1 (k := 6) hx hb hts in_X10_readFall_10 hown hK hP (by decide) (by decide) (hts _ lk_X10_readFall_15) dX10_readFall_68 ?_
      refine fgN_9_9 (k := 3) hx hb hts in_X10_readFall_9 hown hK hP (by decide) (by decide) (hN.use nw_10_126) dX10_readFall_71 ?_
      refine lv_iload_n hx hb dX10_readFall_74 rfl (lv_at hl 0 rfl) ?_
      obtain ⟨j16, ej16⟩ : ∃ j : Nat, r2.toInt = (j : Int) := ⟨_, ti_nat (by omega)⟩
      refine ad_hillA (k := 49) (j := j16) hx hb hK hP (by decide) (by decide) ej16 (by omega) dX10_readFall_75 ?_
      refine r_iconst hx hb dX10_readFall_76 (by decide) (fun z17 ez17 => ?_)
      refine r_iconst hx hb dX10_readFall_77 (by decide) (fun z18 ez18 => ?_)
      refine r_bipush hx hb dX10_readFall_78 (by decide) (fun z19 ez19 => ?_)
      refine r_cVi (k := 6) (As := [.ref (ad (76 + j16)), .int z17, .int z18, .int z19]) (rest := []) ⟨hx, hb, hml, hown, hts⟩ hK hP hN hS (c_X10_readInto_hillR l D cA ad hI σ14 τ14 hR (76 + j16) z17 z18 z19 ⟨by omega, by omega⟩ (by omega) (by omega) (by omega)) (cwV 4 hts gX10_readFall_X10_readInto rfl rfl rfl (by decide +kernel) ⟨by decide, by decide⟩) (rv_VText hK hP (by decide) (by decide)) rfl hl.1 rfl (Nat.le_of_ble_eq_true rfl) dX10_readFall_80 (Nat.zero_le _) (Nat.zero_le _) (fun r20 u20 H20 locs20 hp20 hP hS => ?_)
      obtain ⟨σ20, τ20⟩ := u20
      obtain ⟨hR, f20, hq20⟩ : P_X10_readInto_hillR σ14 (76 + j16) z17 z18 z19 r20 σ20 := hp20
      have hP : va_P D vwCl (gw cA ad σ20 τ20) H20 := hP
      have hF := hF.step f20 (by decide)
      have t21 : (σ20 6 4).toInt = (σ14 6 4).toInt := congrArg Int32.toInt (f20.at 6 4 (by decide))
      exact r_zret hx hb hr hK hP hS hk (by omega) dX10_readFall_83 (show P_X10_readFall σ0 r20 σ20 from ⟨hR, hF, by omega⟩)
    · refine lv_aload_n hx hb dX10_readFall_38 rfl (lv_at hl 1 rfl) ?_
      refine fg_10_0 (k := 6) hx hb hts in_X10_readFall_10 hown hK hP (by decide) (by decide) (hts _ lk_X10_readFall_9) dX10_readFall_39 ?_
      refine r_iconst hx hb dX10_readFall_42 (by decide) (fun z22 ez22 => ?_)
      refine r_cVi (k := 1) (As := [.int z22]) (rest := []) ⟨hx, hb, hml, hown, hts⟩ hK hP hN hS (c_X8_blame l D cA ad hI σ2 τ2 hR z22 (by omega)) (cwV 1 hts gX10_readFall_X8_blame rfl rfl rfl (by decide +kernel) ⟨by decide, by decide⟩) (rv_Tape hK hP (by decide) (by decide)) rfl hl.1 rfl (Nat.le_of_ble_eq_true rfl) dX10_readFall_43 (Nat.zero_le _) (Nat.zero_le _) (fun r23 u23 H23 locs23 hp23 hP hS => ?_)
      obtain ⟨σ23, τ23⟩ := u23
      obtain ⟨hR, f23, hq23⟩ : P_X8_blame σ2 z22 r23 σ23 := hp23
      have hP : va_P D vwCl (gw cA ad σ23 τ23) H23 := hP
      have hF := hF.step f23 (by decide)
      have t24 : (σ23 6 4).toInt = (σ2 6 4).toInt := congrArg Int32.toInt (f23.at 6 4 (by decide))
      exact r_zret hx hb hr hK hP hS hk (by omega) dX10_readFall_46 (show P_X10_readFall σ0 r23 σ23 from ⟨hR, hF, by omega⟩)
  · refine r_iconst hx hb dX10_readFall_24 (by decide) (fun z25 ez25 => ?_)
    exact r_zret hx hb hr hK hP hS hk (by omega) dX10_readFall_25 (show P_X10_readFall σ0 z25 σ2 from ⟨hR, hF, by omega⟩)
abbrev L_X10_readInto_callR : List Rc := [(1, 1, 7, 10), (1, 1, 12, 14), (148, 227, 0, 2)]
def P_X10_readInto_callR (σ0 : Nat → Nat → Int32) (k1 : Nat) (a2 : Int32) (a3 : Int32) (a4 : Int32) (r : Int32) (σ : Nat → Nat → Int32) : Prop := Rg σ ∧ Fr L_X10_readInto_callR σ0 σ ∧ (0 ≤ r.toInt ∧ r.toInt ≤ 1)
set_option maxHeartbeats 4000000 in
theorem c_X10_readInto_callR (l : Launch) (D : va_G) (cA : Nat → ClassId) (ad : Nat → Nat) (hI : Inj ad) (σ0 : Nat → Nat → Int32) (τ0 : Nat → Nat → Int64) (hR : Rg σ0) (k1 : Nat) (a2 : Int32) (a3 : Int32) (a4 : Int32) (hk1 : 148 ≤ k1 ∧ k1 ≤ 227) (ha2 : 0 ≤ a2.toInt ∧ a2.toInt ≤ 2) (ha4 : 20 ≤ a4.toInt ∧ a4.toInt ≤ 99) : Met l yX10_readInto wsX10_readInto ({ frames := 2, cells := 0, slots := 0, locals := 43 } : Room) (WQc D cA ad [.ref (ad 6), .ref (ad k1), .int a2, .int a3, .int a4] σ0 τ0) (va_Qi (fun (r : Int32) (u : SS) => P_X10_readInto_callR σ0 k1 a2 a3 a4 r u.1) (WB D cA ad) (AA ad)) 0 0 (AA ad) := by
  refine Met.ofW (cc := cX10_readInto) (maxL := 5) (ret := (some .boolean)) (by decide) rfl ?_
  intro p e s m args below meth c s₁ B hml hv
  obtain ⟨rfl, hP, hK, hN⟩ := hv
  have C : Cy p s m _ meth c cX10_readInto 5 wsX10_readInto RX10 D cA ad (some .boolean) := ⟨B.exec, B.bytes, hml, findClass_of_methodNamed B.named, atoms_spec (ws := wsX10_readInto) B.pre, hK, B.notSynchronized, B.returns, hI, hN⟩
  have hl := lv_entry ([.ref (ad 6), .ref (ad k1), .int a2, .int a3, .int a4]) (n := 5) (Nat.le_of_ble_eq_true rfl)
  rw [lg_entry_eq]
  generalize (lg_sl ([.ref (ad 6), .ref (ad k1), .int a2, .int a3, .int a4]) ++ List.replicate (5 - (lg_sl ([.ref (ad 6), .ref (ad k1), .int a2, .int a3, .int a4])).length) Slot.unset).toArray = ls at hl ⊢
  have hl : lv_has ls 5 [(0, .ref (ad 6)), (1, .ref (ad k1)), (2, .int a2), (3, .int a3), (4, .int a4)] := hl
  have hS : va_S (AA ad) s.heap s.heap [] := va_S.rf
  have hF : Fr L_X10_readInto_callR σ0 σ0 := Fr.rf
  obtain ⟨hx, hb, _, hown, hts, _, hk, hr, _, _⟩ := C
  refine lv_iload_n hx hb dX10_readInto_0 rfl (lv_at hl 2 rfl) ?_
  refine r_if_lt (tgt := 23) hx hb dX10_readInto_1 (by decide) (fun c1 => ?_) (fun c1 => ?_)
  · exfalso; omega
  · refine lv_iload_n hx hb dX10_readInto_4 rfl (lv_at hl 2 rfl) ?_
    refine lv_aload_n hx hb dX10_readInto_5 rfl (lv_at hl 1 rfl) ?_
    refine al_callR (k := k1) hx hb hK hP (by omega) (by omega) dX10_readInto_6 (fun z2 ez2 => ?_)
    refine r_icmp_ge (tgt := 23) hx hb dX10_readInto_7 (by decide) (fun c3 => ?_) (fun c3 => ?_)
    · exfalso; omega
    · refine lv_aload_n hx hb dX10_readInto_10 rfl (lv_at hl 0 rfl) ?_
      refine fg_10_0 (k := 6) hx hb hts in_X10_readInto_10 hown hK hP (by decide) (by decide) (hts _ lk_X10_readInto_9) dX10_readInto_11 ?_
      refine lv_iload_n hx hb dX10_readInto_14 rfl (lv_at hl 3 rfl) ?_
      refine lv_iload hx hb dX10_readInto_15 (lv_at hl 4 rfl) ?_
      refine r_cVi (k := 1) (As := [.int a3, .int a4]) (rest := []) ⟨hx, hb, hml, hown, hts⟩ hK hP hN hS (c_X8_takeNumber l D cA ad hI σ0 τ0 hR a3 a4 (by omega)) (cwV 2 hts gX10_readInto_X8_takeNumber rfl rfl rfl (by decide +kernel) ⟨by decide, by decide⟩) (rv_Tape hK hP (by decide) (by decide)) rfl hl.1 rfl (Nat.le_of_ble_eq_true rfl) dX10_readInto_17 (Nat.zero_le _) (Nat.zero_le _) (fun r4 u4 H4 locs4 hp4 hP hS => ?_)
      obtain ⟨σ4, τ4⟩ := u4
      obtain ⟨hR, f4, hq4⟩ : P_X8_takeNumber σ0 a3 a4 r4 σ4 := hp4
      have hP : va_P D vwCl (gw cA ad σ4 τ4) H4 := hP
      have hF := hF.step f4 (by decide)
      refine r_if_ne (tgt := 25) hx hb dX10_readInto_20 (by decide) (fun c5 => ?_) (fun c5 => ?_)
      · refine lv_aload_n hx hb dX10_readInto_25 rfl (lv_at hl 1 rfl) ?_
        refine lv_iload_n hx hb dX10_readInto_26 rfl (lv_at hl 2 rfl) ?_
        refine lv_aload_n hx hb dX10_readInto_27 rfl (lv_at hl 0 rfl) ?_
        refine fg_10_0 (k := 6) hx hb hts in_X10_readInto_10 hown hK hP (by decide) (by decide) (hts _ lk_X10_readInto_9) dX10_readInto_28 ?_
        refine fgN_8_12 (k := 1) hx hb hts in_X10_readInto_8 hown hK hP (by decide) (by decide) (hN.use nw_10_93) dX10_readInto_31 ?_
        obtain ⟨j6, ej6⟩ : ∃ j : Nat, a2.toInt = (j : Int) := ⟨_, ti_nat (by omega)⟩
        refine as_callR (k := k1) (j := j6) hx hb hK hP hI hR hS (by omega) (by omega) ej6 (by omega) dX10_readInto_34 (fun σ7 H7 locs7 u7 v7 hR hP hS => ?_)
        have hF := hF.puts u7 2 rfl (by omega) (by omega) (by omega) (by omega)
        refine r_iconst hx hb dX10_readInto_35 (by decide) (fun z8 ez8 => ?_)
        exact r_zret hx hb hr hK hP hS hk (by omega) dX10_readInto_36 (show P_X10_readInto_callR σ0 k1 a2 a3 a4 z8 σ7 from ⟨hR, hF, by omega⟩)
      · refine r_iconst hx hb dX10_readInto_23 (by decide) (fun z9 ez9 => ?_)
        exact r_zret hx hb hr hK hP hS hk (by omega) dX10_readInto_24 (show P_X10_readInto_callR σ0 k1 a2 a3 a4 z9 σ4 from ⟨hR, hF, by omega⟩)
abbrev L_X10_readInto_flightR : List Rc := [(1, 1, 7, 10), (1, 1, 12, 14), (136, 139, 0, 1)]
def P_X10_readInto_flightR (σ0 : Nat → Nat → Int32) (k1 : Nat) (a2 : Int32) (a3 : Int32) (a4 : Int32) (r : Int32) (σ : Nat → Nat → Int32) : Prop := Rg σ ∧ Fr L_X10_readInto_flightR σ0 σ ∧ (0 ≤ r.toInt ∧ r.toInt ≤ 1)
set_option maxHeartbeats 4000000 in
theorem c_X10_readInto_flightR (l : Launch) (D : va_G) (cA : Nat → ClassId) (ad : Nat → Nat) (hI : Inj ad) (σ0 : Nat → Nat → Int32) (τ0 : Nat → Nat → Int64) (hR : Rg σ0) (k1 : Nat) (a2 : Int32) (a3 : Int32) (a4 : Int32) (hk1 : 136 ≤ k1 ∧ k1 ≤ 139) (ha2 : 0 ≤ a2.toInt ∧ a2.toInt ≤ 1) (ha3 : 0 ≤ a3.toInt ∧ a3.toInt ≤ 1) (ha4 : 9 ≤ a4.toInt ∧ a4.toInt ≤ 20) : Met l yX10_readInto wsX10_readInto ({ frames := 2, cells := 0, slots := 0, locals := 43 } : Room) (WQc D cA ad [.ref (ad 6), .ref (ad k1), .int a2, .int a3, .int a4] σ0 τ0) (va_Qi (fun (r : Int32) (u : SS) => P_X10_readInto_flightR σ0 k1 a2 a3 a4 r u.1) (WB D cA ad) (AA ad)) 0 0 (AA ad) := by
  refine Met.ofW (cc := cX10_readInto) (maxL := 5) (ret := (some .boolean)) (by decide) rfl ?_
  intro p e s m args below meth c s₁ B hml hv
  obtain ⟨rfl, hP, hK, hN⟩ := hv
  have C : Cy p s m _ meth c cX10_readInto 5 wsX10_readInto RX10 D cA ad (some .boolean) := ⟨B.exec, B.bytes, hml, findClass_of_methodNamed B.named, atoms_spec (ws := wsX10_readInto) B.pre, hK, B.notSynchronized, B.returns, hI, hN⟩
  have hl := lv_entry ([.ref (ad 6), .ref (ad k1), .int a2, .int a3, .int a4]) (n := 5) (Nat.le_of_ble_eq_true rfl)
  rw [lg_entry_eq]
  generalize (lg_sl ([.ref (ad 6), .ref (ad k1), .int a2, .int a3, .int a4]) ++ List.replicate (5 - (lg_sl ([.ref (ad 6), .ref (ad k1), .int a2, .int a3, .int a4])).length) Slot.unset).toArray = ls at hl ⊢
  have hl : lv_has ls 5 [(0, .ref (ad 6)), (1, .ref (ad k1)), (2, .int a2), (3, .int a3), (4, .int a4)] := hl
  have hS : va_S (AA ad) s.heap s.heap [] := va_S.rf
  have hF : Fr L_X10_readInto_flightR σ0 σ0 := Fr.rf
  obtain ⟨hx, hb, _, hown, hts, _, hk, hr, _, _⟩ := C
  refine lv_iload_n hx hb dX10_readInto_0 rfl (lv_at hl 2 rfl) ?_
  refine r_if_lt (tgt := 23) hx hb dX10_readInto_1 (by decide) (fun c1 => ?_) (fun c1 => ?_)
  · exfalso; omega
  · refine lv_iload_n hx hb dX10_readInto_4 rfl (lv_at hl 2 rfl) ?_
    refine lv_aload_n hx hb dX10_readInto_5 rfl (lv_at hl 1 rfl) ?_
    refine al_flightR (k := k1) hx hb hK hP (by omega) (by omega) dX10_readInto_6 (fun z2 ez2 => ?_)
    refine r_icmp_ge (tgt := 23) hx hb dX10_readInto_7 (by decide) (fun c3 => ?_) (fun c3 => ?_)
    · exfalso; omega
    · refine lv_aload_n hx hb dX10_readInto_10 rfl (lv_at hl 0 rfl) ?_
      refine fg_10_0 (k := 6) hx hb hts in_X10_readInto_10 hown hK hP (by decide) (by decide) (hts _ lk_X10_readInto_9) dX10_readInto_11 ?_
      refine lv_iload_n hx hb dX10_readInto_14 rfl (lv_at hl 3 rfl) ?_
      refine lv_iload hx hb dX10_readInto_15 (lv_at hl 4 rfl) ?_
      refine r_cVi (k := 1) (As := [.int a3, .int a4]) (rest := []) ⟨hx, hb, hml, hown, hts⟩ hK hP hN hS (c_X8_takeNumber l D cA ad hI σ0 τ0 hR a3 a4 (by omega)) (cwV 2 hts gX10_readInto_X8_takeNumber rfl rfl rfl (by decide +kernel) ⟨by decide, by decide⟩) (rv_Tape hK hP (by decide) (by decide)) rfl hl.1 rfl (Nat.le_of_ble_eq_true rfl) dX10_readInto_17 (Nat.zero_le _) (Nat.zero_le _) (fun r4 u4 H4 locs4 hp4 hP hS => ?_)
      obtain ⟨σ4, τ4⟩ := u4
      obtain ⟨hR, f4, hq4⟩ : P_X8_takeNumber σ0 a3 a4 r4 σ4 := hp4
      have hP : va_P D vwCl (gw cA ad σ4 τ4) H4 := hP
      have hF := hF.step f4 (by decide)
      refine r_if_ne (tgt := 25) hx hb dX10_readInto_20 (by decide) (fun c5 => ?_) (fun c5 => ?_)
      · refine lv_aload_n hx hb dX10_readInto_25 rfl (lv_at hl 1 rfl) ?_
        refine lv_iload_n hx hb dX10_readInto_26 rfl (lv_at hl 2 rfl) ?_
        refine lv_aload_n hx hb dX10_readInto_27 rfl (lv_at hl 0 rfl) ?_
        refine fg_10_0 (k := 6) hx hb hts in_X10_readInto_10 hown hK hP (by decide) (by decide) (hts _ lk_X10_readInto_9) dX10_readInto_28 ?_
        refine fgN_8_12 (k := 1) hx hb hts in_X10_readInto_8 hown hK hP (by decide) (by decide) (hN.use nw_10_93) dX10_readInto_31 ?_
        obtain ⟨j6, ej6⟩ : ∃ j : Nat, a2.toInt = (j : Int) := ⟨_, ti_nat (by omega)⟩
        refine as_flightR (k := k1) (j := j6) hx hb hK hP hI hR hS (by omega) (by omega) ej6 (by omega) (rx_flightR_0 (by omega) (by omega) (by omega) (by omega)) dX10_readInto_34 (fun σ7 H7 locs7 u7 v7 hR hP hS => ?_)
        have hF := hF.puts u7 2 rfl (by omega) (by omega) (by omega) (by omega)
        refine r_iconst hx hb dX10_readInto_35 (by decide) (fun z8 ez8 => ?_)
        exact r_zret hx hb hr hK hP hS hk (by omega) dX10_readInto_36 (show P_X10_readInto_flightR σ0 k1 a2 a3 a4 z8 σ7 from ⟨hR, hF, by omega⟩)
      · refine r_iconst hx hb dX10_readInto_23 (by decide) (fun z9 ez9 => ?_)
        exact r_zret hx hb hr hK hP hS hk (by omega) dX10_readInto_24 (show P_X10_readInto_flightR σ0 k1 a2 a3 a4 z9 σ4 from ⟨hR, hF, by omega⟩)
theorem in_X9_callRow_9 : ∀ w ∈ u_ws RX9 TX9 14, w ∈ wsX9_callRow := by decide +kernel
theorem lk_X9_callRow_29 : Cond.fieldLink RX9 29 "CuckooShares$Valley" "call" "[[I" ∈ wsX9_callRow := by decide +kernel
abbrev L_X9_callRow : List Rc := []
def P_X9_callRow (ad : Nat → Nat) (σ0 : Nat → Nat → Int32) (k0 : Nat) (a1 : Int32) (a2 : Int32) (r : Nat) (σ : Nat → Nat → Int32) : Prop := Rg σ ∧ Fr L_X9_callRow σ0 σ ∧ (∃ q, r = ad q ∧ 148 ≤ q ∧ q ≤ 227)
set_option maxHeartbeats 4000000 in
theorem c_X9_callRow (l : Launch) (D : va_G) (cA : Nat → ClassId) (ad : Nat → Nat) (hI : Inj ad) (σ0 : Nat → Nat → Int32) (τ0 : Nat → Nat → Int64) (hR : Rg σ0) (k0 : Nat) (a1 : Int32) (a2 : Int32) (hk0 : 2 ≤ k0 ∧ k0 ≤ 3) (ha1 : 0 ≤ a1.toInt ∧ a1.toInt ≤ 3) (ha2 : 0 ≤ a2.toInt ∧ a2.toInt ≤ 9) : Met l yX9_callRow wsX9_callRow ({ frames := 0, cells := 0, slots := 0, locals := 0 } : Room) (WQc D cA ad [.ref (ad k0), .int a1, .int a2] σ0 τ0) (va_Qr (fun _ => True) (fun (u : SS) (a : Nat) (t : State) => P_X9_callRow ad σ0 k0 a1 a2 a u.1 ∧ WB D cA ad u t) (AA ad)) 0 0 (AA ad) := by
  refine Met.ofW (cc := cX9_callRow) (maxL := 3) (ret := (some (.array .int))) (by decide) rfl ?_
  intro p e s m args below meth c s₁ B hml hv
  obtain ⟨rfl, hP, hK, hN⟩ := hv
  have C : Cy p s m _ meth c cX9_callRow 3 wsX9_callRow RX9 D cA ad (some (.array .int)) := ⟨B.exec, B.bytes, hml, findClass_of_methodNamed B.named, atoms_spec (ws := wsX9_callRow) B.pre, hK, B.notSynchronized, B.returns, hI, hN⟩
  have hl := lv_entry ([.ref (ad k0), .int a1, .int a2]) (n := 3) (Nat.le_of_ble_eq_true rfl)
  rw [lg_entry_eq]
  generalize (lg_sl ([.ref (ad k0), .int a1, .int a2]) ++ List.replicate (3 - (lg_sl ([.ref (ad k0), .int a1, .int a2])).length) Slot.unset).toArray = ls at hl ⊢
  have hl : lv_has ls 3 [(0, .ref (ad k0)), (1, .int a1), (2, .int a2)] := hl
  have hS : va_S (AA ad) s.heap s.heap [] := va_S.rf
  have hF : Fr L_X9_callRow σ0 σ0 := Fr.rf
  obtain ⟨hx, hb, _, hown, hts, _, hk, hr, _, _⟩ := C
  refine lv_aload_n hx hb dX9_callRow_0 rfl (lv_at hl 0 rfl) ?_
  refine fg_9_12 (k := k0) hx hb hts in_X9_callRow_9 hown hK hP (by omega) (by omega) (hts _ lk_X9_callRow_29) dX9_callRow_1 ?_
  refine lv_iload_n hx hb dX9_callRow_4 rfl (lv_at hl 1 rfl) ?_
  refine r_bipush hx hb dX9_callRow_5 (by decide) (fun z1 ez1 => ?_)
  refine r_imulR (n := 10) hx hb dX9_callRow_7 (by omega) (by omega) (fun z2 ez2 => ?_)
  refine lv_iload_n hx hb dX9_callRow_8 rfl (lv_at hl 2 rfl) ?_
  refine r_iadd hx hb dX9_callRow_9 (by omega) (fun z3 ez3 => ?_)
  obtain ⟨j4, ej4⟩ : ∃ j : Nat, z3.toInt = (j : Int) := ⟨_, ti_nat (by omega)⟩
  refine ad_callA (k := k0 + 58) (j := j4) hx hb hK hP (by omega) (by omega) ej4 (by omega) dX9_callRow_10 ?_
  exact r_aret hx hb hr (Or.inr ⟨_, rfl⟩) hK hP hS hk dX9_callRow_11 (show P_X9_callRow ad σ0 k0 a1 a2 (ad (40 * ((k0 + 58) - 60) + 148 + j4)) σ0 from ⟨hR, hF, ⟨_, rfl, by omega, by omega⟩⟩)
theorem in_X10_readFlight_10 : ∀ w ∈ u_ws RX10 TX10 5, w ∈ wsX10_readFlight := by decide +kernel
theorem in_X10_readFlight_8 : ∀ w ∈ u_ws RX8 TX8 15, w ∈ wsX10_readFlight := by decide +kernel
theorem in_X10_readFlight_9 : ∀ w ∈ u_ws RX9 TX9 14, w ∈ wsX10_readFlight := by decide +kernel
theorem lk_X10_readFlight_15 : Cond.fieldLink RX10 15 "CuckooShares$ValleyText" "into" "LCuckooShares$Valley;" ∈ wsX10_readFlight := by decide +kernel
theorem lk_X10_readFlight_9 : Cond.fieldLink RX10 9 "CuckooShares$ValleyText" "tape" "LCuckooShares$Tape;" ∈ wsX10_readFlight := by decide +kernel
abbrev L_X10_readFlight : List Rc := [(3, 3, 6, 6), (1, 1, 7, 10), (1, 1, 12, 14), (136, 139, 0, 2), (148, 227, 0, 2)]
def P_X10_readFlight (σ0 : Nat → Nat → Int32)  (r : Int32) (σ : Nat → Nat → Int32) : Prop := Rg σ ∧ Fr L_X10_readFlight σ0 σ ∧ (0 ≤ r.toInt ∧ r.toInt ≤ 1)
def J_X10_readFlight_87 (p : Program) (l : Launch) (e : Env) (s : State) (m : MethodId) (args : Array Value) (below : List Frame) (meth : Method) (c : Code) (D : va_G) (cA : Nat → ClassId) (ad : Nat → Nat) (σ0 : Nat → Nat → Int32)  (n : Nat) : Prop := ∀ (σ : Nat → Nat → Int32) (τ : Nat → Nat → Int64) (H : Heap) (locs : List Loc) (x1 : Int32) (p2 : Nat) (x3 : Int32) (x4 : Int32) (ls : Array Slot), Rg σ → Fr L_X10_readFlight σ0 σ → va_P D vwCl (gw cA ad σ τ) H → va_S (AA ad) s.heap H locs → (0 ≤ x1.toInt ∧ x1.toInt ≤ 3) → (136 ≤ p2 ∧ p2 ≤ 139) → (0 ≤ x4.toInt ∧ x4.toInt ≤ 10) → (1 ≤ (σ 3 6).toInt ∧ (σ 3 6).toInt ≤ 4) → ((σ p2 2).toInt = x4.toInt) → lv_has ls 6 [(0, .ref (ad 6)), (1, .int x1), (2, .ref (ad p2)), (3, .int x3), (4, .int x4)] → 2 * (10 - x4.toInt) + 1 < (n : Int) → W p l e ({ frames := 3, cells := 0, slots := 0, locals := 67 } : Room) s m args below meth c H locs 0 0 (MQ below (va_Qi (fun (r : Int32) (u : SS) => P_X10_readFlight σ0 r u.1) (WB D cA ad) (AA ad)) args s 0 0 (AA ad)) (F0 m 87 ls [])
set_option maxHeartbeats 4000000 in
theorem B_X10_readFlight_87 (p : Program) (l : Launch) (e : Env) (s : State) (m : MethodId) (args : Array Value) (below : List Frame) (meth : Method) (c : Code) (D : va_G) (cA : Nat → ClassId) (ad : Nat → Nat) (σ0 : Nat → Nat → Int32)  (n : Nat) (C : Cy p s m args meth c cX10_readFlight 6 wsX10_readFlight RX10 D cA ad (some .boolean))  (K87 : J_X10_readFlight_87 p l e s m args below meth c D cA ad σ0  n) : J_X10_readFlight_87 p l e s m args below meth c D cA ad σ0  (n + 1) := by
  obtain ⟨hx, hb, hml, hown, hts, hK, hk, hr, hI, hN⟩ := C
  intro σ τ H locs x1 p2 x3 x4 ls hR hF hP hS hc0 hc1 hc2 hc3 hc4 hl hm
  refine lv_iload hx hb dX10_readFlight_87 (lv_at hl 4 rfl) ?_
  refine r_bipush hx hb dX10_readFlight_89 (by decide) (fun z1 ez1 => ?_)
  refine r_icmp_gt (tgt := 195) hx hb dX10_readFlight_91 (by decide) (fun c2 => ?_) (fun c2 => ?_)
  · exfalso; omega
  · refine lv_aload_n hx hb dX10_readFlight_94 rfl (lv_at hl 0 rfl) ?_
    refine fg_10_0 (k := 6) hx hb hts in_X10_readFlight_10 hown hK hP (by decide) (by decide) (hts _ lk_X10_readFlight_9) dX10_readFlight_95 ?_
    refine fgN_8_9 (k := 1) hx hb hts in_X10_readFlight_8 hown hK hP (by decide) (by decide) (hN.use nw_10_34) dX10_readFlight_98 ?_
    refine r_bipush hx hb dX10_readFlight_101 (by decide) (fun z3 ez3 => ?_)
    refine r_icmp_ne (tgt := 195) hx hb dX10_readFlight_103 (by decide) (fun c4 => ?_) (fun c4 => ?_)
    · refine r_iconst hx hb dX10_readFlight_195 (by decide) (fun z5 ez5 => ?_)
      exact r_zret hx hb hr hK hP hS hk (by omega) dX10_readFlight_196 (show P_X10_readFlight σ0 z5 σ from ⟨hR, hF, by omega⟩)
    · refine lv_iload hx hb dX10_readFlight_106 (lv_at hl 4 rfl) ?_
      refine r_bipush hx hb dX10_readFlight_108 (by decide) (fun z6 ez6 => ?_)
      refine r_icmp_ne (tgt := 122) hx hb dX10_readFlight_110 (by decide) (fun c7 => ?_) (fun c7 => ?_)
      · refine lv_aload_n hx hb dX10_readFlight_122 rfl (lv_at hl 0 rfl) ?_
        refine fg_10_1 (k := 6) hx hb hts in_X10_readFlight_10 hown hK hP (by decide) (by decide) (hts _ lk_X10_readFlight_15) dX10_readFlight_123 ?_
        refine lv_iload_n hx hb dX10_readFlight_126 rfl (lv_at hl 1 rfl) ?_
        refine lv_iload hx hb dX10_readFlight_127 (lv_at hl 4 rfl) ?_
        refine r_cVr (k := 3) (As := [.int x1, .int x4]) (rest := []) ⟨hx, hb, hml, hown, hts⟩ hK hP hN hS (c_X9_callRow l D cA ad hI σ τ hR 3 x1 x4 ⟨by omega, by omega⟩ (by omega) (by omega)) (cwV 2 hts gX10_readFlight_X9_callRow rfl rfl rfl (by decide +kernel) ⟨by decide, by decide⟩) (rv_Valley hK hP (by decide) (by decide)) rfl hl.1 rfl (Nat.le_of_ble_eq_true rfl) dX10_readFlight_129 (Nat.zero_le _) (Nat.zero_le _) (fun r8 u8 H8 locs8 hp8 hP hS => ?_)
        obtain ⟨σ8, τ8⟩ := u8
        obtain ⟨hR, f8, hq8⟩ : P_X9_callRow ad σ 3 x1 x4 r8 σ8 := hp8
        have hP : va_P D vwCl (gw cA ad σ8 τ8) H8 := hP
        obtain rfl := Fr.nil f8
        obtain ⟨q8, rfl, hq8a, hq8b⟩ := hq8
        refine lv_astore (lv' := [(5, .ref (ad q8)), (0, .ref (ad 6)), (1, .int x1), (2, .ref (ad p2)), (3, .int x3), (4, .int x4)]) hx hb dX10_readFlight_132 hl (by decide) rfl (fun ls hl => ?_)
        refine lv_aload_n hx hb dX10_readFlight_134 rfl (lv_at hl 1 rfl) ?_
        refine lv_aload hx hb dX10_readFlight_135 (lv_at hl 0 rfl) ?_
        refine r_iconst hx hb dX10_readFlight_137 (by decide) (fun z9 ez9 => ?_)
        refine lv_iload_n hx hb dX10_readFlight_138 rfl (lv_at hl 4 rfl) ?_
        refine r_bipush hx hb dX10_readFlight_139 (by decide) (fun z10 ez10 => ?_)
        refine r_cVi (k := 6) (As := [.ref (ad q8), .int z9, .int x3, .int z10]) (rest := []) ⟨hx, hb, hml, hown, hts⟩ hK hP hN hS (c_X10_readInto_callR l D cA ad hI σ τ8 hR q8 z9 x3 z10 ⟨by omega, by omega⟩ (by omega) (by omega)) (cwV 4 hts gX10_readFlight_X10_readInto rfl rfl rfl (by decide +kernel) ⟨by decide, by decide⟩) (rv_VText hK hP (by decide) (by decide)) rfl hl.1 rfl (Nat.le_of_ble_eq_true rfl) dX10_readFlight_141 (Nat.zero_le _) (Nat.zero_le _) (fun r11 u11 H11 locs11 hp11 hP hS => ?_)
        obtain ⟨σ11, τ11⟩ := u11
        obtain ⟨hR, f11, hq11⟩ : P_X10_readInto_callR σ q8 z9 x3 z10 r11 σ11 := hp11
        have hP : va_P D vwCl (gw cA ad σ11 τ11) H11 := hP
        have hF := hF.step f11 (by decide)
        have t12 : (σ11 3 6).toInt = (σ 3 6).toInt := congrArg Int32.toInt (f11.at 3 6 (by decide))
        have t13 : (σ11 p2 2).toInt = (σ p2 2).toInt := congrArg Int32.toInt (f11.atV p2 2 (by intro q hq; simp only [L_X10_readInto_callR, List.mem_cons, List.not_mem_nil, or_false] at hq; rcases hq with rfl | rfl | rfl <;> dsimp only <;> omega))
        refine r_if_eq (tgt := 173) hx hb dX10_readFlight_144 (by decide) (fun c14 => ?_) (fun c14 => ?_)
        · refine r_iconst hx hb dX10_readFlight_173 (by decide) (fun z15 ez15 => ?_)
          exact r_zret hx hb hr hK hP hS hk (by omega) dX10_readFlight_174 (show P_X10_readFlight σ0 z15 σ11 from ⟨hR, hF, by omega⟩)
        · refine lv_aload_n hx hb dX10_readFlight_147 rfl (lv_at hl 1 rfl) ?_
          refine lv_aload hx hb dX10_readFlight_148 (lv_at hl 0 rfl) ?_
          refine r_iconst hx hb dX10_readFlight_150 (by decide) (fun z16 ez16 => ?_)
          refine r_iconst hx hb dX10_readFlight_151 (by decide) (fun z17 ez17 => ?_)
          refine r_bipush hx hb dX10_readFlight_152 (by decide) (fun z18 ez18 => ?_)
          refine r_cVi (k := 6) (As := [.ref (ad q8), .int z16, .int z17, .int z18]) (rest := []) ⟨hx, hb, hml, hown, hts⟩ hK hP hN hS (c_X10_readInto_callR l D cA ad hI σ11 τ11 hR q8 z16 z17 z18 ⟨by omega, by omega⟩ (by omega) (by omega)) (cwV 4 hts gX10_readFlight_X10_readInto rfl rfl rfl (by decide +kernel) ⟨by decide, by decide⟩) (rv_VText hK hP (by decide) (by decide)) rfl hl.1 rfl (Nat.le_of_ble_eq_true rfl) dX10_readFlight_154 (Nat.zero_le _) (Nat.zero_le _) (fun r19 u19 H19 locs19 hp19 hP hS => ?_)
          obtain ⟨σ19, τ19⟩ := u19
          obtain ⟨hR, f19, hq19⟩ : P_X10_readInto_callR σ11 q8 z16 z17 z18 r19 σ19 := hp19
          have hP : va_P D vwCl (gw cA ad σ19 τ19) H19 := hP
          have hF := hF.step f19 (by decide)
          have t20 : (σ19 3 6).toInt = (σ11 3 6).toInt := congrArg Int32.toInt (f19.at 3 6 (by decide))
          have t21 : (σ19 p2 2).toInt = (σ11 p2 2).toInt := congrArg Int32.toInt (f19.atV p2 2 (by intro q hq; simp only [L_X10_readInto_callR, List.mem_cons, List.not_mem_nil, or_false] at hq; rcases hq with rfl | rfl | rfl <;> dsimp only <;> omega))
          refine r_if_eq (tgt := 173) hx hb dX10_readFlight_157 (by decide) (fun c22 => ?_) (fun c22 => ?_)
          · refine r_iconst hx hb dX10_readFlight_173 (by decide) (fun z23 ez23 => ?_)
            exact r_zret hx hb hr hK hP hS hk (by omega) dX10_readFlight_174 (show P_X10_readFlight σ0 z23 σ19 from ⟨hR, hF, by omega⟩)
          · refine lv_aload_n hx hb dX10_readFlight_160 rfl (lv_at hl 1 rfl) ?_
            refine lv_aload hx hb dX10_readFlight_161 (lv_at hl 0 rfl) ?_
            refine r_iconst hx hb dX10_readFlight_163 (by decide) (fun z24 ez24 => ?_)
            refine r_iconst hx hb dX10_readFlight_164 (by decide) (fun z25 ez25 => ?_)
            refine r_bipush hx hb dX10_readFlight_165 (by decide) (fun z26 ez26 => ?_)
            refine r_cVi (k := 6) (As := [.ref (ad q8), .int z24, .int z25, .int z26]) (rest := []) ⟨hx, hb, hml, hown, hts⟩ hK hP hN hS (c_X10_readInto_callR l D cA ad hI σ19 τ19 hR q8 z24 z25 z26 ⟨by omega, by omega⟩ (by omega) (by omega)) (cwV 4 hts gX10_readFlight_X10_readInto rfl rfl rfl (by decide +kernel) ⟨by decide, by decide⟩) (rv_VText hK hP (by decide) (by decide)) rfl hl.1 rfl (Nat.le_of_ble_eq_true rfl) dX10_readFlight_167 (Nat.zero_le _) (Nat.zero_le _) (fun r27 u27 H27 locs27 hp27 hP hS => ?_)
            obtain ⟨σ27, τ27⟩ := u27
            obtain ⟨hR, f27, hq27⟩ : P_X10_readInto_callR σ19 q8 z24 z25 z26 r27 σ27 := hp27
            have hP : va_P D vwCl (gw cA ad σ27 τ27) H27 := hP
            have hF := hF.step f27 (by decide)
            have t28 : (σ27 3 6).toInt = (σ19 3 6).toInt := congrArg Int32.toInt (f27.at 3 6 (by decide))
            have t29 : (σ27 p2 2).toInt = (σ19 p2 2).toInt := congrArg Int32.toInt (f27.atV p2 2 (by intro q hq; simp only [L_X10_readInto_callR, List.mem_cons, List.not_mem_nil, or_false] at hq; rcases hq with rfl | rfl | rfl <;> dsimp only <;> omega))
            refine r_if_ne (tgt := 175) hx hb dX10_readFlight_170 (by decide) (fun c30 => ?_) (fun c30 => ?_)
            · refine lv_aload hx hb dX10_readFlight_175 (lv_at hl 0 rfl) ?_
              refine r_iconst hx hb dX10_readFlight_177 (by decide) (fun z31 ez31 => ?_)
              refine ad_callR (k := q8) (j := 0) hx hb hK hP (by omega) (by omega) (by omega) (by omega) dX10_readFlight_178 ?_
              refine r_iconst hx hb dX10_readFlight_179 (by decide) (fun z32 ez32 => ?_)
              refine r_iaddU hx hb dX10_readFlight_180 (fun z33 => ?_)
              refine lv_istore_n (lv' := [(3, .int z33), (5, .ref (ad q8)), (0, .ref (ad 6)), (1, .int x1), (2, .ref (ad p2)), (4, .int x4)]) hx hb dX10_readFlight_181 rfl hl (by decide) rfl (fun ls hl => ?_)
              refine lv_aload_n hx hb dX10_readFlight_182 rfl (lv_at hl 4 rfl) ?_
              refine r_iconst hx hb dX10_readFlight_183 (by decide) (fun z34 ez34 => ?_)
              refine lv_dup2_11 hx hb dX10_readFlight_184 rfl rfl ?_
              refine ad_flightR (k := p2) (j := 2) hx hb hK hP (by omega) (by omega) (by omega) (by omega) dX10_readFlight_185 ?_
              have hr35 := ra_flightR_0 hR (k := p2) (j := 2) (by omega) (by omega) (by decide) (by decide)
              refine r_iconst hx hb dX10_readFlight_186 (by decide) (fun z36 ez36 => ?_)
              refine r_iadd hx hb dX10_readFlight_187 (by omega) (fun z37 ez37 => ?_)
              refine as_flightR (k := p2) (j := 2) hx hb hK hP hI hR hS (by omega) (by omega) (by omega) (by omega) (rw_flightR_0 (by omega) (by omega) (by decide) (by decide) (by omega)) dX10_readFlight_188 (fun σ38 H38 locs38 u38 v38 hR hP hS => ?_)
              have hF := hF.puts u38 3 rfl (by omega) (by omega) (by decide) (by decide)
              have t39 : (σ38 3 6).toInt = (σ27 3 6).toInt := congrArg Int32.toInt (u38 3 6 (by omega))
              have t40 : (σ38 q8 0).toInt = (σ27 q8 0).toInt := congrArg Int32.toInt (u38 q8 0 (by omega))
              refine r_iinc (k := 5) (lv1 := fun z41 => [(4, .int z41), (3, .int z33), (5, .ref (ad q8)), (0, .ref (ad 6)), (1, .int x1), (2, .ref (ad p2))]) hx hb dX10_readFlight_189 hl rfl (by decide) (fun _ => rfl) (by decide) (by omega) (fun z41 ls ez41 hl => ?_)
              refine lv_goto (tgt := 87) hx hb dX10_readFlight_192 (by decide) ?_
              exact K87 σ38 τ27 H38 locs38 x1 p2 z33 z41 ls hR hF hP hS (by omega) (by omega) (by omega) (by omega) (by omega) (lv_sub hl [3, 4, 5, 1, 0] rfl) (by omega)
            · refine r_iconst hx hb dX10_readFlight_173 (by decide) (fun z42 ez42 => ?_)
              exact r_zret hx hb hr hK hP hS hk (by omega) dX10_readFlight_174 (show P_X10_readFlight σ0 z42 σ27 from ⟨hR, hF, by omega⟩)
      · refine lv_aload_n hx hb dX10_readFlight_113 rfl (lv_at hl 0 rfl) ?_
        refine fg_10_0 (k := 6) hx hb hts in_X10_readFlight_10 hown hK hP (by decide) (by decide) (hts _ lk_X10_readFlight_9) dX10_readFlight_114 ?_
        refine r_iconst hx hb dX10_readFlight_117 (by decide) (fun z43 ez43 => ?_)
        refine r_cVi (k := 1) (As := [.int z43]) (rest := []) ⟨hx, hb, hml, hown, hts⟩ hK hP hN hS (c_X8_blame l D cA ad hI σ τ hR z43 (by omega)) (cwV 1 hts gX10_readFlight_X8_blame rfl rfl rfl (by decide +kernel) ⟨by decide, by decide⟩) (rv_Tape hK hP (by decide) (by decide)) rfl hl.1 rfl (Nat.le_of_ble_eq_true rfl) dX10_readFlight_118 (Nat.zero_le _) (Nat.zero_le _) (fun r44 u44 H44 locs44 hp44 hP hS => ?_)
        obtain ⟨σ44, τ44⟩ := u44
        obtain ⟨hR, f44, hq44⟩ : P_X8_blame σ z43 r44 σ44 := hp44
        have hP : va_P D vwCl (gw cA ad σ44 τ44) H44 := hP
        have hF := hF.step f44 (by decide)
        have t45 : (σ44 3 6).toInt = (σ 3 6).toInt := congrArg Int32.toInt (f44.at 3 6 (by decide))
        have t46 : (σ44 p2 2).toInt = (σ p2 2).toInt := congrArg Int32.toInt (f44.atV p2 2 (by intro q hq; simp only [L_X8_blame, List.mem_cons, List.not_mem_nil, or_false] at hq; rcases hq with rfl <;> dsimp only <;> omega))
        exact r_zret hx hb hr hK hP hS hk (by omega) dX10_readFlight_121 (show P_X10_readFlight σ0 r44 σ44 from ⟨hR, hF, by omega⟩)
theorem A_X10_readFlight (p : Program) (l : Launch) (e : Env) (s : State) (m : MethodId) (args : Array Value) (below : List Frame) (meth : Method) (c : Code) (D : va_G) (cA : Nat → ClassId) (ad : Nat → Nat) (σ0 : Nat → Nat → Int32)  (C : Cy p s m args meth c cX10_readFlight 6 wsX10_readFlight RX10 D cA ad (some .boolean))  : ∀ n : Nat, J_X10_readFlight_87 p l e s m args below meth c D cA ad σ0  n := by
  intro n
  induction n with
  | zero =>
    exact (by intro σ τ H locs x1 p2 x3 x4 ls hR hF hP hS hc0 hc1 hc2 hc3 hc4 hl hm; exfalso; omega)
  | succ n ih =>
    exact B_X10_readFlight_87 p l e s m args below meth c D cA ad σ0  n C  ih
set_option maxHeartbeats 4000000 in
theorem c_X10_readFlight (l : Launch) (D : va_G) (cA : Nat → ClassId) (ad : Nat → Nat) (hI : Inj ad) (σ0 : Nat → Nat → Int32) (τ0 : Nat → Nat → Int64) (hR : Rg σ0)   : Met l yX10_readFlight wsX10_readFlight ({ frames := 3, cells := 0, slots := 0, locals := 67 } : Room) (WQc D cA ad [.ref (ad 6)] σ0 τ0) (va_Qi (fun (r : Int32) (u : SS) => P_X10_readFlight σ0 r u.1) (WB D cA ad) (AA ad)) 0 0 (AA ad) := by
  refine Met.ofW (cc := cX10_readFlight) (maxL := 6) (ret := (some .boolean)) (by decide) rfl ?_
  intro p e s m args below meth c s₁ B hml hv
  obtain ⟨rfl, hP, hK, hN⟩ := hv
  have C : Cy p s m _ meth c cX10_readFlight 6 wsX10_readFlight RX10 D cA ad (some .boolean) := ⟨B.exec, B.bytes, hml, findClass_of_methodNamed B.named, atoms_spec (ws := wsX10_readFlight) B.pre, hK, B.notSynchronized, B.returns, hI, hN⟩
  have hl := lv_entry ([.ref (ad 6)]) (n := 6) (Nat.le_of_ble_eq_true rfl)
  rw [lg_entry_eq]
  generalize (lg_sl ([.ref (ad 6)]) ++ List.replicate (6 - (lg_sl ([.ref (ad 6)])).length) Slot.unset).toArray = ls at hl ⊢
  have hl : lv_has ls 6 [(0, .ref (ad 6))] := hl
  have hS : va_S (AA ad) s.heap s.heap [] := va_S.rf
  have hF : Fr L_X10_readFlight σ0 σ0 := Fr.rf
  have hA := A_X10_readFlight p l e s m _ below meth c D cA ad σ0  C  50
  have K87 := hA
  clear hA
  obtain ⟨hx, hb, _, hown, hts, _, hk, hr, _, _⟩ := C
  refine lv_aload_n hx hb dX10_readFlight_0 rfl (lv_at hl 0 rfl) ?_
  refine fg_10_1 (k := 6) hx hb hts in_X10_readFlight_10 hown hK hP (by decide) (by decide) (hts _ lk_X10_readFlight_15) dX10_readFlight_1 ?_
  refine fgN_9_6 (k := 3) hx hb hts in_X10_readFlight_9 hown hK hP (by decide) (by decide) (hN.use nw_10_154) dX10_readFlight_4 ?_
  have hr1 := rg_9_6 hR (k := 3) (by decide) (by decide)
  refine lv_istore_n (lv' := [(1, .int (σ0 3 6)), (0, .ref (ad 6))]) hx hb dX10_readFlight_7 rfl hl (by decide) rfl (fun ls hl => ?_)
  refine lv_iload_n hx hb dX10_readFlight_8 rfl (lv_at hl 0 rfl) ?_
  refine r_iconst hx hb dX10_readFlight_9 (by decide) (fun z2 ez2 => ?_)
  refine r_icmp_lt (tgt := 22) hx hb dX10_readFlight_10 (by decide) (fun c3 => ?_) (fun c3 => ?_)
  · refine lv_aload_n hx hb dX10_readFlight_22 rfl (lv_at hl 1 rfl) ?_
    refine fg_10_1 (k := 6) hx hb hts in_X10_readFlight_10 hown hK hP (by decide) (by decide) (hts _ lk_X10_readFlight_15) dX10_readFlight_23 ?_
    refine lv_dup hx hb dX10_readFlight_26 rfl ?_
    refine fgN_9_6 (k := 3) hx hb hts in_X10_readFlight_9 hown hK hP (by decide) (by decide) (hN.use nw_10_154) dX10_readFlight_27 ?_
    refine r_iconst hx hb dX10_readFlight_30 (by decide) (fun z4 ez4 => ?_)
    refine r_iadd hx hb dX10_readFlight_31 (by omega) (fun z5 ez5 => ?_)
    refine fpN_9_6 (k := 3) hx hb hts in_X10_readFlight_9 hown hK hP (by decide) (by decide) (hN.use nw_10_154) hI hR hS (by omega) dX10_readFlight_32 (fun σ6 H6 locs6 u6 v6 hR hP hS => ?_)
    have hF := hF.puts u6 0 rfl (by decide) (by decide) (by decide) (by decide)
    refine lv_aload_n hx hb dX10_readFlight_35 rfl (lv_at hl 1 rfl) ?_
    refine fg_10_0 (k := 6) hx hb hts in_X10_readFlight_10 hown hK hP (by decide) (by decide) (hts _ lk_X10_readFlight_9) dX10_readFlight_36 ?_
    refine r_cVv (k := 1) (As := []) (rest := []) ⟨hx, hb, hml, hown, hts⟩ hK hP hN hS (c_X8_next l D cA ad hI σ6 τ0 hR) (cwV 0 hts gX10_readFlight_X8_next rfl rfl rfl (by decide +kernel) ⟨by decide, by decide⟩) (rv_Tape hK hP (by decide) (by decide)) rfl hl.1 rfl (Nat.le_of_ble_eq_true rfl) dX10_readFlight_39 (Nat.zero_le _) (Nat.zero_le _) (fun u7 H7 locs7 hp7 hP hS => ?_)
    obtain ⟨σ7, τ7⟩ := u7
    obtain ⟨hR, f7⟩ : P_X8_next σ6 σ7 := hp7
    have hP : va_P D vwCl (gw cA ad σ7 τ7) H7 := hP
    have hF := hF.step f7 (by decide)
    have t8 : (σ7 3 6).toInt = (σ6 3 6).toInt := congrArg Int32.toInt (f7.at 3 6 (by decide))
    refine lv_aload_n hx hb dX10_readFlight_42 rfl (lv_at hl 1 rfl) ?_
    refine fg_10_1 (k := 6) hx hb hts in_X10_readFlight_10 hown hK hP (by decide) (by decide) (hts _ lk_X10_readFlight_15) dX10_readFlight_43 ?_
    refine fgN_9_11 (k := 3) hx hb hts in_X10_readFlight_9 hown hK hP (by decide) (by decide) (hN.use nw_10_157) dX10_readFlight_46 ?_
    refine lv_iload_n hx hb dX10_readFlight_49 rfl (lv_at hl 0 rfl) ?_
    obtain ⟨j9, ej9⟩ : ∃ j : Nat, (σ0 3 6).toInt = (j : Int) := ⟨_, ti_nat (by omega)⟩
    refine ad_flightA (k := 57) (j := j9) hx hb hK hP (by decide) (by decide) ej9 (by omega) dX10_readFlight_50 ?_
    refine lv_astore_n (lv' := [(2, .ref (ad (136 + j9))), (1, .int (σ0 3 6)), (0, .ref (ad 6))]) hx hb dX10_readFlight_51 rfl hl (by decide) rfl (fun ls hl => ?_)
    refine lv_aload_n hx hb dX10_readFlight_52 rfl (lv_at hl 0 rfl) ?_
    refine r_iconst hx hb dX10_readFlight_53 (by decide) (fun z10 ez10 => ?_)
    refine r_iconst hx hb dX10_readFlight_54 (by decide) (fun z11 ez11 => ?_)
    refine as_flightR (k := 136 + j9) (j := 2) hx hb hK hP hI hR hS (by omega) (by omega) (by omega) (by omega) (rw_flightR_0 (by omega) (by omega) (by decide) (by decide) (by omega)) dX10_readFlight_55 (fun σ12 H12 locs12 u12 v12 hR hP hS => ?_)
    have hF := hF.puts u12 3 rfl (by omega) (by omega) (by decide) (by decide)
    have t13 : (σ12 3 6).toInt = (σ7 3 6).toInt := congrArg Int32.toInt (u12 3 6 (by omega))
    refine lv_aload_n hx hb dX10_readFlight_56 rfl (lv_at hl 2 rfl) ?_
    refine lv_aload_n hx hb dX10_readFlight_57 rfl (lv_at hl 0 rfl) ?_
    refine r_iconst hx hb dX10_readFlight_58 (by decide) (fun z14 ez14 => ?_)
    refine r_iconst hx hb dX10_readFlight_59 (by decide) (fun z15 ez15 => ?_)
    refine r_bipush hx hb dX10_readFlight_60 (by decide) (fun z16 ez16 => ?_)
    refine r_cVi (k := 6) (As := [.ref (ad (136 + j9)), .int z14, .int z15, .int z16]) (rest := []) ⟨hx, hb, hml, hown, hts⟩ hK hP hN hS (c_X10_readInto_flightR l D cA ad hI σ12 τ7 hR (136 + j9) z14 z15 z16 ⟨by omega, by omega⟩ (by omega) (by omega) (by omega)) (cwV 4 hts gX10_readFlight_X10_readInto rfl rfl rfl (by decide +kernel) ⟨by decide, by decide⟩) (rv_VText hK hP (by decide) (by decide)) rfl hl.1 rfl (Nat.le_of_ble_eq_true rfl) dX10_readFlight_62 (Nat.zero_le _) (Nat.zero_le _) (fun r17 u17 H17 locs17 hp17 hP hS => ?_)
    obtain ⟨σ17, τ17⟩ := u17
    obtain ⟨hR, f17, hq17⟩ : P_X10_readInto_flightR σ12 (136 + j9) z14 z15 z16 r17 σ17 := hp17
    have hP : va_P D vwCl (gw cA ad σ17 τ17) H17 := hP
    have hF := hF.step f17 (by decide)
    have t18 : (σ17 3 6).toInt = (σ12 3 6).toInt := congrArg Int32.toInt (f17.at 3 6 (by decide))
    have t19 : (σ17 (136 + j9) 2).toInt = (σ12 (136 + j9) 2).toInt := congrArg Int32.toInt (f17.atV (136 + j9) 2 (by intro q hq; simp only [L_X10_readInto_flightR, List.mem_cons, List.not_mem_nil, or_false] at hq; rcases hq with rfl | rfl | rfl <;> dsimp only <;> omega))
    refine r_if_eq (tgt := 80) hx hb dX10_readFlight_65 (by decide) (fun c20 => ?_) (fun c20 => ?_)
    · refine r_iconst hx hb dX10_readFlight_80 (by decide) (fun z21 ez21 => ?_)
      exact r_zret hx hb hr hK hP hS hk (by omega) dX10_readFlight_81 (show P_X10_readFlight σ0 z21 σ17 from ⟨hR, hF, by omega⟩)
    · refine lv_aload_n hx hb dX10_readFlight_68 rfl (lv_at hl 2 rfl) ?_
      refine lv_aload_n hx hb dX10_readFlight_69 rfl (lv_at hl 0 rfl) ?_
      refine r_iconst hx hb dX10_readFlight_70 (by decide) (fun z22 ez22 => ?_)
      refine r_iconst hx hb dX10_readFlight_71 (by decide) (fun z23 ez23 => ?_)
      refine r_bipush hx hb dX10_readFlight_72 (by decide) (fun z24 ez24 => ?_)
      refine r_cVi (k := 6) (As := [.ref (ad (136 + j9)), .int z22, .int z23, .int z24]) (rest := []) ⟨hx, hb, hml, hown, hts⟩ hK hP hN hS (c_X10_readInto_flightR l D cA ad hI σ17 τ17 hR (136 + j9) z22 z23 z24 ⟨by omega, by omega⟩ (by omega) (by omega) (by omega)) (cwV 4 hts gX10_readFlight_X10_readInto rfl rfl rfl (by decide +kernel) ⟨by decide, by decide⟩) (rv_VText hK hP (by decide) (by decide)) rfl hl.1 rfl (Nat.le_of_ble_eq_true rfl) dX10_readFlight_74 (Nat.zero_le _) (Nat.zero_le _) (fun r25 u25 H25 locs25 hp25 hP hS => ?_)
      obtain ⟨σ25, τ25⟩ := u25
      obtain ⟨hR, f25, hq25⟩ : P_X10_readInto_flightR σ17 (136 + j9) z22 z23 z24 r25 σ25 := hp25
      have hP : va_P D vwCl (gw cA ad σ25 τ25) H25 := hP
      have hF := hF.step f25 (by decide)
      have t26 : (σ25 3 6).toInt = (σ17 3 6).toInt := congrArg Int32.toInt (f25.at 3 6 (by decide))
      have t27 : (σ25 (136 + j9) 2).toInt = (σ17 (136 + j9) 2).toInt := congrArg Int32.toInt (f25.atV (136 + j9) 2 (by intro q hq; simp only [L_X10_readInto_flightR, List.mem_cons, List.not_mem_nil, or_false] at hq; rcases hq with rfl | rfl | rfl <;> dsimp only <;> omega))
      refine r_if_ne (tgt := 82) hx hb dX10_readFlight_77 (by decide) (fun c28 => ?_) (fun c28 => ?_)
      · refine r_iconst hx hb dX10_readFlight_82 (by decide) (fun z29 ez29 => ?_)
        refine lv_istore_n (lv' := [(3, .int z29), (2, .ref (ad (136 + j9))), (1, .int (σ0 3 6)), (0, .ref (ad 6))]) hx hb dX10_readFlight_83 rfl hl (by decide) rfl (fun ls hl => ?_)
        refine r_iconst hx hb dX10_readFlight_84 (by decide) (fun z30 ez30 => ?_)
        refine lv_istore (lv' := [(4, .int z30), (3, .int z29), (2, .ref (ad (136 + j9))), (1, .int (σ0 3 6)), (0, .ref (ad 6))]) hx hb dX10_readFlight_85 hl (by decide) rfl (fun ls hl => ?_)
        exact K87 σ25 τ25 H25 locs25 (σ0 3 6) (136 + j9) z29 z30 ls hR hF hP hS (by omega) (by omega) (by omega) (by omega) (by omega) (lv_sub hl [4, 3, 2, 1, 0] rfl) (by omega)
      · refine r_iconst hx hb dX10_readFlight_80 (by decide) (fun z31 ez31 => ?_)
        exact r_zret hx hb hr hK hP hS hk (by omega) dX10_readFlight_81 (show P_X10_readFlight σ0 z31 σ25 from ⟨hR, hF, by omega⟩)
  · refine lv_aload_n hx hb dX10_readFlight_13 rfl (lv_at hl 1 rfl) ?_
    refine fg_10_0 (k := 6) hx hb hts in_X10_readFlight_10 hown hK hP (by decide) (by decide) (hts _ lk_X10_readFlight_9) dX10_readFlight_14 ?_
    refine r_iconst hx hb dX10_readFlight_17 (by decide) (fun z32 ez32 => ?_)
    refine r_cVi (k := 1) (As := [.int z32]) (rest := []) ⟨hx, hb, hml, hown, hts⟩ hK hP hN hS (c_X8_blame l D cA ad hI σ0 τ0 hR z32 (by omega)) (cwV 1 hts gX10_readFlight_X8_blame rfl rfl rfl (by decide +kernel) ⟨by decide, by decide⟩) (rv_Tape hK hP (by decide) (by decide)) rfl hl.1 rfl (Nat.le_of_ble_eq_true rfl) dX10_readFlight_18 (Nat.zero_le _) (Nat.zero_le _) (fun r33 u33 H33 locs33 hp33 hP hS => ?_)
    obtain ⟨σ33, τ33⟩ := u33
    obtain ⟨hR, f33, hq33⟩ : P_X8_blame σ0 z32 r33 σ33 := hp33
    have hP : va_P D vwCl (gw cA ad σ33 τ33) H33 := hP
    have hF := hF.step f33 (by decide)
    have t34 : (σ33 3 6).toInt = (σ0 3 6).toInt := congrArg Int32.toInt (f33.at 3 6 (by decide))
    exact r_zret hx hb hr hK hP hS hk (by omega) dX10_readFlight_21 (show P_X10_readFlight σ0 r33 σ33 from ⟨hR, hF, by omega⟩)
theorem in_X9_isTold_9 : ∀ w ∈ u_ws RX9 TX9 14, w ∈ wsX9_isTold := by decide +kernel
theorem lk_X9_isTold_15 : Cond.fieldLink RX9 15 "CuckooShares$Valley" "manName" "[J" ∈ wsX9_isTold := by decide +kernel
theorem lk_X9_isTold_49 : Cond.fieldLink RX9 49 "CuckooShares$Valley" "hills" "I" ∈ wsX9_isTold := by decide +kernel
theorem lk_X9_isTold_52 : Cond.fieldLink RX9 52 "CuckooShares$Valley" "men" "I" ∈ wsX9_isTold := by decide +kernel
theorem lk_X9_isTold_9 : Cond.fieldLink RX9 9 "CuckooShares$Valley" "hillName" "[J" ∈ wsX9_isTold := by decide +kernel
abbrev L_X9_isTold : List Rc := []
def P_X9_isTold (σ0 : Nat → Nat → Int32) (a1 : Int64) (r : Int32) (σ : Nat → Nat → Int32) : Prop := Rg σ ∧ Fr L_X9_isTold σ0 σ ∧ (0 ≤ r.toInt ∧ r.toInt ≤ 1)
set_option maxHeartbeats 4000000 in
theorem c_X9_isTold (l : Launch) (D : va_G) (cA : Nat → ClassId) (ad : Nat → Nat) (hI : Inj ad) (σ0 : Nat → Nat → Int32) (τ0 : Nat → Nat → Int64) (hR : Rg σ0) (a1 : Int64)  : Met l yX9_isTold wsX9_isTold ({ frames := 1, cells := 0, slots := 0, locals := 25 } : Room) (WQc D cA ad [.ref (ad 3), .long a1] σ0 τ0) (va_Qi (fun (r : Int32) (u : SS) => P_X9_isTold σ0 a1 r u.1) (WB D cA ad) (AA ad)) 0 0 (AA ad) := by
  refine Met.ofW (cc := cX9_isTold) (maxL := 3) (ret := (some .boolean)) (by decide) rfl ?_
  intro p e s m args below meth c s₁ B hml hv
  obtain ⟨rfl, hP, hK, hN⟩ := hv
  have C : Cy p s m _ meth c cX9_isTold 3 wsX9_isTold RX9 D cA ad (some .boolean) := ⟨B.exec, B.bytes, hml, findClass_of_methodNamed B.named, atoms_spec (ws := wsX9_isTold) B.pre, hK, B.notSynchronized, B.returns, hI, hN⟩
  have hl := lv_entry ([.ref (ad 3), .long a1]) (n := 3) (Nat.le_of_ble_eq_true rfl)
  rw [lg_entry_eq]
  generalize (lg_sl ([.ref (ad 3), .long a1]) ++ List.replicate (3 - (lg_sl ([.ref (ad 3), .long a1])).length) Slot.unset).toArray = ls at hl ⊢
  have hl : lv_has ls 3 [(0, .ref (ad 3)), (1, .long a1)] := hl
  have hS : va_S (AA ad) s.heap s.heap [] := va_S.rf
  have hF : Fr L_X9_isTold σ0 σ0 := Fr.rf
  obtain ⟨hx, hb, _, hown, hts, _, hk, hr, _, _⟩ := C
  refine lv_aload_n hx hb dX9_isTold_0 rfl (lv_at hl 0 rfl) ?_
  refine lv_lload_n hx hb dX9_isTold_1 rfl (lv_at hl 1 rfl) ?_
  refine lv_aload_n hx hb dX9_isTold_2 rfl (lv_at hl 0 rfl) ?_
  refine fg_9_7 (k := 3) hx hb hts in_X9_isTold_9 hown hK hP (by decide) (by decide) (hts _ lk_X9_isTold_9) dX9_isTold_3 ?_
  refine lv_aload_n hx hb dX9_isTold_6 rfl (lv_at hl 0 rfl) ?_
  refine fg_9_4 (k := 3) hx hb hts in_X9_isTold_9 hown hK hP (by decide) (by decide) (hts _ lk_X9_isTold_49) dX9_isTold_7 ?_
  have hr1 := rg_9_4 hR (k := 3) (by decide) (by decide)
  refine r_cVi (k := 3) (As := [.long a1, .ref (ad 41), .int (σ0 3 4)]) (rest := []) ⟨hx, hb, hml, hown, hts⟩ hK hP hN hS (c_X9_numberOf l D cA ad hI σ0 τ0 hR 3 a1 41 (σ0 3 4) ⟨by omega, by omega⟩ ⟨by omega, by omega⟩ (by omega)) (cwV 3 hts gX9_isTold_X9_numberOf rfl rfl rfl (by decide +kernel) ⟨by decide, by decide⟩) (rv_Valley hK hP (by decide) (by decide)) rfl hl.1 rfl (Nat.le_of_ble_eq_true rfl) dX9_isTold_10 (Nat.zero_le _) (Nat.zero_le _) (fun r2 u2 H2 locs2 hp2 hP hS => ?_)
  obtain ⟨σ2, τ2⟩ := u2
  obtain ⟨hR, f2, hq2⟩ : P_X9_numberOf σ0 3 a1 41 (σ0 3 4) r2 σ2 := hp2
  have hP : va_P D vwCl (gw cA ad σ2 τ2) H2 := hP
  obtain rfl := Fr.nil f2
  refine r_iconst hx hb dX9_isTold_13 (by decide) (fun z3 ez3 => ?_)
  refine r_icmp_ne (tgt := 34) hx hb dX9_isTold_14 (by decide) (fun c4 => ?_) (fun c4 => ?_)
  · refine r_iconst hx hb dX9_isTold_34 (by decide) (fun z5 ez5 => ?_)
    refine lv_goto (tgt := 39) hx hb dX9_isTold_35 (by decide) ?_
    exact r_zret hx hb hr hK hP hS hk (by omega) dX9_isTold_39 (show P_X9_isTold σ0 a1 z5 σ0 from ⟨hR, hF, by omega⟩)
  · refine lv_aload_n hx hb dX9_isTold_17 rfl (lv_at hl 0 rfl) ?_
    refine lv_lload_n hx hb dX9_isTold_18 rfl (lv_at hl 1 rfl) ?_
    refine lv_aload_n hx hb dX9_isTold_19 rfl (lv_at hl 0 rfl) ?_
    refine fg_9_8 (k := 3) hx hb hts in_X9_isTold_9 hown hK hP (by decide) (by decide) (hts _ lk_X9_isTold_15) dX9_isTold_20 ?_
    refine lv_aload_n hx hb dX9_isTold_23 rfl (lv_at hl 0 rfl) ?_
    refine fg_9_5 (k := 3) hx hb hts in_X9_isTold_9 hown hK hP (by decide) (by decide) (hts _ lk_X9_isTold_52) dX9_isTold_24 ?_
    have hr6 := rg_9_5 hR (k := 3) (by decide) (by decide)
    refine r_cVi (k := 3) (As := [.long a1, .ref (ad 45), .int (σ0 3 5)]) (rest := []) ⟨hx, hb, hml, hown, hts⟩ hK hP hN hS (c_X9_numberOf l D cA ad hI σ0 τ2 hR 3 a1 45 (σ0 3 5) ⟨by omega, by omega⟩ ⟨by omega, by omega⟩ (by omega)) (cwV 3 hts gX9_isTold_X9_numberOf rfl rfl rfl (by decide +kernel) ⟨by decide, by decide⟩) (rv_Valley hK hP (by decide) (by decide)) rfl hl.1 rfl (Nat.le_of_ble_eq_true rfl) dX9_isTold_27 (Nat.zero_le _) (Nat.zero_le _) (fun r7 u7 H7 locs7 hp7 hP hS => ?_)
    obtain ⟨σ7, τ7⟩ := u7
    obtain ⟨hR, f7, hq7⟩ : P_X9_numberOf σ0 3 a1 45 (σ0 3 5) r7 σ7 := hp7
    have hP : va_P D vwCl (gw cA ad σ7 τ7) H7 := hP
    obtain rfl := Fr.nil f7
    refine r_iconst hx hb dX9_isTold_30 (by decide) (fun z8 ez8 => ?_)
    refine r_icmp_eq (tgt := 38) hx hb dX9_isTold_31 (by decide) (fun c9 => ?_) (fun c9 => ?_)
    · refine r_iconst hx hb dX9_isTold_38 (by decide) (fun z10 ez10 => ?_)
      exact r_zret hx hb hr hK hP hS hk (by omega) dX9_isTold_39 (show P_X9_isTold σ0 a1 z10 σ0 from ⟨hR, hF, by omega⟩)
    · refine r_iconst hx hb dX9_isTold_34 (by decide) (fun z11 ez11 => ?_)
      refine lv_goto (tgt := 39) hx hb dX9_isTold_35 (by decide) ?_
      exact r_zret hx hb hr hK hP hS hk (by omega) dX9_isTold_39 (show P_X9_isTold σ0 a1 z11 σ0 from ⟨hR, hF, by omega⟩)
theorem in_X10_isNewName_10 : ∀ w ∈ u_ws RX10 TX10 5, w ∈ wsX10_isNewName := by decide +kernel
theorem in_X10_isNewName_8 : ∀ w ∈ u_ws RX8 TX8 15, w ∈ wsX10_isNewName := by decide +kernel
theorem lk_X10_isNewName_15 : Cond.fieldLink RX10 15 "CuckooShares$ValleyText" "into" "LCuckooShares$Valley;" ∈ wsX10_isNewName := by decide +kernel
theorem lk_X10_isNewName_9 : Cond.fieldLink RX10 9 "CuckooShares$ValleyText" "tape" "LCuckooShares$Tape;" ∈ wsX10_isNewName := by decide +kernel
abbrev L_X10_isNewName : List Rc := [(1, 1, 13, 14)]
def P_X10_isNewName (σ0 : Nat → Nat → Int32)  (r : Int32) (σ : Nat → Nat → Int32) : Prop := Rg σ ∧ Fr L_X10_isNewName σ0 σ ∧ (0 ≤ r.toInt ∧ r.toInt ≤ 1)
set_option maxHeartbeats 4000000 in
theorem c_X10_isNewName (l : Launch) (D : va_G) (cA : Nat → ClassId) (ad : Nat → Nat) (hI : Inj ad) (σ0 : Nat → Nat → Int32) (τ0 : Nat → Nat → Int64) (hR : Rg σ0)   : Met l yX10_isNewName wsX10_isNewName ({ frames := 2, cells := 0, slots := 0, locals := 47 } : Room) (WQc D cA ad [.ref (ad 6)] σ0 τ0) (va_Qi (fun (r : Int32) (u : SS) => P_X10_isNewName σ0 r u.1) (WB D cA ad) (AA ad)) 0 0 (AA ad) := by
  refine Met.ofW (cc := cX10_isNewName) (maxL := 1) (ret := (some .boolean)) (by decide) rfl ?_
  intro p e s m args below meth c s₁ B hml hv
  obtain ⟨rfl, hP, hK, hN⟩ := hv
  have C : Cy p s m _ meth c cX10_isNewName 1 wsX10_isNewName RX10 D cA ad (some .boolean) := ⟨B.exec, B.bytes, hml, findClass_of_methodNamed B.named, atoms_spec (ws := wsX10_isNewName) B.pre, hK, B.notSynchronized, B.returns, hI, hN⟩
  have hl := lv_entry ([.ref (ad 6)]) (n := 1) (Nat.le_of_ble_eq_true rfl)
  rw [lg_entry_eq]
  generalize (lg_sl ([.ref (ad 6)]) ++ List.replicate (1 - (lg_sl ([.ref (ad 6)])).length) Slot.unset).toArray = ls at hl ⊢
  have hl : lv_has ls 1 [(0, .ref (ad 6))] := hl
  have hS : va_S (AA ad) s.heap s.heap [] := va_S.rf
  have hF : Fr L_X10_isNewName σ0 σ0 := Fr.rf
  obtain ⟨hx, hb, _, hown, hts, _, hk, hr, _, _⟩ := C
  refine lv_aload_n hx hb dX10_isNewName_0 rfl (lv_at hl 0 rfl) ?_
  refine fg_10_0 (k := 6) hx hb hts in_X10_isNewName_10 hown hK hP (by decide) (by decide) (hts _ lk_X10_isNewName_9) dX10_isNewName_1 ?_
  refine fgN_8_9 (k := 1) hx hb hts in_X10_isNewName_8 hown hK hP (by decide) (by decide) (hN.use nw_10_34) dX10_isNewName_4 ?_
  refine r_bipush hx hb dX10_isNewName_7 (by decide) (fun z1 ez1 => ?_)
  refine r_icmp_eq (tgt := 21) hx hb dX10_isNewName_9 (by decide) (fun c2 => ?_) (fun c2 => ?_)
  · refine lv_aload_n hx hb dX10_isNewName_21 rfl (lv_at hl 0 rfl) ?_
    refine fg_10_1 (k := 6) hx hb hts in_X10_isNewName_10 hown hK hP (by decide) (by decide) (hts _ lk_X10_isNewName_15) dX10_isNewName_22 ?_
    refine lv_aload_n hx hb dX10_isNewName_25 rfl (lv_at hl 0 rfl) ?_
    refine fg_10_0 (k := 6) hx hb hts in_X10_isNewName_10 hown hK hP (by decide) (by decide) (hts _ lk_X10_isNewName_9) dX10_isNewName_26 ?_
    refine fgN_8_11 (k := 1) hx hb hts in_X10_isNewName_8 hown hK hP (by decide) (by decide) (hN.use nw_10_108) dX10_isNewName_29 ?_
    refine r_cVi (k := 3) (As := [.long (τ0 1 11)]) (rest := []) ⟨hx, hb, hml, hown, hts⟩ hK hP hN hS (c_X9_isTold l D cA ad hI σ0 τ0 hR (τ0 1 11)) (cwV 1 hts gX10_isNewName_X9_isTold rfl rfl rfl (by decide +kernel) ⟨by decide, by decide⟩) (rv_Valley hK hP (by decide) (by decide)) rfl hl.1 rfl (Nat.le_of_ble_eq_true rfl) dX10_isNewName_32 (Nat.zero_le _) (Nat.zero_le _) (fun r3 u3 H3 locs3 hp3 hP hS => ?_)
    obtain ⟨σ3, τ3⟩ := u3
    obtain ⟨hR, f3, hq3⟩ : P_X9_isTold σ0 (τ0 1 11) r3 σ3 := hp3
    have hP : va_P D vwCl (gw cA ad σ3 τ3) H3 := hP
    obtain rfl := Fr.nil f3
    refine r_if_eq (tgt := 49) hx hb dX10_isNewName_35 (by decide) (fun c4 => ?_) (fun c4 => ?_)
    · refine r_iconst hx hb dX10_isNewName_49 (by decide) (fun z5 ez5 => ?_)
      refine lv_goto (tgt := 54) hx hb dX10_isNewName_50 (by decide) ?_
      exact r_zret hx hb hr hK hP hS hk (by omega) dX10_isNewName_54 (show P_X10_isNewName σ0 z5 σ0 from ⟨hR, hF, by omega⟩)
    · refine lv_aload_n hx hb dX10_isNewName_38 rfl (lv_at hl 0 rfl) ?_
      refine fg_10_0 (k := 6) hx hb hts in_X10_isNewName_10 hown hK hP (by decide) (by decide) (hts _ lk_X10_isNewName_9) dX10_isNewName_39 ?_
      refine r_iconst hx hb dX10_isNewName_42 (by decide) (fun z6 ez6 => ?_)
      refine r_cVi (k := 1) (As := [.int z6]) (rest := []) ⟨hx, hb, hml, hown, hts⟩ hK hP hN hS (c_X8_blame l D cA ad hI σ0 τ3 hR z6 (by omega)) (cwV 1 hts gX10_isNewName_X8_blame rfl rfl rfl (by decide +kernel) ⟨by decide, by decide⟩) (rv_Tape hK hP (by decide) (by decide)) rfl hl.1 rfl (Nat.le_of_ble_eq_true rfl) dX10_isNewName_43 (Nat.zero_le _) (Nat.zero_le _) (fun r7 u7 H7 locs7 hp7 hP hS => ?_)
      obtain ⟨σ7, τ7⟩ := u7
      obtain ⟨hR, f7, hq7⟩ : P_X8_blame σ0 z6 r7 σ7 := hp7
      have hP : va_P D vwCl (gw cA ad σ7 τ7) H7 := hP
      have hF := hF.step f7 (by decide)
      refine r_if_eq (tgt := 53) hx hb dX10_isNewName_46 (by decide) (fun c8 => ?_) (fun c8 => ?_)
      · refine r_iconst hx hb dX10_isNewName_53 (by decide) (fun z9 ez9 => ?_)
        exact r_zret hx hb hr hK hP hS hk (by omega) dX10_isNewName_54 (show P_X10_isNewName σ0 z9 σ7 from ⟨hR, hF, by omega⟩)
      · exfalso; omega
  · refine lv_aload_n hx hb dX10_isNewName_12 rfl (lv_at hl 0 rfl) ?_
    refine fg_10_0 (k := 6) hx hb hts in_X10_isNewName_10 hown hK hP (by decide) (by decide) (hts _ lk_X10_isNewName_9) dX10_isNewName_13 ?_
    refine r_iconst hx hb dX10_isNewName_16 (by decide) (fun z10 ez10 => ?_)
    refine r_cVi (k := 1) (As := [.int z10]) (rest := []) ⟨hx, hb, hml, hown, hts⟩ hK hP hN hS (c_X8_blame l D cA ad hI σ0 τ0 hR z10 (by omega)) (cwV 1 hts gX10_isNewName_X8_blame rfl rfl rfl (by decide +kernel) ⟨by decide, by decide⟩) (rv_Tape hK hP (by decide) (by decide)) rfl hl.1 rfl (Nat.le_of_ble_eq_true rfl) dX10_isNewName_17 (Nat.zero_le _) (Nat.zero_le _) (fun r11 u11 H11 locs11 hp11 hP hS => ?_)
    obtain ⟨σ11, τ11⟩ := u11
    obtain ⟨hR, f11, hq11⟩ : P_X8_blame σ0 z10 r11 σ11 := hp11
    have hP : va_P D vwCl (gw cA ad σ11 τ11) H11 := hP
    have hF := hF.step f11 (by decide)
    exact r_zret hx hb hr hK hP hS hk (by omega) dX10_isNewName_20 (show P_X10_isNewName σ0 r11 σ11 from ⟨hR, hF, by omega⟩)
theorem in_X10_readHill_10 : ∀ w ∈ u_ws RX10 TX10 5, w ∈ wsX10_readHill := by decide +kernel
theorem in_X10_readHill_8 : ∀ w ∈ u_ws RX8 TX8 15, w ∈ wsX10_readHill := by decide +kernel
theorem in_X10_readHill_9 : ∀ w ∈ u_ws RX9 TX9 14, w ∈ wsX10_readHill := by decide +kernel
theorem lk_X10_readHill_15 : Cond.fieldLink RX10 15 "CuckooShares$ValleyText" "into" "LCuckooShares$Valley;" ∈ wsX10_readHill := by decide +kernel
theorem lk_X10_readHill_9 : Cond.fieldLink RX10 9 "CuckooShares$ValleyText" "tape" "LCuckooShares$Tape;" ∈ wsX10_readHill := by decide +kernel
abbrev L_X10_readHill : List Rc := [(1, 1, 7, 10), (3, 3, 4, 4), (1, 1, 12, 14), (76, 83, 0, 2)]
def P_X10_readHill (σ0 : Nat → Nat → Int32)  (r : Int32) (σ : Nat → Nat → Int32) : Prop := Rg σ ∧ Fr L_X10_readHill σ0 σ ∧ (0 ≤ r.toInt ∧ r.toInt ≤ 1)
set_option maxHeartbeats 4000000 in
theorem c_X10_readHill (l : Launch) (D : va_G) (cA : Nat → ClassId) (ad : Nat → Nat) (hI : Inj ad) (σ0 : Nat → Nat → Int32) (τ0 : Nat → Nat → Int64) (hR : Rg σ0)   : Met l yX10_readHill wsX10_readHill ({ frames := 3, cells := 0, slots := 0, locals := 67 } : Room) (WQc D cA ad [.ref (ad 6)] σ0 τ0) (va_Qi (fun (r : Int32) (u : SS) => P_X10_readHill σ0 r u.1) (WB D cA ad) (AA ad)) 0 0 (AA ad) := by
  refine Met.ofW (cc := cX10_readHill) (maxL := 2) (ret := (some .boolean)) (by decide) rfl ?_
  intro p e s m args below meth c s₁ B hml hv
  obtain ⟨rfl, hP, hK, hN⟩ := hv
  have C : Cy p s m _ meth c cX10_readHill 2 wsX10_readHill RX10 D cA ad (some .boolean) := ⟨B.exec, B.bytes, hml, findClass_of_methodNamed B.named, atoms_spec (ws := wsX10_readHill) B.pre, hK, B.notSynchronized, B.returns, hI, hN⟩
  have hl := lv_entry ([.ref (ad 6)]) (n := 2) (Nat.le_of_ble_eq_true rfl)
  rw [lg_entry_eq]
  generalize (lg_sl ([.ref (ad 6)]) ++ List.replicate (2 - (lg_sl ([.ref (ad 6)])).length) Slot.unset).toArray = ls at hl ⊢
  have hl : lv_has ls 2 [(0, .ref (ad 6))] := hl
  have hS : va_S (AA ad) s.heap s.heap [] := va_S.rf
  have hF : Fr L_X10_readHill σ0 σ0 := Fr.rf
  obtain ⟨hx, hb, _, hown, hts, _, hk, hr, _, _⟩ := C
  refine lv_aload_n hx hb dX10_readHill_0 rfl (lv_at hl 0 rfl) ?_
  refine fg_10_1 (k := 6) hx hb hts in_X10_readHill_10 hown hK hP (by decide) (by decide) (hts _ lk_X10_readHill_15) dX10_readHill_1 ?_
  refine fgN_9_4 (k := 3) hx hb hts in_X10_readHill_9 hown hK hP (by decide) (by decide) (hN.use nw_10_116) dX10_readHill_4 ?_
  have hr1 := rg_9_4 hR (k := 3) (by decide) (by decide)
  refine lv_istore_n (lv' := [(1, .int (σ0 3 4)), (0, .ref (ad 6))]) hx hb dX10_readHill_7 rfl hl (by decide) rfl (fun ls hl => ?_)
  refine lv_iload_n hx hb dX10_readHill_8 rfl (lv_at hl 0 rfl) ?_
  refine r_bipush hx hb dX10_readHill_9 (by decide) (fun z2 ez2 => ?_)
  refine r_icmp_lt (tgt := 23) hx hb dX10_readHill_11 (by decide) (fun c3 => ?_) (fun c3 => ?_)
  · refine lv_aload_n hx hb dX10_readHill_23 rfl (lv_at hl 1 rfl) ?_
    refine fg_10_0 (k := 6) hx hb hts in_X10_readHill_10 hown hK hP (by decide) (by decide) (hts _ lk_X10_readHill_9) dX10_readHill_24 ?_
    refine r_cVv (k := 1) (As := []) (rest := []) ⟨hx, hb, hml, hown, hts⟩ hK hP hN hS (c_X8_next l D cA ad hI σ0 τ0 hR) (cwV 0 hts gX10_readHill_X8_next rfl rfl rfl (by decide +kernel) ⟨by decide, by decide⟩) (rv_Tape hK hP (by decide) (by decide)) rfl hl.1 rfl (Nat.le_of_ble_eq_true rfl) dX10_readHill_27 (Nat.zero_le _) (Nat.zero_le _) (fun u4 H4 locs4 hp4 hP hS => ?_)
    obtain ⟨σ4, τ4⟩ := u4
    obtain ⟨hR, f4⟩ : P_X8_next σ0 σ4 := hp4
    have hP : va_P D vwCl (gw cA ad σ4 τ4) H4 := hP
    have hF := hF.step f4 (by decide)
    have t5 : (σ4 3 4).toInt = (σ0 3 4).toInt := congrArg Int32.toInt (f4.at 3 4 (by decide))
    refine lv_aload_n hx hb dX10_readHill_30 rfl (lv_at hl 1 rfl) ?_
    refine r_cVi (k := 6) (As := []) (rest := []) ⟨hx, hb, hml, hown, hts⟩ hK hP hN hS (c_X10_isNewName l D cA ad hI σ4 τ4 hR) (cwV 0 hts gX10_readHill_X10_isNewName rfl rfl rfl (by decide +kernel) ⟨by decide, by decide⟩) (rv_VText hK hP (by decide) (by decide)) rfl hl.1 rfl (Nat.le_of_ble_eq_true rfl) dX10_readHill_31 (Nat.zero_le _) (Nat.zero_le _) (fun r6 u6 H6 locs6 hp6 hP hS => ?_)
    obtain ⟨σ6, τ6⟩ := u6
    obtain ⟨hR, f6, hq6⟩ : P_X10_isNewName σ4 r6 σ6 := hp6
    have hP : va_P D vwCl (gw cA ad σ6 τ6) H6 := hP
    have hF := hF.step f6 (by decide)
    have t7 : (σ6 3 4).toInt = (σ4 3 4).toInt := congrArg Int32.toInt (f6.at 3 4 (by decide))
    refine r_if_ne (tgt := 39) hx hb dX10_readHill_34 (by decide) (fun c8 => ?_) (fun c8 => ?_)
    · refine lv_aload_n hx hb dX10_readHill_39 rfl (lv_at hl 1 rfl) ?_
      refine fg_10_1 (k := 6) hx hb hts in_X10_readHill_10 hown hK hP (by decide) (by decide) (hts _ lk_X10_readHill_15) dX10_readHill_40 ?_
      refine fgN_9_7 (k := 3) hx hb hts in_X10_readHill_9 hown hK hP (by decide) (by decide) (hN.use nw_10_122) dX10_readHill_43 ?_
      refine lv_iload_n hx hb dX10_readHill_46 rfl (lv_at hl 0 rfl) ?_
      refine lv_aload_n hx hb dX10_readHill_47 rfl (lv_at hl 1 rfl) ?_
      refine fg_10_0 (k := 6) hx hb hts in_X10_readHill_10 hown hK hP (by decide) (by decide) (hts _ lk_X10_readHill_9) dX10_readHill_48 ?_
      refine fgN_8_11 (k := 1) hx hb hts in_X10_readHill_8 hown hK hP (by decide) (by decide) (hN.use nw_10_108) dX10_readHill_51 ?_
      obtain ⟨j9, ej9⟩ : ∃ j : Nat, (σ0 3 4).toInt = (j : Int) := ⟨_, ti_nat (by omega)⟩
      refine as_vnames (k := 41) (j := j9) hx hb hK hP hI hS (by decide) (by decide) ej9 (by omega) dX10_readHill_54 (fun τ10 H10 locs10 hP hS => ?_)
      refine lv_aload_n hx hb dX10_readHill_55 rfl (lv_at hl 1 rfl) ?_
      refine fg_10_1 (k := 6) hx hb hts in_X10_readHill_10 hown hK hP (by decide) (by decide) (hts _ lk_X10_readHill_15) dX10_readHill_56 ?_
      refine lv_dup hx hb dX10_readHill_59 rfl ?_
      refine fgN_9_4 (k := 3) hx hb hts in_X10_readHill_9 hown hK hP (by decide) (by decide) (hN.use nw_10_116) dX10_readHill_60 ?_
      refine r_iconst hx hb dX10_readHill_63 (by decide) (fun z11 ez11 => ?_)
      refine r_iadd hx hb dX10_readHill_64 (by omega) (fun z12 ez12 => ?_)
      refine fpN_9_4 (k := 3) hx hb hts in_X10_readHill_9 hown hK hP (by decide) (by decide) (hN.use nw_10_116) hI hR hS (by omega) dX10_readHill_65 (fun σ13 H13 locs13 u13 v13 hR hP hS => ?_)
      have hF := hF.puts u13 1 rfl (by decide) (by decide) (by decide) (by decide)
      refine lv_aload_n hx hb dX10_readHill_68 rfl (lv_at hl 1 rfl) ?_
      refine fg_10_0 (k := 6) hx hb hts in_X10_readHill_10 hown hK hP (by decide) (by decide) (hts _ lk_X10_readHill_9) dX10_readHill_69 ?_
      refine r_cVv (k := 1) (As := []) (rest := []) ⟨hx, hb, hml, hown, hts⟩ hK hP hN hS (c_X8_next l D cA ad hI σ13 τ10 hR) (cwV 0 hts gX10_readHill_X8_next rfl rfl rfl (by decide +kernel) ⟨by decide, by decide⟩) (rv_Tape hK hP (by decide) (by decide)) rfl hl.1 rfl (Nat.le_of_ble_eq_true rfl) dX10_readHill_72 (Nat.zero_le _) (Nat.zero_le _) (fun u14 H14 locs14 hp14 hP hS => ?_)
      obtain ⟨σ14, τ14⟩ := u14
      obtain ⟨hR, f14⟩ : P_X8_next σ13 σ14 := hp14
      have hP : va_P D vwCl (gw cA ad σ14 τ14) H14 := hP
      have hF := hF.step f14 (by decide)
      have t15 : (σ14 3 4).toInt = (σ13 3 4).toInt := congrArg Int32.toInt (f14.at 3 4 (by decide))
      refine lv_aload_n hx hb dX10_readHill_75 rfl (lv_at hl 1 rfl) ?_
      refine fg_10_1 (k := 6) hx hb hts in_X10_readHill_10 hown hK hP (by decide) (by decide) (hts _ lk_X10_readHill_15) dX10_readHill_76 ?_
      refine fgN_9_9 (k := 3) hx hb hts in_X10_readHill_9 hown hK hP (by decide) (by decide) (hN.use nw_10_126) dX10_readHill_79 ?_
      refine lv_iload_n hx hb dX10_readHill_82 rfl (lv_at hl 0 rfl) ?_
      refine ad_hillA (k := 49) (j := j9) hx hb hK hP (by decide) (by decide) ej9 (by omega) dX10_readHill_83 ?_
      refine r_iconst hx hb dX10_readHill_84 (by decide) (fun z16 ez16 => ?_)
      refine r_iconst hx hb dX10_readHill_85 (by decide) (fun z17 ez17 => ?_)
      refine as_hillR (k := 76 + j9) (j := 2) hx hb hK hP hI hR hS (by omega) (by omega) (by omega) (by omega) dX10_readHill_86 (fun σ18 H18 locs18 u18 v18 hR hP hS => ?_)
      have hF := hF.puts u18 3 rfl (by omega) (by omega) (by decide) (by decide)
      have t19 : (σ18 3 4).toInt = (σ14 3 4).toInt := congrArg Int32.toInt (u18 3 4 (by omega))
      refine lv_aload_n hx hb dX10_readHill_87 rfl (lv_at hl 1 rfl) ?_
      refine lv_aload_n hx hb dX10_readHill_88 rfl (lv_at hl 1 rfl) ?_
      refine fg_10_1 (k := 6) hx hb hts in_X10_readHill_10 hown hK hP (by decide) (by decide) (hts _ lk_X10_readHill_15) dX10_readHill_89 ?_
      refine fgN_9_9 (k := 3) hx hb hts in_X10_readHill_9 hown hK hP (by decide) (by decide) (hN.use nw_10_126) dX10_readHill_92 ?_
      refine lv_iload_n hx hb dX10_readHill_95 rfl (lv_at hl 0 rfl) ?_
      refine ad_hillA (k := 49) (j := j9) hx hb hK hP (by decide) (by decide) ej9 (by omega) dX10_readHill_96 ?_
      refine r_iconst hx hb dX10_readHill_97 (by decide) (fun z20 ez20 => ?_)
      refine r_iconst hx hb dX10_readHill_98 (by decide) (fun z21 ez21 => ?_)
      refine r_bipush hx hb dX10_readHill_99 (by decide) (fun z22 ez22 => ?_)
      refine r_cVi (k := 6) (As := [.ref (ad (76 + j9)), .int z20, .int z21, .int z22]) (rest := []) ⟨hx, hb, hml, hown, hts⟩ hK hP hN hS (c_X10_readInto_hillR l D cA ad hI σ18 τ14 hR (76 + j9) z20 z21 z22 ⟨by omega, by omega⟩ (by omega) (by omega) (by omega)) (cwV 4 hts gX10_readHill_X10_readInto rfl rfl rfl (by decide +kernel) ⟨by decide, by decide⟩) (rv_VText hK hP (by decide) (by decide)) rfl hl.1 rfl (Nat.le_of_ble_eq_true rfl) dX10_readHill_101 (Nat.zero_le _) (Nat.zero_le _) (fun r23 u23 H23 locs23 hp23 hP hS => ?_)
      obtain ⟨σ23, τ23⟩ := u23
      obtain ⟨hR, f23, hq23⟩ : P_X10_readInto_hillR σ18 (76 + j9) z20 z21 z22 r23 σ23 := hp23
      have hP : va_P D vwCl (gw cA ad σ23 τ23) H23 := hP
      have hF := hF.step f23 (by decide)
      have t24 : (σ23 3 4).toInt = (σ18 3 4).toInt := congrArg Int32.toInt (f23.at 3 4 (by decide))
      refine r_if_eq (tgt := 131) hx hb dX10_readHill_104 (by decide) (fun c25 => ?_) (fun c25 => ?_)
      · refine r_iconst hx hb dX10_readHill_131 (by decide) (fun z26 ez26 => ?_)
        exact r_zret hx hb hr hK hP hS hk (by omega) dX10_readHill_132 (show P_X10_readHill σ0 z26 σ23 from ⟨hR, hF, by omega⟩)
      · refine lv_aload_n hx hb dX10_readHill_107 rfl (lv_at hl 1 rfl) ?_
        refine lv_aload_n hx hb dX10_readHill_108 rfl (lv_at hl 1 rfl) ?_
        refine fg_10_1 (k := 6) hx hb hts in_X10_readHill_10 hown hK hP (by decide) (by decide) (hts _ lk_X10_readHill_15) dX10_readHill_109 ?_
        refine fgN_9_9 (k := 3) hx hb hts in_X10_readHill_9 hown hK hP (by decide) (by decide) (hN.use nw_10_126) dX10_readHill_112 ?_
        refine lv_iload_n hx hb dX10_readHill_115 rfl (lv_at hl 0 rfl) ?_
        refine ad_hillA (k := 49) (j := j9) hx hb hK hP (by decide) (by decide) ej9 (by omega) dX10_readHill_116 ?_
        refine r_iconst hx hb dX10_readHill_117 (by decide) (fun z27 ez27 => ?_)
        refine r_iconst hx hb dX10_readHill_118 (by decide) (fun z28 ez28 => ?_)
        refine r_bipush hx hb dX10_readHill_119 (by decide) (fun z29 ez29 => ?_)
        refine r_cVi (k := 6) (As := [.ref (ad (76 + j9)), .int z27, .int z28, .int z29]) (rest := []) ⟨hx, hb, hml, hown, hts⟩ hK hP hN hS (c_X10_readInto_hillR l D cA ad hI σ23 τ23 hR (76 + j9) z27 z28 z29 ⟨by omega, by omega⟩ (by omega) (by omega) (by omega)) (cwV 4 hts gX10_readHill_X10_readInto rfl rfl rfl (by decide +kernel) ⟨by decide, by decide⟩) (rv_VText hK hP (by decide) (by decide)) rfl hl.1 rfl (Nat.le_of_ble_eq_true rfl) dX10_readHill_121 (Nat.zero_le _) (Nat.zero_le _) (fun r30 u30 H30 locs30 hp30 hP hS => ?_)
        obtain ⟨σ30, τ30⟩ := u30
        obtain ⟨hR, f30, hq30⟩ : P_X10_readInto_hillR σ23 (76 + j9) z27 z28 z29 r30 σ30 := hp30
        have hP : va_P D vwCl (gw cA ad σ30 τ30) H30 := hP
        have hF := hF.step f30 (by decide)
        have t31 : (σ30 3 4).toInt = (σ23 3 4).toInt := congrArg Int32.toInt (f30.at 3 4 (by decide))
        refine r_if_eq (tgt := 131) hx hb dX10_readHill_124 (by decide) (fun c32 => ?_) (fun c32 => ?_)
        · refine r_iconst hx hb dX10_readHill_131 (by decide) (fun z33 ez33 => ?_)
          exact r_zret hx hb hr hK hP hS hk (by omega) dX10_readHill_132 (show P_X10_readHill σ0 z33 σ30 from ⟨hR, hF, by omega⟩)
        · refine r_iconst hx hb dX10_readHill_127 (by decide) (fun z34 ez34 => ?_)
          refine lv_goto (tgt := 132) hx hb dX10_readHill_128 (by decide) ?_
          exact r_zret hx hb hr hK hP hS hk (by omega) dX10_readHill_132 (show P_X10_readHill σ0 z34 σ30 from ⟨hR, hF, by omega⟩)
    · refine r_iconst hx hb dX10_readHill_37 (by decide) (fun z35 ez35 => ?_)
      exact r_zret hx hb hr hK hP hS hk (by omega) dX10_readHill_38 (show P_X10_readHill σ0 z35 σ6 from ⟨hR, hF, by omega⟩)
  · refine lv_aload_n hx hb dX10_readHill_14 rfl (lv_at hl 1 rfl) ?_
    refine fg_10_0 (k := 6) hx hb hts in_X10_readHill_10 hown hK hP (by decide) (by decide) (hts _ lk_X10_readHill_9) dX10_readHill_15 ?_
    refine r_iconst hx hb dX10_readHill_18 (by decide) (fun z36 ez36 => ?_)
    refine r_cVi (k := 1) (As := [.int z36]) (rest := []) ⟨hx, hb, hml, hown, hts⟩ hK hP hN hS (c_X8_blame l D cA ad hI σ0 τ0 hR z36 (by omega)) (cwV 1 hts gX10_readHill_X8_blame rfl rfl rfl (by decide +kernel) ⟨by decide, by decide⟩) (rv_Tape hK hP (by decide) (by decide)) rfl hl.1 rfl (Nat.le_of_ble_eq_true rfl) dX10_readHill_19 (Nat.zero_le _) (Nat.zero_le _) (fun r37 u37 H37 locs37 hp37 hP hS => ?_)
    obtain ⟨σ37, τ37⟩ := u37
    obtain ⟨hR, f37, hq37⟩ : P_X8_blame σ0 z36 r37 σ37 := hp37
    have hP : va_P D vwCl (gw cA ad σ37 τ37) H37 := hP
    have hF := hF.step f37 (by decide)
    have t38 : (σ37 3 4).toInt = (σ0 3 4).toInt := congrArg Int32.toInt (f37.at 3 4 (by decide))
    exact r_zret hx hb hr hK hP hS hk (by omega) dX10_readHill_22 (show P_X10_readHill σ0 r37 σ37 from ⟨hR, hF, by omega⟩)
abbrev L_X10_readInto_manR : List Rc := [(1, 1, 7, 10), (1, 1, 12, 14), (108, 115, 1, 5)]
def P_X10_readInto_manR (σ0 : Nat → Nat → Int32) (k1 : Nat) (a2 : Int32) (a3 : Int32) (a4 : Int32) (r : Int32) (σ : Nat → Nat → Int32) : Prop := Rg σ ∧ Fr L_X10_readInto_manR σ0 σ ∧ (0 ≤ r.toInt ∧ r.toInt ≤ 1)
set_option maxHeartbeats 4000000 in
theorem c_X10_readInto_manR (l : Launch) (D : va_G) (cA : Nat → ClassId) (ad : Nat → Nat) (hI : Inj ad) (σ0 : Nat → Nat → Int32) (τ0 : Nat → Nat → Int64) (hR : Rg σ0) (k1 : Nat) (a2 : Int32) (a3 : Int32) (a4 : Int32) (hk1 : 108 ≤ k1 ∧ k1 ≤ 115) (ha2 : 1 ≤ a2.toInt ∧ a2.toInt ≤ 5) (ha3 : 0 ≤ a3.toInt ∧ a3.toInt ≤ 0) (ha4 : 9 ≤ a4.toInt ∧ a4.toInt ≤ 999) : Met l yX10_readInto wsX10_readInto ({ frames := 2, cells := 0, slots := 0, locals := 43 } : Room) (WQc D cA ad [.ref (ad 6), .ref (ad k1), .int a2, .int a3, .int a4] σ0 τ0) (va_Qi (fun (r : Int32) (u : SS) => P_X10_readInto_manR σ0 k1 a2 a3 a4 r u.1) (WB D cA ad) (AA ad)) 0 0 (AA ad) := by
  refine Met.ofW (cc := cX10_readInto) (maxL := 5) (ret := (some .boolean)) (by decide) rfl ?_
  intro p e s m args below meth c s₁ B hml hv
  obtain ⟨rfl, hP, hK, hN⟩ := hv
  have C : Cy p s m _ meth c cX10_readInto 5 wsX10_readInto RX10 D cA ad (some .boolean) := ⟨B.exec, B.bytes, hml, findClass_of_methodNamed B.named, atoms_spec (ws := wsX10_readInto) B.pre, hK, B.notSynchronized, B.returns, hI, hN⟩
  have hl := lv_entry ([.ref (ad 6), .ref (ad k1), .int a2, .int a3, .int a4]) (n := 5) (Nat.le_of_ble_eq_true rfl)
  rw [lg_entry_eq]
  generalize (lg_sl ([.ref (ad 6), .ref (ad k1), .int a2, .int a3, .int a4]) ++ List.replicate (5 - (lg_sl ([.ref (ad 6), .ref (ad k1), .int a2, .int a3, .int a4])).length) Slot.unset).toArray = ls at hl ⊢
  have hl : lv_has ls 5 [(0, .ref (ad 6)), (1, .ref (ad k1)), (2, .int a2), (3, .int a3), (4, .int a4)] := hl
  have hS : va_S (AA ad) s.heap s.heap [] := va_S.rf
  have hF : Fr L_X10_readInto_manR σ0 σ0 := Fr.rf
  obtain ⟨hx, hb, _, hown, hts, _, hk, hr, _, _⟩ := C
  refine lv_iload_n hx hb dX10_readInto_0 rfl (lv_at hl 2 rfl) ?_
  refine r_if_lt (tgt := 23) hx hb dX10_readInto_1 (by decide) (fun c1 => ?_) (fun c1 => ?_)
  · exfalso; omega
  · refine lv_iload_n hx hb dX10_readInto_4 rfl (lv_at hl 2 rfl) ?_
    refine lv_aload_n hx hb dX10_readInto_5 rfl (lv_at hl 1 rfl) ?_
    refine al_manR (k := k1) hx hb hK hP (by omega) (by omega) dX10_readInto_6 (fun z2 ez2 => ?_)
    refine r_icmp_ge (tgt := 23) hx hb dX10_readInto_7 (by decide) (fun c3 => ?_) (fun c3 => ?_)
    · exfalso; omega
    · refine lv_aload_n hx hb dX10_readInto_10 rfl (lv_at hl 0 rfl) ?_
      refine fg_10_0 (k := 6) hx hb hts in_X10_readInto_10 hown hK hP (by decide) (by decide) (hts _ lk_X10_readInto_9) dX10_readInto_11 ?_
      refine lv_iload_n hx hb dX10_readInto_14 rfl (lv_at hl 3 rfl) ?_
      refine lv_iload hx hb dX10_readInto_15 (lv_at hl 4 rfl) ?_
      refine r_cVi (k := 1) (As := [.int a3, .int a4]) (rest := []) ⟨hx, hb, hml, hown, hts⟩ hK hP hN hS (c_X8_takeNumber l D cA ad hI σ0 τ0 hR a3 a4 (by omega)) (cwV 2 hts gX10_readInto_X8_takeNumber rfl rfl rfl (by decide +kernel) ⟨by decide, by decide⟩) (rv_Tape hK hP (by decide) (by decide)) rfl hl.1 rfl (Nat.le_of_ble_eq_true rfl) dX10_readInto_17 (Nat.zero_le _) (Nat.zero_le _) (fun r4 u4 H4 locs4 hp4 hP hS => ?_)
      obtain ⟨σ4, τ4⟩ := u4
      obtain ⟨hR, f4, hq4⟩ : P_X8_takeNumber σ0 a3 a4 r4 σ4 := hp4
      have hP : va_P D vwCl (gw cA ad σ4 τ4) H4 := hP
      have hF := hF.step f4 (by decide)
      refine r_if_ne (tgt := 25) hx hb dX10_readInto_20 (by decide) (fun c5 => ?_) (fun c5 => ?_)
      · refine lv_aload_n hx hb dX10_readInto_25 rfl (lv_at hl 1 rfl) ?_
        refine lv_iload_n hx hb dX10_readInto_26 rfl (lv_at hl 2 rfl) ?_
        refine lv_aload_n hx hb dX10_readInto_27 rfl (lv_at hl 0 rfl) ?_
        refine fg_10_0 (k := 6) hx hb hts in_X10_readInto_10 hown hK hP (by decide) (by decide) (hts _ lk_X10_readInto_9) dX10_readInto_28 ?_
        refine fgN_8_12 (k := 1) hx hb hts in_X10_readInto_8 hown hK hP (by decide) (by decide) (hN.use nw_10_93) dX10_readInto_31 ?_
        obtain ⟨j6, ej6⟩ : ∃ j : Nat, a2.toInt = (j : Int) := ⟨_, ti_nat (by omega)⟩
        refine as_manR (k := k1) (j := j6) hx hb hK hP hI hR hS (by omega) (by omega) ej6 (by omega) dX10_readInto_34 (fun σ7 H7 locs7 u7 v7 hR hP hS => ?_)
        have hF := hF.puts u7 2 rfl (by omega) (by omega) (by omega) (by omega)
        refine r_iconst hx hb dX10_readInto_35 (by decide) (fun z8 ez8 => ?_)
        exact r_zret hx hb hr hK hP hS hk (by omega) dX10_readInto_36 (show P_X10_readInto_manR σ0 k1 a2 a3 a4 z8 σ7 from ⟨hR, hF, by omega⟩)
      · refine r_iconst hx hb dX10_readInto_23 (by decide) (fun z9 ez9 => ?_)
        exact r_zret hx hb hr hK hP hS hk (by omega) dX10_readInto_24 (show P_X10_readInto_manR σ0 k1 a2 a3 a4 z9 σ4 from ⟨hR, hF, by omega⟩)
theorem in_X10_readMan_10 : ∀ w ∈ u_ws RX10 TX10 5, w ∈ wsX10_readMan := by decide +kernel
theorem in_X10_readMan_8 : ∀ w ∈ u_ws RX8 TX8 15, w ∈ wsX10_readMan := by decide +kernel
theorem in_X10_readMan_9 : ∀ w ∈ u_ws RX9 TX9 14, w ∈ wsX10_readMan := by decide +kernel
theorem lk_X10_readMan_15 : Cond.fieldLink RX10 15 "CuckooShares$ValleyText" "into" "LCuckooShares$Valley;" ∈ wsX10_readMan := by decide +kernel
theorem lk_X10_readMan_9 : Cond.fieldLink RX10 9 "CuckooShares$ValleyText" "tape" "LCuckooShares$Tape;" ∈ wsX10_readMan := by decide +kernel
abbrev L_X10_readMan : List Rc := [(1, 1, 7, 10), (3, 3, 5, 5), (1, 1, 12, 14), (108, 115, 0, 5)]
def P_X10_readMan (σ0 : Nat → Nat → Int32)  (r : Int32) (σ : Nat → Nat → Int32) : Prop := Rg σ ∧ Fr L_X10_readMan σ0 σ ∧ (0 ≤ r.toInt ∧ r.toInt ≤ 1)
set_option maxHeartbeats 4000000 in
theorem c_X10_readMan (l : Launch) (D : va_G) (cA : Nat → ClassId) (ad : Nat → Nat) (hI : Inj ad) (σ0 : Nat → Nat → Int32) (τ0 : Nat → Nat → Int64) (hR : Rg σ0)   : Met l yX10_readMan wsX10_readMan ({ frames := 3, cells := 0, slots := 0, locals := 67 } : Room) (WQc D cA ad [.ref (ad 6)] σ0 τ0) (va_Qi (fun (r : Int32) (u : SS) => P_X10_readMan σ0 r u.1) (WB D cA ad) (AA ad)) 0 0 (AA ad) := by
  refine Met.ofW (cc := cX10_readMan) (maxL := 3) (ret := (some .boolean)) (by decide) rfl ?_
  intro p e s m args below meth c s₁ B hml hv
  obtain ⟨rfl, hP, hK, hN⟩ := hv
  have C : Cy p s m _ meth c cX10_readMan 3 wsX10_readMan RX10 D cA ad (some .boolean) := ⟨B.exec, B.bytes, hml, findClass_of_methodNamed B.named, atoms_spec (ws := wsX10_readMan) B.pre, hK, B.notSynchronized, B.returns, hI, hN⟩
  have hl := lv_entry ([.ref (ad 6)]) (n := 3) (Nat.le_of_ble_eq_true rfl)
  rw [lg_entry_eq]
  generalize (lg_sl ([.ref (ad 6)]) ++ List.replicate (3 - (lg_sl ([.ref (ad 6)])).length) Slot.unset).toArray = ls at hl ⊢
  have hl : lv_has ls 3 [(0, .ref (ad 6))] := hl
  have hS : va_S (AA ad) s.heap s.heap [] := va_S.rf
  have hF : Fr L_X10_readMan σ0 σ0 := Fr.rf
  obtain ⟨hx, hb, _, hown, hts, _, hk, hr, _, _⟩ := C
  refine lv_aload_n hx hb dX10_readMan_0 rfl (lv_at hl 0 rfl) ?_
  refine fg_10_1 (k := 6) hx hb hts in_X10_readMan_10 hown hK hP (by decide) (by decide) (hts _ lk_X10_readMan_15) dX10_readMan_1 ?_
  refine fgN_9_5 (k := 3) hx hb hts in_X10_readMan_9 hown hK hP (by decide) (by decide) (hN.use nw_10_138) dX10_readMan_4 ?_
  have hr1 := rg_9_5 hR (k := 3) (by decide) (by decide)
  refine lv_istore_n (lv' := [(1, .int (σ0 3 5)), (0, .ref (ad 6))]) hx hb dX10_readMan_7 rfl hl (by decide) rfl (fun ls hl => ?_)
  refine lv_iload_n hx hb dX10_readMan_8 rfl (lv_at hl 0 rfl) ?_
  refine r_bipush hx hb dX10_readMan_9 (by decide) (fun z2 ez2 => ?_)
  refine r_icmp_lt (tgt := 23) hx hb dX10_readMan_11 (by decide) (fun c3 => ?_) (fun c3 => ?_)
  · refine lv_aload_n hx hb dX10_readMan_23 rfl (lv_at hl 1 rfl) ?_
    refine fg_10_0 (k := 6) hx hb hts in_X10_readMan_10 hown hK hP (by decide) (by decide) (hts _ lk_X10_readMan_9) dX10_readMan_24 ?_
    refine r_cVv (k := 1) (As := []) (rest := []) ⟨hx, hb, hml, hown, hts⟩ hK hP hN hS (c_X8_next l D cA ad hI σ0 τ0 hR) (cwV 0 hts gX10_readMan_X8_next rfl rfl rfl (by decide +kernel) ⟨by decide, by decide⟩) (rv_Tape hK hP (by decide) (by decide)) rfl hl.1 rfl (Nat.le_of_ble_eq_true rfl) dX10_readMan_27 (Nat.zero_le _) (Nat.zero_le _) (fun u4 H4 locs4 hp4 hP hS => ?_)
    obtain ⟨σ4, τ4⟩ := u4
    obtain ⟨hR, f4⟩ : P_X8_next σ0 σ4 := hp4
    have hP : va_P D vwCl (gw cA ad σ4 τ4) H4 := hP
    have hF := hF.step f4 (by decide)
    have t5 : (σ4 3 5).toInt = (σ0 3 5).toInt := congrArg Int32.toInt (f4.at 3 5 (by decide))
    refine lv_aload_n hx hb dX10_readMan_30 rfl (lv_at hl 1 rfl) ?_
    refine r_cVi (k := 6) (As := []) (rest := []) ⟨hx, hb, hml, hown, hts⟩ hK hP hN hS (c_X10_isNewName l D cA ad hI σ4 τ4 hR) (cwV 0 hts gX10_readMan_X10_isNewName rfl rfl rfl (by decide +kernel) ⟨by decide, by decide⟩) (rv_VText hK hP (by decide) (by decide)) rfl hl.1 rfl (Nat.le_of_ble_eq_true rfl) dX10_readMan_31 (Nat.zero_le _) (Nat.zero_le _) (fun r6 u6 H6 locs6 hp6 hP hS => ?_)
    obtain ⟨σ6, τ6⟩ := u6
    obtain ⟨hR, f6, hq6⟩ : P_X10_isNewName σ4 r6 σ6 := hp6
    have hP : va_P D vwCl (gw cA ad σ6 τ6) H6 := hP
    have hF := hF.step f6 (by decide)
    have t7 : (σ6 3 5).toInt = (σ4 3 5).toInt := congrArg Int32.toInt (f6.at 3 5 (by decide))
    refine r_if_ne (tgt := 39) hx hb dX10_readMan_34 (by decide) (fun c8 => ?_) (fun c8 => ?_)
    · refine lv_aload_n hx hb dX10_readMan_39 rfl (lv_at hl 1 rfl) ?_
      refine fg_10_1 (k := 6) hx hb hts in_X10_readMan_10 hown hK hP (by decide) (by decide) (hts _ lk_X10_readMan_15) dX10_readMan_40 ?_
      refine fgN_9_8 (k := 3) hx hb hts in_X10_readMan_9 hown hK hP (by decide) (by decide) (hN.use nw_10_141) dX10_readMan_43 ?_
      refine lv_iload_n hx hb dX10_readMan_46 rfl (lv_at hl 0 rfl) ?_
      refine lv_aload_n hx hb dX10_readMan_47 rfl (lv_at hl 1 rfl) ?_
      refine fg_10_0 (k := 6) hx hb hts in_X10_readMan_10 hown hK hP (by decide) (by decide) (hts _ lk_X10_readMan_9) dX10_readMan_48 ?_
      refine fgN_8_11 (k := 1) hx hb hts in_X10_readMan_8 hown hK hP (by decide) (by decide) (hN.use nw_10_108) dX10_readMan_51 ?_
      obtain ⟨j9, ej9⟩ : ∃ j : Nat, (σ0 3 5).toInt = (j : Int) := ⟨_, ti_nat (by omega)⟩
      refine as_vnames (k := 45) (j := j9) hx hb hK hP hI hS (by decide) (by decide) ej9 (by omega) dX10_readMan_54 (fun τ10 H10 locs10 hP hS => ?_)
      refine lv_aload_n hx hb dX10_readMan_55 rfl (lv_at hl 1 rfl) ?_
      refine fg_10_1 (k := 6) hx hb hts in_X10_readMan_10 hown hK hP (by decide) (by decide) (hts _ lk_X10_readMan_15) dX10_readMan_56 ?_
      refine lv_dup hx hb dX10_readMan_59 rfl ?_
      refine fgN_9_5 (k := 3) hx hb hts in_X10_readMan_9 hown hK hP (by decide) (by decide) (hN.use nw_10_138) dX10_readMan_60 ?_
      refine r_iconst hx hb dX10_readMan_63 (by decide) (fun z11 ez11 => ?_)
      refine r_iadd hx hb dX10_readMan_64 (by omega) (fun z12 ez12 => ?_)
      refine fpN_9_5 (k := 3) hx hb hts in_X10_readMan_9 hown hK hP (by decide) (by decide) (hN.use nw_10_138) hI hR hS (by omega) dX10_readMan_65 (fun σ13 H13 locs13 u13 v13 hR hP hS => ?_)
      have hF := hF.puts u13 1 rfl (by decide) (by decide) (by decide) (by decide)
      refine lv_aload_n hx hb dX10_readMan_68 rfl (lv_at hl 1 rfl) ?_
      refine fg_10_0 (k := 6) hx hb hts in_X10_readMan_10 hown hK hP (by decide) (by decide) (hts _ lk_X10_readMan_9) dX10_readMan_69 ?_
      refine r_cVv (k := 1) (As := []) (rest := []) ⟨hx, hb, hml, hown, hts⟩ hK hP hN hS (c_X8_next l D cA ad hI σ13 τ10 hR) (cwV 0 hts gX10_readMan_X8_next rfl rfl rfl (by decide +kernel) ⟨by decide, by decide⟩) (rv_Tape hK hP (by decide) (by decide)) rfl hl.1 rfl (Nat.le_of_ble_eq_true rfl) dX10_readMan_72 (Nat.zero_le _) (Nat.zero_le _) (fun u14 H14 locs14 hp14 hP hS => ?_)
      obtain ⟨σ14, τ14⟩ := u14
      obtain ⟨hR, f14⟩ : P_X8_next σ13 σ14 := hp14
      have hP : va_P D vwCl (gw cA ad σ14 τ14) H14 := hP
      have hF := hF.step f14 (by decide)
      have t15 : (σ14 3 5).toInt = (σ13 3 5).toInt := congrArg Int32.toInt (f14.at 3 5 (by decide))
      refine lv_aload_n hx hb dX10_readMan_75 rfl (lv_at hl 1 rfl) ?_
      refine fg_10_1 (k := 6) hx hb hts in_X10_readMan_10 hown hK hP (by decide) (by decide) (hts _ lk_X10_readMan_15) dX10_readMan_76 ?_
      refine fgN_9_10 (k := 3) hx hb hts in_X10_readMan_9 hown hK hP (by decide) (by decide) (hN.use nw_10_144) dX10_readMan_79 ?_
      refine lv_iload_n hx hb dX10_readMan_82 rfl (lv_at hl 0 rfl) ?_
      refine ad_manA (k := 53) (j := j9) hx hb hK hP (by decide) (by decide) ej9 (by omega) dX10_readMan_83 ?_
      refine lv_astore_n (lv' := [(2, .ref (ad (108 + j9))), (1, .int (σ0 3 5)), (0, .ref (ad 6))]) hx hb dX10_readMan_84 rfl hl (by decide) rfl (fun ls hl => ?_)
      refine lv_aload_n hx hb dX10_readMan_85 rfl (lv_at hl 0 rfl) ?_
      refine r_iconst hx hb dX10_readMan_86 (by decide) (fun z16 ez16 => ?_)
      refine r_iconst hx hb dX10_readMan_87 (by decide) (fun z17 ez17 => ?_)
      refine as_manR (k := 108 + j9) (j := 3) hx hb hK hP hI hR hS (by omega) (by omega) (by omega) (by omega) dX10_readMan_88 (fun σ18 H18 locs18 u18 v18 hR hP hS => ?_)
      have hF := hF.puts u18 3 rfl (by omega) (by omega) (by decide) (by decide)
      have t19 : (σ18 3 5).toInt = (σ14 3 5).toInt := congrArg Int32.toInt (u18 3 5 (by omega))
      refine lv_aload_n hx hb dX10_readMan_89 rfl (lv_at hl 0 rfl) ?_
      refine r_iconst hx hb dX10_readMan_90 (by decide) (fun z20 ez20 => ?_)
      refine r_iconst hx hb dX10_readMan_91 (by decide) (fun z21 ez21 => ?_)
      refine as_manR (k := 108 + j9) (j := 4) hx hb hK hP hI hR hS (by omega) (by omega) (by omega) (by omega) dX10_readMan_92 (fun σ22 H22 locs22 u22 v22 hR hP hS => ?_)
      have hF := hF.puts u22 3 rfl (by omega) (by omega) (by decide) (by decide)
      have t23 : (σ22 3 5).toInt = (σ18 3 5).toInt := congrArg Int32.toInt (u22 3 5 (by omega))
      refine lv_aload_n hx hb dX10_readMan_93 rfl (lv_at hl 0 rfl) ?_
      refine r_iconst hx hb dX10_readMan_94 (by decide) (fun z24 ez24 => ?_)
      refine r_iconst hx hb dX10_readMan_95 (by decide) (fun z25 ez25 => ?_)
      refine as_manR (k := 108 + j9) (j := 5) hx hb hK hP hI hR hS (by omega) (by omega) (by omega) (by omega) dX10_readMan_96 (fun σ26 H26 locs26 u26 v26 hR hP hS => ?_)
      have hF := hF.puts u26 3 rfl (by omega) (by omega) (by decide) (by decide)
      have t27 : (σ26 3 5).toInt = (σ22 3 5).toInt := congrArg Int32.toInt (u26 3 5 (by omega))
      refine lv_aload_n hx hb dX10_readMan_97 rfl (lv_at hl 0 rfl) ?_
      refine r_iconst hx hb dX10_readMan_98 (by decide) (fun z28 ez28 => ?_)
      refine lv_aload_n hx hb dX10_readMan_99 rfl (lv_at hl 2 rfl) ?_
      refine fg_10_0 (k := 6) hx hb hts in_X10_readMan_10 hown hK hP (by decide) (by decide) (hts _ lk_X10_readMan_9) dX10_readMan_100 ?_
      refine lv_aload_n hx hb dX10_readMan_103 rfl (lv_at hl 2 rfl) ?_
      refine fg_10_1 (k := 6) hx hb hts in_X10_readMan_10 hown hK hP (by decide) (by decide) (hts _ lk_X10_readMan_15) dX10_readMan_104 ?_
      refine r_cVi (k := 1) (As := [.ref (ad 3)]) (rest := [.int z28, .ref (ad (108 + j9))]) ⟨hx, hb, hml, hown, hts⟩ hK hP hN hS (c_X8_hillHere l D cA ad hI σ26 τ14 hR 3 ⟨by omega, by omega⟩) (cwV 1 hts gX10_readMan_X8_hillHere rfl rfl rfl (by decide +kernel) ⟨by decide, by decide⟩) (rv_Tape hK hP (by decide) (by decide)) rfl hl.1 rfl (Nat.le_of_ble_eq_true rfl) dX10_readMan_107 (Nat.zero_le _) (Nat.zero_le _) (fun r29 u29 H29 locs29 hp29 hP hS => ?_)
      obtain ⟨σ29, τ29⟩ := u29
      obtain ⟨hR, f29, hq29⟩ : P_X8_hillHere σ26 3 r29 σ29 := hp29
      have hP : va_P D vwCl (gw cA ad σ29 τ29) H29 := hP
      have hF := hF.step f29 (by decide)
      have t30 : (σ29 3 5).toInt = (σ26 3 5).toInt := congrArg Int32.toInt (f29.at 3 5 (by decide))
      refine as_manR (k := 108 + j9) (j := 0) hx hb hK hP hI hR hS (by omega) (by omega) (by omega) (by omega) dX10_readMan_110 (fun σ31 H31 locs31 u31 v31 hR hP hS => ?_)
      have hF := hF.puts u31 3 rfl (by omega) (by omega) (by decide) (by decide)
      have t32 : (σ31 3 5).toInt = (σ29 3 5).toInt := congrArg Int32.toInt (u31 3 5 (by omega))
      refine lv_aload_n hx hb dX10_readMan_111 rfl (lv_at hl 0 rfl) ?_
      refine r_iconst hx hb dX10_readMan_112 (by decide) (fun z33 ez33 => ?_)
      refine ad_manR (k := 108 + j9) (j := 0) hx hb hK hP (by omega) (by omega) (by omega) (by omega) dX10_readMan_113 ?_
      refine r_iconst hx hb dX10_readMan_114 (by decide) (fun z34 ez34 => ?_)
      refine r_icmp_ne (tgt := 120) hx hb dX10_readMan_115 (by decide) (fun c35 => ?_) (fun c35 => ?_)
      · refine lv_aload_n hx hb dX10_readMan_120 rfl (lv_at hl 2 rfl) ?_
        refine fg_10_0 (k := 6) hx hb hts in_X10_readMan_10 hown hK hP (by decide) (by decide) (hts _ lk_X10_readMan_9) dX10_readMan_121 ?_
        refine r_cVv (k := 1) (As := []) (rest := []) ⟨hx, hb, hml, hown, hts⟩ hK hP hN hS (c_X8_next l D cA ad hI σ31 τ29 hR) (cwV 0 hts gX10_readMan_X8_next rfl rfl rfl (by decide +kernel) ⟨by decide, by decide⟩) (rv_Tape hK hP (by decide) (by decide)) rfl hl.1 rfl (Nat.le_of_ble_eq_true rfl) dX10_readMan_124 (Nat.zero_le _) (Nat.zero_le _) (fun u36 H36 locs36 hp36 hP hS => ?_)
        obtain ⟨σ36, τ36⟩ := u36
        obtain ⟨hR, f36⟩ : P_X8_next σ31 σ36 := hp36
        have hP : va_P D vwCl (gw cA ad σ36 τ36) H36 := hP
        have hF := hF.step f36 (by decide)
        have t37 : (σ36 3 5).toInt = (σ31 3 5).toInt := congrArg Int32.toInt (f36.at 3 5 (by decide))
        refine lv_aload_n hx hb dX10_readMan_127 rfl (lv_at hl 2 rfl) ?_
        refine lv_aload_n hx hb dX10_readMan_128 rfl (lv_at hl 0 rfl) ?_
        refine r_iconst hx hb dX10_readMan_129 (by decide) (fun z38 ez38 => ?_)
        refine r_iconst hx hb dX10_readMan_130 (by decide) (fun z39 ez39 => ?_)
        refine r_bipush hx hb dX10_readMan_131 (by decide) (fun z40 ez40 => ?_)
        refine r_cVi (k := 6) (As := [.ref (ad (108 + j9)), .int z38, .int z39, .int z40]) (rest := []) ⟨hx, hb, hml, hown, hts⟩ hK hP hN hS (c_X10_readInto_manR l D cA ad hI σ36 τ36 hR (108 + j9) z38 z39 z40 ⟨by omega, by omega⟩ (by omega) (by omega) (by omega)) (cwV 4 hts gX10_readMan_X10_readInto rfl rfl rfl (by decide +kernel) ⟨by decide, by decide⟩) (rv_VText hK hP (by decide) (by decide)) rfl hl.1 rfl (Nat.le_of_ble_eq_true rfl) dX10_readMan_133 (Nat.zero_le _) (Nat.zero_le _) (fun r41 u41 H41 locs41 hp41 hP hS => ?_)
        obtain ⟨σ41, τ41⟩ := u41
        obtain ⟨hR, f41, hq41⟩ : P_X10_readInto_manR σ36 (108 + j9) z38 z39 z40 r41 σ41 := hp41
        have hP : va_P D vwCl (gw cA ad σ41 τ41) H41 := hP
        have hF := hF.step f41 (by decide)
        have t42 : (σ41 3 5).toInt = (σ36 3 5).toInt := congrArg Int32.toInt (f41.at 3 5 (by decide))
        refine r_if_eq (tgt := 155) hx hb dX10_readMan_136 (by decide) (fun c43 => ?_) (fun c43 => ?_)
        · refine r_iconst hx hb dX10_readMan_155 (by decide) (fun z44 ez44 => ?_)
          exact r_zret hx hb hr hK hP hS hk (by omega) dX10_readMan_156 (show P_X10_readMan σ0 z44 σ41 from ⟨hR, hF, by omega⟩)
        · refine lv_aload_n hx hb dX10_readMan_139 rfl (lv_at hl 2 rfl) ?_
          refine lv_aload_n hx hb dX10_readMan_140 rfl (lv_at hl 0 rfl) ?_
          refine r_iconst hx hb dX10_readMan_141 (by decide) (fun z45 ez45 => ?_)
          refine r_iconst hx hb dX10_readMan_142 (by decide) (fun z46 ez46 => ?_)
          refine r_bipush hx hb dX10_readMan_143 (by decide) (fun z47 ez47 => ?_)
          refine r_cVi (k := 6) (As := [.ref (ad (108 + j9)), .int z45, .int z46, .int z47]) (rest := []) ⟨hx, hb, hml, hown, hts⟩ hK hP hN hS (c_X10_readInto_manR l D cA ad hI σ41 τ41 hR (108 + j9) z45 z46 z47 ⟨by omega, by omega⟩ (by omega) (by omega) (by omega)) (cwV 4 hts gX10_readMan_X10_readInto rfl rfl rfl (by decide +kernel) ⟨by decide, by decide⟩) (rv_VText hK hP (by decide) (by decide)) rfl hl.1 rfl (Nat.le_of_ble_eq_true rfl) dX10_readMan_145 (Nat.zero_le _) (Nat.zero_le _) (fun r48 u48 H48 locs48 hp48 hP hS => ?_)
          obtain ⟨σ48, τ48⟩ := u48
          obtain ⟨hR, f48, hq48⟩ : P_X10_readInto_manR σ41 (108 + j9) z45 z46 z47 r48 σ48 := hp48
          have hP : va_P D vwCl (gw cA ad σ48 τ48) H48 := hP
          have hF := hF.step f48 (by decide)
          have t49 : (σ48 3 5).toInt = (σ41 3 5).toInt := congrArg Int32.toInt (f48.at 3 5 (by decide))
          refine r_if_eq (tgt := 155) hx hb dX10_readMan_148 (by decide) (fun c50 => ?_) (fun c50 => ?_)
          · refine r_iconst hx hb dX10_readMan_155 (by decide) (fun z51 ez51 => ?_)
            exact r_zret hx hb hr hK hP hS hk (by omega) dX10_readMan_156 (show P_X10_readMan σ0 z51 σ48 from ⟨hR, hF, by omega⟩)
          · refine r_iconst hx hb dX10_readMan_151 (by decide) (fun z52 ez52 => ?_)
            refine lv_goto (tgt := 156) hx hb dX10_readMan_152 (by decide) ?_
            exact r_zret hx hb hr hK hP hS hk (by omega) dX10_readMan_156 (show P_X10_readMan σ0 z52 σ48 from ⟨hR, hF, by omega⟩)
      · refine r_iconst hx hb dX10_readMan_118 (by decide) (fun z53 ez53 => ?_)
        exact r_zret hx hb hr hK hP hS hk (by omega) dX10_readMan_119 (show P_X10_readMan σ0 z53 σ31 from ⟨hR, hF, by omega⟩)
    · refine r_iconst hx hb dX10_readMan_37 (by decide) (fun z54 ez54 => ?_)
      exact r_zret hx hb hr hK hP hS hk (by omega) dX10_readMan_38 (show P_X10_readMan σ0 z54 σ6 from ⟨hR, hF, by omega⟩)
  · refine lv_aload_n hx hb dX10_readMan_14 rfl (lv_at hl 1 rfl) ?_
    refine fg_10_0 (k := 6) hx hb hts in_X10_readMan_10 hown hK hP (by decide) (by decide) (hts _ lk_X10_readMan_9) dX10_readMan_15 ?_
    refine r_iconst hx hb dX10_readMan_18 (by decide) (fun z55 ez55 => ?_)
    refine r_cVi (k := 1) (As := [.int z55]) (rest := []) ⟨hx, hb, hml, hown, hts⟩ hK hP hN hS (c_X8_blame l D cA ad hI σ0 τ0 hR z55 (by omega)) (cwV 1 hts gX10_readMan_X8_blame rfl rfl rfl (by decide +kernel) ⟨by decide, by decide⟩) (rv_Tape hK hP (by decide) (by decide)) rfl hl.1 rfl (Nat.le_of_ble_eq_true rfl) dX10_readMan_19 (Nat.zero_le _) (Nat.zero_le _) (fun r56 u56 H56 locs56 hp56 hP hS => ?_)
    obtain ⟨σ56, τ56⟩ := u56
    obtain ⟨hR, f56, hq56⟩ : P_X8_blame σ0 z55 r56 σ56 := hp56
    have hP : va_P D vwCl (gw cA ad σ56 τ56) H56 := hP
    have hF := hF.step f56 (by decide)
    have t57 : (σ56 3 5).toInt = (σ0 3 5).toInt := congrArg Int32.toInt (f56.at 3 5 (by decide))
    exact r_zret hx hb hr hK hP hS hk (by omega) dX10_readMan_22 (show P_X10_readMan σ0 r56 σ56 from ⟨hR, hF, by omega⟩)
