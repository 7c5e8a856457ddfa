theorem in_X0_drawYears_0 : ∀ w ∈ u_ws RX0 TX0 3, w ∈ wsX0_drawYears := by decide +kernel
theorem in_X0_drawYears_2 : ∀ w ∈ u_ws RX2 TX2 7, w ∈ wsX0_drawYears := by decide +kernel
theorem lk_X0_drawYears_110 : Cond.fieldLink RX0 110 "CuckooShares$Acts" "seed" "I" ∈ wsX0_drawYears := by decide +kernel
abbrev L_X0_drawYears : List Rc := [(22, 22, 2, 2), (308, 310, 0, 7), (360, 360, 0, 7), (361, 361, 0, 7), (362, 362, 0, 7), (363, 363, 0, 39), (365, 365, 0, 1), (366, 366, 0, 1), (367, 367, 0, 1), (7, 9, 0, 2), (347, 349, 0, 7), (334, 336, 0, 7)]
def P_X0_drawYears (σ0 : Nat → Nat → Int32) (k1 : Nat) (a2 : Int32) (a3 : Int32) (r : Int32) (σ : Nat → Nat → Int32) : Prop := Rg σ ∧ Fr L_X0_drawYears σ0 σ ∧ (0 ≤ r.toInt ∧ r.toInt ≤ 40)
def J_X0_drawYears_8 (p : Program) (l : Launch) (e : Env) (s : State) (m : MethodId) (args : Array Value) (below : List Frame) (meth : Method) (c : Code) (D : va_G) (cA : Nat → ClassId) (ad : Nat → Nat) (σ0 : Nat → Nat → Int32) (k1 : Nat) (a2 : Int32) (a3 : Int32) (n : Nat) : Prop := ∀ (σ : Nat → Nat → Int32) (τ : Nat → Nat → Int64) (H : Heap) (locs : List Loc) (x4 : Int32) (ls : Array Slot), Rg σ → Fr L_X0_drawYears σ0 σ → va_P D vwCl (gw cA ad σ τ) H → va_S (AA ad) s.heap H locs → (0 ≤ x4.toInt ∧ x4.toInt ≤ 40) → lv_has ls 5 [(0, .ref (ad 22)), (1, .ref (ad k1)), (2, .int a2), (3, .int a3), (4, .int x4)] → 2 * (40 - x4.toInt) + 1 < (n : Int) → W p l e ({ frames := 6, cells := 0, slots := 0, locals := 139 } : Room) s m args below meth c H locs 0 0 (MQ below (va_Qi (fun (r : Int32) (u : SS) => P_X0_drawYears σ0 k1 a2 a3 r u.1) (WB D cA ad) (AA ad)) args s 0 0 (AA ad)) (F0 m 8 ls [])
set_option maxHeartbeats 4000000 in
theorem B_X0_drawYears_8 (p : Program) (l : Launch) (e : Env) (s : State) (m : MethodId) (args : Array Value) (below : List Frame) (meth : Method) (c : Code) (D : va_G) (cA : Nat → ClassId) (ad : Nat → Nat) (σ0 : Nat → Nat → Int32) (k1 : Nat) (a2 : Int32) (a3 : Int32) (n : Nat) (C : Cy p s m args meth c cX0_drawYears 5 wsX0_drawYears RX0 D cA ad (some .int)) (hk1 : 7 ≤ k1 ∧ k1 ≤ 9) (ha2 : 1 ≤ a2.toInt ∧ a2.toInt ≤ 40) (K8 : J_X0_drawYears_8 p l e s m args below meth c D cA ad σ0 k1 a2 a3 n) : J_X0_drawYears_8 p l e s m args below meth c D cA ad σ0 k1 a2 a3 (n + 1) := by
  obtain ⟨hx, hb, hml, hown, hts, hK, hk, hr, hI, hN⟩ := C
  intro σ τ H locs x4 ls hR hF hP hS hc0 hl hm
  refine lv_iload hx hb dX0_drawYears_8 (lv_at hl 4 rfl) ?_
  refine lv_iload_n hx hb dX0_drawYears_10 rfl (lv_at hl 2 rfl) ?_
  refine r_icmp_ge (tgt := 34) hx hb dX0_drawYears_11 (by decide) (fun c1 => ?_) (fun c1 => ?_)
  · refine lv_iload hx hb dX0_drawYears_34 (lv_at hl 4 rfl) ?_
    exact r_iret hx hb hr hK hP hS hk dX0_drawYears_36 (show P_X0_drawYears σ0 k1 a2 a3 x4 σ from ⟨hR, hF, by omega⟩)
  · refine lv_aload_n hx hb dX0_drawYears_14 rfl (lv_at hl 1 rfl) ?_
    refine fgN_2_0 (k := k1) hx hb hts in_X0_drawYears_2 hown hK hP (by omega) (by omega) (hN.use nw_0_88) dX0_drawYears_15 ?_
    refine r_bipush hx hb dX0_drawYears_18 (by decide) (fun z2 ez2 => ?_)
    refine r_icmp_ge (tgt := 34) hx hb dX0_drawYears_20 (by decide) (fun c3 => ?_) (fun c3 => ?_)
    · refine lv_iload hx hb dX0_drawYears_34 (lv_at hl 4 rfl) ?_
      exact r_iret hx hb hr hK hP hS hk dX0_drawYears_36 (show P_X0_drawYears σ0 k1 a2 a3 x4 σ from ⟨hR, hF, by omega⟩)
    · refine lv_aload_n hx hb dX0_drawYears_23 rfl (lv_at hl 0 rfl) ?_
      refine lv_aload_n hx hb dX0_drawYears_24 rfl (lv_at hl 1 rfl) ?_
      refine r_cVv (k := 22) (As := [.ref (ad k1)]) (rest := []) ⟨hx, hb, hml, hown, hts⟩ hK hP hN hS (c_X0_drawYear l D cA ad hI σ τ hR k1 ⟨by omega, by omega⟩) (cwV 1 hts gX0_drawYears_X0_drawYear rfl rfl rfl (by decide +kernel) ⟨by decide, by decide⟩) (rv_Acts hK hP (by decide) (by decide)) rfl hl.1 rfl (Nat.le_of_ble_eq_true rfl) dX0_drawYears_25 (Nat.zero_le _) (Nat.zero_le _) (fun u4 H4 locs4 hp4 hP hS => ?_)
      obtain ⟨σ4, τ4⟩ := u4
      obtain ⟨hR, f4⟩ : P_X0_drawYear σ k1 σ4 := hp4
      have hP : va_P D vwCl (gw cA ad σ4 τ4) H4 := hP
      have hF := hF.step f4 (by decide)
      refine r_iinc (k := 4) (lv1 := fun z5 => [(4, .int z5), (0, .ref (ad 22)), (1, .ref (ad k1)), (2, .int a2), (3, .int a3)]) hx hb dX0_drawYears_28 hl rfl (by decide) (fun _ => rfl) (by decide) (by omega) (fun z5 ls ez5 hl => ?_)
      refine lv_goto (tgt := 8) hx hb dX0_drawYears_31 (by decide) ?_
      exact K8 σ4 τ4 H4 locs4 z5 ls hR hF hP hS (by omega) (lv_sub hl [1, 2, 3, 4, 0] rfl) (by omega)
theorem A_X0_drawYears (p : Program) (l : Launch) (e : Env) (s : State) (m : MethodId) (args : Array Value) (below : List Frame) (meth : Method) (c : Code) (D : va_G) (cA : Nat → ClassId) (ad : Nat → Nat) (σ0 : Nat → Nat → Int32) (k1 : Nat) (a2 : Int32) (a3 : Int32) (C : Cy p s m args meth c cX0_drawYears 5 wsX0_drawYears RX0 D cA ad (some .int)) (hk1 : 7 ≤ k1 ∧ k1 ≤ 9) (ha2 : 1 ≤ a2.toInt ∧ a2.toInt ≤ 40) : ∀ n : Nat, J_X0_drawYears_8 p l e s m args below meth c D cA ad σ0 k1 a2 a3 n := by
  intro n
  induction n with
  | zero =>
    exact (by intro σ τ H locs x4 ls hR hF hP hS hc0 hl hm; exfalso; omega)
  | succ n ih =>
    exact B_X0_drawYears_8 p l e s m args below meth c D cA ad σ0 k1 a2 a3 n C hk1 ha2 ih
set_option maxHeartbeats 4000000 in
theorem c_X0_drawYears (l : Launch) (D : va_G) (cA : Nat → ClassId) (ad : Nat → Nat) (hI : Inj ad) (σ0 : Nat → Nat → Int32) (τ0 : Nat → Nat → Int64) (hR : Rg σ0) (k1 : Nat) (a2 : Int32) (a3 : Int32) (hk1 : 7 ≤ k1 ∧ k1 ≤ 9) (ha2 : 1 ≤ a2.toInt ∧ a2.toInt ≤ 40) : Met l yX0_drawYears wsX0_drawYears ({ frames := 6, cells := 0, slots := 0, locals := 139 } : Room) (WQc D cA ad [.ref (ad 22), .ref (ad k1), .int a2, .int a3] σ0 τ0) (va_Qi (fun (r : Int32) (u : SS) => P_X0_drawYears σ0 k1 a2 a3 r u.1) (WB D cA ad) (AA ad)) 0 0 (AA ad) := by
  refine Met.ofW (cc := cX0_drawYears) (maxL := 5) (ret := (some .int)) (by decide) rfl ?_
  intro p e s m args below meth c s₁ B hml hv
  obtain ⟨rfl, hP, hK, hN⟩ := hv
  have C : Cy p s m _ meth c cX0_drawYears 5 wsX0_drawYears RX0 D cA ad (some .int) := ⟨B.exec, B.bytes, hml, findClass_of_methodNamed B.named, atoms_spec (ws := wsX0_drawYears) B.pre, hK, B.notSynchronized, B.returns, hI, hN⟩
  have hl := lv_entry ([.ref (ad 22), .ref (ad k1), .int a2, .int a3]) (n := 5) (Nat.le_of_ble_eq_true rfl)
  rw [lg_entry_eq]
  generalize (lg_sl ([.ref (ad 22), .ref (ad k1), .int a2, .int a3]) ++ List.replicate (5 - (lg_sl ([.ref (ad 22), .ref (ad k1), .int a2, .int a3])).length) Slot.unset).toArray = ls at hl ⊢
  have hl : lv_has ls 5 [(0, .ref (ad 22)), (1, .ref (ad k1)), (2, .int a2), (3, .int a3)] := hl
  have hS : va_S (AA ad) s.heap s.heap [] := va_S.rf
  have hF : Fr L_X0_drawYears σ0 σ0 := Fr.rf
  have hA := A_X0_drawYears p l e s m _ below meth c D cA ad σ0 k1 a2 a3 C hk1 ha2 170
  have K8 := hA
  clear hA
  obtain ⟨hx, hb, _, hown, hts, _, hk, hr, _, _⟩ := C
  refine lv_aload_n hx hb dX0_drawYears_0 rfl (lv_at hl 0 rfl) ?_
  refine lv_iload_n hx hb dX0_drawYears_1 rfl (lv_at hl 3 rfl) ?_
  refine fp_0_2 (k := 22) hx hb hts in_X0_drawYears_0 hown hK hP (by decide) (by decide) (hts _ lk_X0_drawYears_110) hI hR hS dX0_drawYears_2 (fun σ1 H1 locs1 u1 v1 hR hP hS => ?_)
  have hF := hF.puts u1 0 rfl (by decide) (by decide) (by decide) (by decide)
  refine r_iconst hx hb dX0_drawYears_5 (by decide) (fun z2 ez2 => ?_)
  refine lv_istore (lv' := [(4, .int z2), (0, .ref (ad 22)), (1, .ref (ad k1)), (2, .int a2), (3, .int a3)]) hx hb dX0_drawYears_6 hl (by decide) rfl (fun ls hl => ?_)
  exact K8 σ1 τ0 H1 locs1 z2 ls hR hF hP hS (by omega) (lv_sub hl [1, 2, 3, 4, 0] rfl) (by omega)
abbrev L_X5_above : List Rc := []
def P_X5_above (σ0 : Nat → Nat → Int32) (a0 : Int32) (a1 : Int32) (r : Int32) (σ : Nat → Nat → Int32) : Prop := Rg σ ∧ Fr L_X5_above σ0 σ ∧ (0 ≤ r.toInt ∧ r.toInt ≤ 44)
set_option maxHeartbeats 4000000 in
theorem c_X5_above (l : Launch) (D : va_G) (cA : Nat → ClassId) (ad : Nat → Nat) (hI : Inj ad) (σ0 : Nat → Nat → Int32) (τ0 : Nat → Nat → Int64) (hR : Rg σ0) (a0 : Int32) (a1 : Int32) (ha0 : 10 ≤ a0.toInt ∧ a0.toInt ≤ 40) (ha1 : 0 ≤ a1.toInt ∧ a1.toInt ≤ 4) : Met l yX5_above wsX5_above ({ frames := 0, cells := 0, slots := 0, locals := 0 } : Room) (WQc D cA ad [.int a0, .int a1] σ0 τ0) (va_Qi (fun (r : Int32) (u : SS) => P_X5_above σ0 a0 a1 r u.1) (WB D cA ad) (AA ad)) 0 0 (AA ad) := by
  refine Met.ofW (cc := cX5_above) (maxL := 2) (ret := (some .int)) (by decide) rfl ?_
  intro p e s m args below meth c s₁ B hml hv
  obtain ⟨rfl, hP, hK, hN⟩ := hv
  have C : Cy p s m _ meth c cX5_above 2 wsX5_above RX5 D cA ad (some .int) := ⟨B.exec, B.bytes, hml, findClass_of_methodNamed B.named, atoms_spec (ws := wsX5_above) B.pre, hK, B.notSynchronized, B.returns, hI, hN⟩
  have hl := lv_entry ([.int a0, .int a1]) (n := 2) (Nat.le_of_ble_eq_true rfl)
  rw [lg_entry_eq]
  generalize (lg_sl ([.int a0, .int a1]) ++ List.replicate (2 - (lg_sl ([.int a0, .int a1])).length) Slot.unset).toArray = ls at hl ⊢
  have hl : lv_has ls 2 [(0, .int a0), (1, .int a1)] := hl
  have hS : va_S (AA ad) s.heap s.heap [] := va_S.rf
  have hF : Fr L_X5_above σ0 σ0 := Fr.rf
  obtain ⟨hx, hb, _, hown, hts, _, hk, hr, _, _⟩ := C
  refine lv_iload_n hx hb dX5_above_0 rfl (lv_at hl 1 rfl) ?_
  refine r_if_ne (tgt := 8) hx hb dX5_above_1 (by decide) (fun c1 => ?_) (fun c1 => ?_)
  · refine lv_iload_n hx hb dX5_above_8 rfl (lv_at hl 0 rfl) ?_
    refine lv_iload_n hx hb dX5_above_9 rfl (lv_at hl 1 rfl) ?_
    refine r_iadd hx hb dX5_above_10 (by omega) (fun z2 ez2 => ?_)
    exact r_iret hx hb hr hK hP hS hk dX5_above_11 (show P_X5_above σ0 a0 a1 z2 σ0 from ⟨hR, hF, by omega⟩)
  · refine r_iconst hx hb dX5_above_4 (by decide) (fun z3 ez3 => ?_)
    refine lv_goto (tgt := 11) hx hb dX5_above_5 (by decide) ?_
    exact r_iret hx hb hr hK hP hS hk dX5_above_11 (show P_X5_above σ0 a0 a1 z3 σ0 from ⟨hR, hF, by omega⟩)
theorem in_X5_whyWrong_5 : ∀ w ∈ u_ws RX5 TX5 8, w ∈ wsX5_whyWrong := by decide +kernel
theorem lk_X5_whyWrong_25 : Cond.fieldLink RX5 25 "CuckooShares$Roll" "valley" "LCuckooShares$Valley;" ∈ wsX5_whyWrong := by decide +kernel
theorem lk_X5_whyWrong_29 : Cond.fieldLink RX5 29 "CuckooShares$Roll" "acts" "LCuckooShares$Acts;" ∈ wsX5_whyWrong := by decide +kernel
abbrev L_X5_whyWrong : List Rc := [(308, 310, 0, 7), (334, 336, 0, 7), (321, 323, 0, 7), (360, 360, 0, 7), (361, 361, 0, 7), (362, 362, 0, 7), (365, 365, 0, 1), (366, 366, 0, 1), (367, 367, 0, 1), (7, 9, 0, 2), (347, 349, 0, 7)]
def P_X5_whyWrong (σ0 : Nat → Nat → Int32) (a2 : Int32) (a3 : Int32) (a4 : Int32) (r : Int32) (σ : Nat → Nat → Int32) : Prop := Rg σ ∧ Fr L_X5_whyWrong σ0 σ ∧ (0 ≤ r.toInt ∧ r.toInt ≤ 44)
set_option maxHeartbeats 4000000 in
theorem c_X5_whyWrong (l : Launch) (D : va_G) (cA : Nat → ClassId) (ad : Nat → Nat) (hI : Inj ad) (σ0 : Nat → Nat → Int32) (τ0 : Nat → Nat → Int64) (hR : Rg σ0) (a2 : Int32) (a3 : Int32) (a4 : Int32) (hq0 : a2.toInt < 16 ∨ 18 < a2.toInt ∨ (0 ≤ a3.toInt ∧ a3.toInt ≤ 7)) (hq1 : a2.toInt ≠ 18 ∨ (0 ≤ a4.toInt ∧ a4.toInt ≤ 7)) : Met l yX5_whyWrong wsX5_whyWrong ({ frames := 5, cells := 0, slots := 0, locals := 119 } : Room) (WQc D cA ad [.ref (ad 28), .ref (ad 9), .int a2, .int a3, .int a4] σ0 τ0) (va_Qi (fun (r : Int32) (u : SS) => P_X5_whyWrong σ0 a2 a3 a4 r u.1) (WB D cA ad) (AA ad)) 0 0 (AA ad) := by
  refine Met.ofW (cc := cX5_whyWrong) (maxL := 5) (ret := (some .int)) (by decide) rfl ?_
  intro p e s m args below meth c s₁ B hml hv
  obtain ⟨rfl, hP, hK, hN⟩ := hv
  have C : Cy p s m _ meth c cX5_whyWrong 5 wsX5_whyWrong RX5 D cA ad (some .int) := ⟨B.exec, B.bytes, hml, findClass_of_methodNamed B.named, atoms_spec (ws := wsX5_whyWrong) B.pre, hK, B.notSynchronized, B.returns, hI, hN⟩
  have hl := lv_entry ([.ref (ad 28), .ref (ad 9), .int a2, .int a3, .int a4]) (n := 5) (Nat.le_of_ble_eq_true rfl)
  rw [lg_entry_eq]
  generalize (lg_sl ([.ref (ad 28), .ref (ad 9), .int a2, .int a3, .int a4]) ++ List.replicate (5 - (lg_sl ([.ref (ad 28), .ref (ad 9), .int a2, .int a3, .int a4])).length) Slot.unset).toArray = ls at hl ⊢
  have hl : lv_has ls 5 [(0, .ref (ad 28)), (1, .ref (ad 9)), (2, .int a2), (3, .int a3), (4, .int a4)] := hl
  have hS : va_S (AA ad) s.heap s.heap [] := va_S.rf
  have hF : Fr L_X5_whyWrong σ0 σ0 := Fr.rf
  obtain ⟨hx, hb, _, hown, hts, _, hk, hr, _, _⟩ := C
  refine lv_iload_n hx hb dX5_whyWrong_0 rfl (lv_at hl 2 rfl) ?_
  by_cases c1 : a2.toInt = 14
  · refine lv_tableIn (off := 35) (tgt := 36) hx hb dX5_whyWrong_1 (by omega) (by omega) (by rw [c1]; rfl) (by decide) ?_
    refine lv_aload_n hx hb dX5_whyWrong_36 rfl (lv_at hl 0 rfl) ?_
    refine fg_5_1 (k := 28) hx hb hts in_X5_whyWrong_5 hown hK hP (by decide) (by decide) (hts _ lk_X5_whyWrong_25) dX5_whyWrong_37 ?_
    refine lv_iload hx hb dX5_whyWrong_40 (lv_at hl 4 rfl) ?_
    refine r_cVi (k := 2) (As := [.int a4]) (rest := []) ⟨hx, hb, hml, hown, hts⟩ hK hP hN hS (c_X9_hasFlight l D cA ad hI σ0 τ0 hR 2 a4 ⟨by omega, by omega⟩) (cwV 1 hts gX5_whyWrong_X9_hasFlight rfl rfl rfl (by decide +kernel) ⟨by decide, by decide⟩) (rv_Valley hK hP (by decide) (by decide)) rfl hl.1 rfl (Nat.le_of_ble_eq_true rfl) dX5_whyWrong_42 (Nat.zero_le _) (Nat.zero_le _) (fun r2 u2 H2 locs2 hp2 hP hS => ?_)
    obtain ⟨σ2, τ2⟩ := u2
    obtain ⟨hR, f2, hq2, hp2_0⟩ : P_X9_hasFlight σ0 2 a4 r2 σ2 := hp2
    have hP : va_P D vwCl (gw cA ad σ2 τ2) H2 := hP
    obtain rfl := Fr.nil f2
    refine r_if_eq (tgt := 61) hx hb dX5_whyWrong_45 (by decide) (fun c3 => ?_) (fun c3 => ?_)
    · refine r_bipush hx hb dX5_whyWrong_61 (by decide) (fun z4 ez4 => ?_)
      exact r_iret hx hb hr hK hP hS hk dX5_whyWrong_63 (show P_X5_whyWrong σ0 a2 a3 a4 z4 σ0 from ⟨hR, hF, by omega⟩)
    · refine lv_aload_n hx hb dX5_whyWrong_48 rfl (lv_at hl 0 rfl) ?_
      refine fg_5_2 (k := 28) hx hb hts in_X5_whyWrong_5 hown hK hP (by decide) (by decide) (hts _ lk_X5_whyWrong_29) dX5_whyWrong_49 ?_
      refine lv_aload_n hx hb dX5_whyWrong_52 rfl (lv_at hl 1 rfl) ?_
      refine lv_iload hx hb dX5_whyWrong_53 (lv_at hl 4 rfl) ?_
      refine r_cVi (k := 22) (As := [.ref (ad 9), .int a4]) (rest := []) ⟨hx, hb, hml, hown, hts⟩ hK hP hN hS (c_X0_arrive l D cA ad hI σ0 τ2 hR 9 a4 ⟨by omega, by omega⟩ (by omega)) (cwV 2 hts gX5_whyWrong_X0_arrive rfl rfl rfl (by decide +kernel) ⟨by decide, by decide⟩) (rv_Acts hK hP (by decide) (by decide)) rfl hl.1 rfl (Nat.le_of_ble_eq_true rfl) dX5_whyWrong_55 (Nat.zero_le _) (Nat.zero_le _) (fun r5 u5 H5 locs5 hp5 hP hS => ?_)
      obtain ⟨σ5, τ5⟩ := u5
      obtain ⟨hR, f5, hq5⟩ : P_X0_arrive σ0 9 a4 r5 σ5 := hp5
      have hP : va_P D vwCl (gw cA ad σ5 τ5) H5 := hP
      have hF := hF.step f5 (by decide)
      refine lv_goto (tgt := 63) hx hb dX5_whyWrong_58 (by decide) ?_
      exact r_iret hx hb hr hK hP hS hk dX5_whyWrong_63 (show P_X5_whyWrong σ0 a2 a3 a4 r5 σ5 from ⟨hR, hF, by omega⟩)
  by_cases c6 : a2.toInt = 15
  · refine lv_tableIn (off := 63) (tgt := 64) hx hb dX5_whyWrong_1 (by omega) (by omega) (by rw [c6]; rfl) (by decide) ?_
    refine lv_aload_n hx hb dX5_whyWrong_64 rfl (lv_at hl 0 rfl) ?_
    refine fg_5_2 (k := 28) hx hb hts in_X5_whyWrong_5 hown hK hP (by decide) (by decide) (hts _ lk_X5_whyWrong_29) dX5_whyWrong_65 ?_
    refine lv_aload_n hx hb dX5_whyWrong_68 rfl (lv_at hl 1 rfl) ?_
    refine lv_iload hx hb dX5_whyWrong_69 (lv_at hl 4 rfl) ?_
    refine r_cVv (k := 22) (As := [.ref (ad 9), .int a4]) (rest := []) ⟨hx, hb, hml, hown, hts⟩ hK hP hN hS (c_X0_passHours l D cA ad hI σ0 τ0 hR 9 a4 ⟨by omega, by omega⟩) (cwV 2 hts gX5_whyWrong_X0_passHours rfl rfl rfl (by decide +kernel) ⟨by decide, by decide⟩) (rv_Acts hK hP (by decide) (by decide)) rfl hl.1 rfl (Nat.le_of_ble_eq_true rfl) dX5_whyWrong_71 (Nat.zero_le _) (Nat.zero_le _) (fun u7 H7 locs7 hp7 hP hS => ?_)
    obtain ⟨σ7, τ7⟩ := u7
    obtain ⟨hR, f7⟩ : P_X0_passHours σ0 9 a4 σ7 := hp7
    have hP : va_P D vwCl (gw cA ad σ7 τ7) H7 := hP
    have hF := hF.step f7 (by decide)
    refine r_iconst hx hb dX5_whyWrong_74 (by decide) (fun z8 ez8 => ?_)
    exact r_iret hx hb hr hK hP hS hk dX5_whyWrong_75 (show P_X5_whyWrong σ0 a2 a3 a4 z8 σ7 from ⟨hR, hF, by omega⟩)
  by_cases c9 : a2.toInt = 16
  · refine lv_tableIn (off := 75) (tgt := 76) hx hb dX5_whyWrong_1 (by omega) (by omega) (by rw [c9]; rfl) (by decide) ?_
    refine r_bipush hx hb dX5_whyWrong_76 (by decide) (fun z10 ez10 => ?_)
    refine lv_aload_n hx hb dX5_whyWrong_78 rfl (lv_at hl 0 rfl) ?_
    refine fg_5_2 (k := 28) hx hb hts in_X5_whyWrong_5 hown hK hP (by decide) (by decide) (hts _ lk_X5_whyWrong_29) dX5_whyWrong_79 ?_
    refine lv_aload_n hx hb dX5_whyWrong_82 rfl (lv_at hl 1 rfl) ?_
    refine lv_iload_n hx hb dX5_whyWrong_83 rfl (lv_at hl 3 rfl) ?_
    refine lv_iload hx hb dX5_whyWrong_84 (lv_at hl 4 rfl) ?_
    refine r_cVi (k := 22) (As := [.ref (ad 9), .int a3, .int a4]) (rest := [.int z10]) ⟨hx, hb, hml, hown, hts⟩ hK hP hN hS (c_X0_walk l D cA ad hI σ0 τ0 hR 9 a3 a4 ⟨by omega, by omega⟩ (by omega)) (cwV 3 hts gX5_whyWrong_X0_walk rfl rfl rfl (by decide +kernel) ⟨by decide, by decide⟩) (rv_Acts hK hP (by decide) (by decide)) rfl hl.1 rfl (Nat.le_of_ble_eq_true rfl) dX5_whyWrong_86 (Nat.zero_le _) (Nat.zero_le _) (fun r11 u11 H11 locs11 hp11 hP hS => ?_)
    obtain ⟨σ11, τ11⟩ := u11
    obtain ⟨hR, f11, hq11⟩ : P_X0_walk σ0 9 a3 a4 r11 σ11 := hp11
    have hP : va_P D vwCl (gw cA ad σ11 τ11) H11 := hP
    have hF := hF.step f11 (by decide)
    refine r_cSi (As := [.int z10, .int r11]) (rest := []) ⟨hx, hb, hml, hown, hts⟩ hK hP hN hS (c_X5_above l D cA ad hI σ11 τ11 hR z10 r11 (by omega) (by omega)) (va_cwS 2 hts gX5_whyWrong_X5_above rfl rfl rfl (by decide +kernel) ⟨by decide, by decide⟩) rfl hl.1 rfl (Nat.le_of_ble_eq_true rfl) dX5_whyWrong_89 (Nat.zero_le _) (Nat.zero_le _) (fun r12 u12 H12 locs12 hp12 hP hS => ?_)
    obtain ⟨σ12, τ12⟩ := u12
    obtain ⟨hR, f12, hq12⟩ : P_X5_above σ11 z10 r11 r12 σ12 := hp12
    have hP : va_P D vwCl (gw cA ad σ12 τ12) H12 := hP
    obtain rfl := Fr.nil f12
    exact r_iret hx hb hr hK hP hS hk dX5_whyWrong_92 (show P_X5_whyWrong σ0 a2 a3 a4 r12 σ11 from ⟨hR, hF, by omega⟩)
  by_cases c13 : a2.toInt = 17
  · refine lv_tableIn (off := 92) (tgt := 93) hx hb dX5_whyWrong_1 (by omega) (by omega) (by rw [c13]; rfl) (by decide) ?_
    refine r_bipush hx hb dX5_whyWrong_93 (by decide) (fun z14 ez14 => ?_)
    refine lv_aload_n hx hb dX5_whyWrong_95 rfl (lv_at hl 0 rfl) ?_
    refine fg_5_2 (k := 28) hx hb hts in_X5_whyWrong_5 hown hK hP (by decide) (by decide) (hts _ lk_X5_whyWrong_29) dX5_whyWrong_96 ?_
    refine lv_aload_n hx hb dX5_whyWrong_99 rfl (lv_at hl 1 rfl) ?_
    refine lv_iload_n hx hb dX5_whyWrong_100 rfl (lv_at hl 3 rfl) ?_
    refine lv_iload hx hb dX5_whyWrong_101 (lv_at hl 4 rfl) ?_
    refine r_cVi (k := 22) (As := [.ref (ad 9), .int a3, .int a4]) (rest := [.int z14]) ⟨hx, hb, hml, hown, hts⟩ hK hP hN hS (c_X0_takeOath l D cA ad hI σ0 τ0 hR 9 a3 a4 ⟨by omega, by omega⟩ (by omega)) (cwV 3 hts gX5_whyWrong_X0_takeOath rfl rfl rfl (by decide +kernel) ⟨by decide, by decide⟩) (rv_Acts hK hP (by decide) (by decide)) rfl hl.1 rfl (Nat.le_of_ble_eq_true rfl) dX5_whyWrong_103 (Nat.zero_le _) (Nat.zero_le _) (fun r15 u15 H15 locs15 hp15 hP hS => ?_)
    obtain ⟨σ15, τ15⟩ := u15
    obtain ⟨hR, f15, hq15⟩ : P_X0_takeOath σ0 9 a3 a4 r15 σ15 := hp15
    have hP : va_P D vwCl (gw cA ad σ15 τ15) H15 := hP
    have hF := hF.step f15 (by decide)
    refine r_cSi (As := [.int z14, .int r15]) (rest := []) ⟨hx, hb, hml, hown, hts⟩ hK hP hN hS (c_X5_above l D cA ad hI σ15 τ15 hR z14 r15 (by omega) (by omega)) (va_cwS 2 hts gX5_whyWrong_X5_above rfl rfl rfl (by decide +kernel) ⟨by decide, by decide⟩) rfl hl.1 rfl (Nat.le_of_ble_eq_true rfl) dX5_whyWrong_106 (Nat.zero_le _) (Nat.zero_le _) (fun r16 u16 H16 locs16 hp16 hP hS => ?_)
    obtain ⟨σ16, τ16⟩ := u16
    obtain ⟨hR, f16, hq16⟩ : P_X5_above σ15 z14 r15 r16 σ16 := hp16
    have hP : va_P D vwCl (gw cA ad σ16 τ16) H16 := hP
    obtain rfl := Fr.nil f16
    exact r_iret hx hb hr hK hP hS hk dX5_whyWrong_109 (show P_X5_whyWrong σ0 a2 a3 a4 r16 σ15 from ⟨hR, hF, by omega⟩)
  by_cases c17 : a2.toInt = 18
  · refine lv_tableIn (off := 109) (tgt := 110) hx hb dX5_whyWrong_1 (by omega) (by omega) (by rw [c17]; rfl) (by decide) ?_
    refine lv_iload_n hx hb dX5_whyWrong_110 rfl (lv_at hl 3 rfl) ?_
    refine lv_iload hx hb dX5_whyWrong_111 (lv_at hl 4 rfl) ?_
    refine r_icmp_ne (tgt := 121) hx hb dX5_whyWrong_113 (by decide) (fun c18 => ?_) (fun c18 => ?_)
    · refine r_bipush hx hb dX5_whyWrong_121 (by decide) (fun z19 ez19 => ?_)
      refine lv_aload_n hx hb dX5_whyWrong_123 rfl (lv_at hl 0 rfl) ?_
      refine fg_5_2 (k := 28) hx hb hts in_X5_whyWrong_5 hown hK hP (by decide) (by decide) (hts _ lk_X5_whyWrong_29) dX5_whyWrong_124 ?_
      refine lv_aload_n hx hb dX5_whyWrong_127 rfl (lv_at hl 1 rfl) ?_
      refine lv_iload_n hx hb dX5_whyWrong_128 rfl (lv_at hl 3 rfl) ?_
      refine lv_iload hx hb dX5_whyWrong_129 (lv_at hl 4 rfl) ?_
      refine r_cVi (k := 22) (As := [.ref (ad 9), .int a3, .int a4]) (rest := [.int z19]) ⟨hx, hb, hml, hown, hts⟩ hK hP hN hS (c_X0_callOath l D cA ad hI σ0 τ0 hR 9 a3 a4 ⟨by omega, by omega⟩ (by omega) (by omega)) (cwV 3 hts gX5_whyWrong_X0_callOath rfl rfl rfl (by decide +kernel) ⟨by decide, by decide⟩) (rv_Acts hK hP (by decide) (by decide)) rfl hl.1 rfl (Nat.le_of_ble_eq_true rfl) dX5_whyWrong_131 (Nat.zero_le _) (Nat.zero_le _) (fun r20 u20 H20 locs20 hp20 hP hS => ?_)
      obtain ⟨σ20, τ20⟩ := u20
      obtain ⟨hR, f20, hq20⟩ : P_X0_callOath σ0 9 a3 a4 r20 σ20 := hp20
      have hP : va_P D vwCl (gw cA ad σ20 τ20) H20 := hP
      have hF := hF.step f20 (by decide)
      refine r_cSi (As := [.int z19, .int r20]) (rest := []) ⟨hx, hb, hml, hown, hts⟩ hK hP hN hS (c_X5_above l D cA ad hI σ20 τ20 hR z19 r20 (by omega) (by omega)) (va_cwS 2 hts gX5_whyWrong_X5_above rfl rfl rfl (by decide +kernel) ⟨by decide, by decide⟩) rfl hl.1 rfl (Nat.le_of_ble_eq_true rfl) dX5_whyWrong_134 (Nat.zero_le _) (Nat.zero_le _) (fun r21 u21 H21 locs21 hp21 hP hS => ?_)
      obtain ⟨σ21, τ21⟩ := u21
      obtain ⟨hR, f21, hq21⟩ : P_X5_above σ20 z19 r20 r21 σ21 := hp21
      have hP : va_P D vwCl (gw cA ad σ21 τ21) H21 := hP
      obtain rfl := Fr.nil f21
      exact r_iret hx hb hr hK hP hS hk dX5_whyWrong_137 (show P_X5_whyWrong σ0 a2 a3 a4 r21 σ20 from ⟨hR, hF, by omega⟩)
    · refine r_bipush hx hb dX5_whyWrong_116 (by decide) (fun z22 ez22 => ?_)
      refine lv_goto (tgt := 137) hx hb dX5_whyWrong_118 (by decide) ?_
      exact r_iret hx hb hr hK hP hS hk dX5_whyWrong_137 (show P_X5_whyWrong σ0 a2 a3 a4 z22 σ0 from ⟨hR, hF, by omega⟩)
  refine lv_tableOut (tgt := 138) hx hb dX5_whyWrong_1 (by omega) (by decide) ?_
  refine r_bipush hx hb dX5_whyWrong_138 (by decide) (fun z23 ez23 => ?_)
  refine lv_aload_n hx hb dX5_whyWrong_140 rfl (lv_at hl 0 rfl) ?_
  refine fg_5_2 (k := 28) hx hb hts in_X5_whyWrong_5 hown hK hP (by decide) (by decide) (hts _ lk_X5_whyWrong_29) dX5_whyWrong_141 ?_
  refine lv_aload_n hx hb dX5_whyWrong_144 rfl (lv_at hl 1 rfl) ?_
  refine r_cVi (k := 22) (As := [.ref (ad 9)]) (rest := [.int z23]) ⟨hx, hb, hml, hown, hts⟩ hK hP hN hS (c_X0_shareOut l D cA ad hI σ0 τ0 hR 9 ⟨by omega, by omega⟩) (cwV 1 hts gX5_whyWrong_X0_shareOut rfl rfl rfl (by decide +kernel) ⟨by decide, by decide⟩) (rv_Acts hK hP (by decide) (by decide)) rfl hl.1 rfl (Nat.le_of_ble_eq_true rfl) dX5_whyWrong_145 (Nat.zero_le _) (Nat.zero_le _) (fun r24 u24 H24 locs24 hp24 hP hS => ?_)
  obtain ⟨σ24, τ24⟩ := u24
  obtain ⟨hR, f24, hq24⟩ : P_X0_shareOut σ0 9 r24 σ24 := hp24
  have hP : va_P D vwCl (gw cA ad σ24 τ24) H24 := hP
  have hF := hF.step f24 (by decide)
  refine r_cSi (As := [.int z23, .int r24]) (rest := []) ⟨hx, hb, hml, hown, hts⟩ hK hP hN hS (c_X5_above l D cA ad hI σ24 τ24 hR z23 r24 (by omega) (by omega)) (va_cwS 2 hts gX5_whyWrong_X5_above rfl rfl rfl (by decide +kernel) ⟨by decide, by decide⟩) rfl hl.1 rfl (Nat.le_of_ble_eq_true rfl) dX5_whyWrong_148 (Nat.zero_le _) (Nat.zero_le _) (fun r25 u25 H25 locs25 hp25 hP hS => ?_)
  obtain ⟨σ25, τ25⟩ := u25
  obtain ⟨hR, f25, hq25⟩ : P_X5_above σ24 z23 r24 r25 σ25 := hp25
  have hP : va_P D vwCl (gw cA ad σ25 τ25) H25 := hP
  obtain rfl := Fr.nil f25
  exact r_iret hx hb hr hK hP hS hk dX5_whyWrong_151 (show P_X5_whyWrong σ0 a2 a3 a4 r25 σ24 from ⟨hR, hF, by omega⟩)
theorem in_X5_live_5 : ∀ w ∈ u_ws RX5 TX5 8, w ∈ wsX5_live := by decide +kernel
theorem lk_X5_live_15 : Cond.fieldLink RX5 15 "CuckooShares$Roll" "who" "[I" ∈ wsX5_live := by decide +kernel
theorem lk_X5_live_18 : Cond.fieldLink RX5 18 "CuckooShares$Roll" "object" "[I" ∈ wsX5_live := by decide +kernel
theorem lk_X5_live_33 : Cond.fieldLink RX5 33 "CuckooShares$Roll" "lines" "I" ∈ wsX5_live := by decide +kernel
theorem lk_X5_live_77 : Cond.fieldLink RX5 77 "CuckooShares$Roll" "why" "I" ∈ wsX5_live := by decide +kernel
theorem lk_X5_live_9 : Cond.fieldLink RX5 9 "CuckooShares$Roll" "act" "[I" ∈ wsX5_live := by decide +kernel
abbrev L_X5_live : List Rc := [(28, 28, 7, 7), (308, 310, 0, 7), (334, 336, 0, 7), (321, 323, 0, 7), (360, 360, 0, 7), (361, 361, 0, 7), (362, 362, 0, 7), (365, 365, 0, 1), (366, 366, 0, 1), (367, 367, 0, 1), (7, 9, 0, 2), (347, 349, 0, 7)]
def P_X5_live (σ0 : Nat → Nat → Int32)  (r : Int32) (σ : Nat → Nat → Int32) : Prop := Rg σ ∧ Fr L_X5_live σ0 σ ∧ (-1 ≤ r.toInt ∧ r.toInt ≤ 39) ∧ RI σ
def J_X5_live_7 (p : Program) (l : Launch) (e : Env) (s : State) (m : MethodId) (args : Array Value) (below : List Frame) (meth : Method) (c : Code) (D : va_G) (cA : Nat → ClassId) (ad : Nat → Nat) (σ0 : Nat → Nat → Int32)  (n : Nat) : Prop := ∀ (σ : Nat → Nat → Int32) (τ : Nat → Nat → Int64) (H : Heap) (locs : List Loc) (x2 : Int32) (ls : Array Slot), Rg σ → Fr L_X5_live σ0 σ → va_P D vwCl (gw cA ad σ τ) H → va_S (AA ad) s.heap H locs → (0 ≤ x2.toInt ∧ x2.toInt ≤ 40) → (RI σ) → lv_has ls 3 [(0, .ref (ad 28)), (1, .ref (ad 9)), (2, .int x2)] → 2 * (40 - x2.toInt) + 1 < (n : Int) → W p l e ({ frames := 6, cells := 0, slots := 0, locals := 143 } : Room) s m args below meth c H locs 0 0 (MQ below (va_Qi (fun (r : Int32) (u : SS) => P_X5_live σ0 r u.1) (WB D cA ad) (AA ad)) args s 0 0 (AA ad)) (F0 m 7 ls [])
set_option maxHeartbeats 4000000 in
theorem B_X5_live_7 (p : Program) (l : Launch) (e : Env) (s : State) (m : MethodId) (args : Array Value) (below : List Frame) (meth : Method) (c : Code) (D : va_G) (cA : Nat → ClassId) (ad : Nat → Nat) (σ0 : Nat → Nat → Int32)  (n : Nat) (C : Cy p s m args meth c cX5_live 3 wsX5_live RX5 D cA ad (some .int)) (gRI : RI σ0) (K7 : J_X5_live_7 p l e s m args below meth c D cA ad σ0  n) : J_X5_live_7 p l e s m args below meth c D cA ad σ0  (n + 1) := by
  obtain ⟨hx, hb, hml, hown, hts, hK, hk, hr, hI, hN⟩ := C
  intro σ τ H locs x2 ls hR hF hP hS hc0 gRI hl hm
  refine lv_iload_n hx hb dX5_live_7 rfl (lv_at hl 2 rfl) ?_
  refine lv_aload_n hx hb dX5_live_8 rfl (lv_at hl 0 rfl) ?_
  refine fg_5_6 (k := 28) hx hb hts in_X5_live_5 hown hK hP (by decide) (by decide) (hts _ lk_X5_live_33) dX5_live_9 ?_
  have hr1 := rg_5_6 hR (k := 28) (by decide) (by decide)
  refine r_icmp_ge (tgt := 63) hx hb dX5_live_12 (by decide) (fun c2 => ?_) (fun c2 => ?_)
  · refine r_iconst hx hb dX5_live_63 (by decide) (fun z3 ez3 => ?_)
    exact r_iret hx hb hr hK hP hS hk dX5_live_64 (show P_X5_live σ0 z3 σ from ⟨hR, hF, by omega, gRI⟩)
  · refine lv_iload_n hx hb dX5_live_15 rfl (lv_at hl 2 rfl) ?_
    refine r_bipush hx hb dX5_live_16 (by decide) (fun z4 ez4 => ?_)
    refine r_icmp_ge (tgt := 63) hx hb dX5_live_18 (by decide) (fun c5 => ?_) (fun c5 => ?_)
    · refine r_iconst hx hb dX5_live_63 (by decide) (fun z6 ez6 => ?_)
      exact r_iret hx hb hr hK hP hS hk dX5_live_64 (show P_X5_live σ0 z6 σ from ⟨hR, hF, by omega, gRI⟩)
    · refine lv_aload_n hx hb dX5_live_21 rfl (lv_at hl 0 rfl) ?_
      refine lv_aload_n hx hb dX5_live_22 rfl (lv_at hl 0 rfl) ?_
      refine lv_aload_n hx hb dX5_live_23 rfl (lv_at hl 1 rfl) ?_
      refine lv_aload_n hx hb dX5_live_24 rfl (lv_at hl 0 rfl) ?_
      refine fg_5_3 (k := 28) hx hb hts in_X5_live_5 hown hK hP (by decide) (by decide) (hts _ lk_X5_live_9) dX5_live_25 ?_
      refine lv_iload_n hx hb dX5_live_28 rfl (lv_at hl 2 rfl) ?_
      obtain ⟨j7, ej7⟩ : ∃ j : Nat, x2.toInt = (j : Int) := ⟨_, ti_nat (by omega)⟩
      refine ad_roll40 (k := 368) (j := j7) hx hb hK hP (by decide) (by decide) ej7 (by omega) dX5_live_29 ?_
      refine lv_aload_n hx hb dX5_live_30 rfl (lv_at hl 0 rfl) ?_
      refine fg_5_4 (k := 28) hx hb hts in_X5_live_5 hown hK hP (by decide) (by decide) (hts _ lk_X5_live_15) dX5_live_31 ?_
      refine lv_iload_n hx hb dX5_live_34 rfl (lv_at hl 2 rfl) ?_
      refine ad_roll40 (k := 369) (j := j7) hx hb hK hP (by decide) (by decide) ej7 (by omega) dX5_live_35 ?_
      refine lv_aload_n hx hb dX5_live_36 rfl (lv_at hl 0 rfl) ?_
      refine fg_5_5 (k := 28) hx hb hts in_X5_live_5 hown hK hP (by decide) (by decide) (hts _ lk_X5_live_18) dX5_live_37 ?_
      refine lv_iload_n hx hb dX5_live_40 rfl (lv_at hl 2 rfl) ?_
      refine ad_roll40 (k := 370) (j := j7) hx hb hK hP (by decide) (by decide) ej7 (by omega) dX5_live_41 ?_
      have hz := gRI j7 (by omega)
      refine r_cVi (k := 28) (As := [.ref (ad 9), .int (σ 368 j7), .int (σ 369 j7), .int (σ 370 j7)]) (rest := [.ref (ad 28)]) ⟨hx, hb, hml, hown, hts⟩ hK hP hN hS (c_X5_whyWrong l D cA ad hI σ τ hR (σ 368 j7) (σ 369 j7) (σ 370 j7) (by omega) (by omega)) (cwV 4 hts gX5_live_X5_whyWrong rfl rfl rfl (by decide +kernel) ⟨by decide, by decide⟩) (rv_Roll hK hP (by decide) (by decide)) rfl hl.1 rfl (Nat.le_of_ble_eq_true rfl) dX5_live_42 (Nat.zero_le _) (Nat.zero_le _) (fun r8 u8 H8 locs8 hp8 hP hS => ?_)
      obtain ⟨σ8, τ8⟩ := u8
      obtain ⟨hR, f8, hq8⟩ : P_X5_whyWrong σ (σ 368 j7) (σ 369 j7) (σ 370 j7) r8 σ8 := hp8
      have hP : va_P D vwCl (gw cA ad σ8 τ8) H8 := hP
      have hF := hF.step f8 (by decide)
      have gRI := RI.fr gRI f8 (by decide)
      refine fp_5_7 (k := 28) hx hb hts in_X5_live_5 hown hK hP (by decide) (by decide) (hts _ lk_X5_live_77) hI hR hS dX5_live_45 (fun σ9 H9 locs9 u9 v9 hR hP hS => ?_)
      have hF := hF.puts u9 0 rfl (by decide) (by decide) (by decide) (by decide)
      have gRI := RI.put gRI u9 (by decide)
      refine lv_aload_n hx hb dX5_live_48 rfl (lv_at hl 0 rfl) ?_
      refine fg_5_7 (k := 28) hx hb hts in_X5_live_5 hown hK hP (by decide) (by decide) (hts _ lk_X5_live_77) dX5_live_49 ?_
      refine r_if_eq (tgt := 57) hx hb dX5_live_52 (by decide) (fun c10 => ?_) (fun c10 => ?_)
      · refine r_iinc (k := 2) (lv1 := fun z11 => [(2, .int z11), (0, .ref (ad 28)), (1, .ref (ad 9))]) hx hb dX5_live_57 hl rfl (by decide) (fun _ => rfl) (by decide) (by omega) (fun z11 ls ez11 hl => ?_)
        refine lv_goto (tgt := 7) hx hb dX5_live_60 (by decide) ?_
        exact K7 σ9 τ8 H9 locs9 z11 ls hR hF hP hS (by omega) gRI (lv_sub hl [1, 2, 0] rfl) (by omega)
      · refine lv_iload_n hx hb dX5_live_55 rfl (lv_at hl 2 rfl) ?_
        exact r_iret hx hb hr hK hP hS hk dX5_live_56 (show P_X5_live σ0 x2 σ9 from ⟨hR, hF, by omega, gRI⟩)
theorem A_X5_live (p : Program) (l : Launch) (e : Env) (s : State) (m : MethodId) (args : Array Value) (below : List Frame) (meth : Method) (c : Code) (D : va_G) (cA : Nat → ClassId) (ad : Nat → Nat) (σ0 : Nat → Nat → Int32)  (C : Cy p s m args meth c cX5_live 3 wsX5_live RX5 D cA ad (some .int)) (gRI : RI σ0) : ∀ n : Nat, J_X5_live_7 p l e s m args below meth c D cA ad σ0  n := by
  intro n
  induction n with
  | zero =>
    exact (by intro σ τ H locs x2 ls hR hF hP hS hc0 gRI hl hm; exfalso; omega)
  | succ n ih =>
    exact B_X5_live_7 p l e s m args below meth c D cA ad σ0  n C gRI ih
set_option maxHeartbeats 4000000 in
theorem c_X5_live (l : Launch) (D : va_G) (cA : Nat → ClassId) (ad : Nat → Nat) (hI : Inj ad) (σ0 : Nat → Nat → Int32) (τ0 : Nat → Nat → Int64) (hR : Rg σ0)  (gRI : RI σ0) : Met l yX5_live wsX5_live ({ frames := 6, cells := 0, slots := 0, locals := 143 } : Room) (WQc D cA ad [.ref (ad 28), .ref (ad 9)] σ0 τ0) (va_Qi (fun (r : Int32) (u : SS) => P_X5_live σ0 r u.1) (WB D cA ad) (AA ad)) 0 0 (AA ad) := by
  refine Met.ofW (cc := cX5_live) (maxL := 3) (ret := (some .int)) (by decide) rfl ?_
  intro p e s m args below meth c s₁ B hml hv
  obtain ⟨rfl, hP, hK, hN⟩ := hv
  have C : Cy p s m _ meth c cX5_live 3 wsX5_live RX5 D cA ad (some .int) := ⟨B.exec, B.bytes, hml, findClass_of_methodNamed B.named, atoms_spec (ws := wsX5_live) B.pre, hK, B.notSynchronized, B.returns, hI, hN⟩
  have hl := lv_entry ([.ref (ad 28), .ref (ad 9)]) (n := 3) (Nat.le_of_ble_eq_true rfl)
  rw [lg_entry_eq]
  generalize (lg_sl ([.ref (ad 28), .ref (ad 9)]) ++ List.replicate (3 - (lg_sl ([.ref (ad 28), .ref (ad 9)])).length) Slot.unset).toArray = ls at hl ⊢
  have hl : lv_has ls 3 [(0, .ref (ad 28)), (1, .ref (ad 9))] := hl
  have hS : va_S (AA ad) s.heap s.heap [] := va_S.rf
  have hF : Fr L_X5_live σ0 σ0 := Fr.rf
  have hA := A_X5_live p l e s m _ below meth c D cA ad σ0  C gRI 170
  have K7 := hA
  clear hA
  obtain ⟨hx, hb, _, hown, hts, _, hk, hr, _, _⟩ := C
  refine lv_aload_n hx hb dX5_live_0 rfl (lv_at hl 0 rfl) ?_
  refine r_iconst hx hb dX5_live_1 (by decide) (fun z1 ez1 => ?_)
  refine fp_5_7 (k := 28) hx hb hts in_X5_live_5 hown hK hP (by decide) (by decide) (hts _ lk_X5_live_77) hI hR hS dX5_live_2 (fun σ2 H2 locs2 u2 v2 hR hP hS => ?_)
  have hF := hF.puts u2 0 rfl (by decide) (by decide) (by decide) (by decide)
  have gRI := RI.put gRI u2 (by decide)
  refine r_iconst hx hb dX5_live_5 (by decide) (fun z3 ez3 => ?_)
  refine lv_istore_n (lv' := [(2, .int z3), (0, .ref (ad 28)), (1, .ref (ad 9))]) hx hb dX5_live_6 rfl hl (by decide) rfl (fun ls hl => ?_)
  exact K7 σ2 τ0 H2 locs2 z3 ls hR hF hP hS (by omega) gRI (lv_sub hl [1, 2, 0] rfl) (by omega)
theorem in_X5_note_5 : ∀ w ∈ u_ws RX5 TX5 8, w ∈ wsX5_note := by decide +kernel
theorem lk_X5_note_15 : Cond.fieldLink RX5 15 "CuckooShares$Roll" "who" "[I" ∈ wsX5_note := by decide +kernel
theorem lk_X5_note_18 : Cond.fieldLink RX5 18 "CuckooShares$Roll" "object" "[I" ∈ wsX5_note := by decide +kernel
theorem lk_X5_note_33 : Cond.fieldLink RX5 33 "CuckooShares$Roll" "lines" "I" ∈ wsX5_note := by decide +kernel
theorem lk_X5_note_9 : Cond.fieldLink RX5 9 "CuckooShares$Roll" "act" "[I" ∈ wsX5_note := by decide +kernel
abbrev L_X5_note : List Rc := [(368, 368, 0, 39), (369, 369, 0, 39), (370, 370, 0, 39)]
def P_X5_note (σ0 : Nat → Nat → Int32) (a1 : Int32) (a2 : Int32) (a3 : Int32) (r : Int32) (σ : Nat → Nat → Int32) : Prop := Rg σ ∧ Fr L_X5_note σ0 σ ∧ (0 ≤ r.toInt ∧ r.toInt ≤ 1) ∧ RI σ
set_option maxHeartbeats 4000000 in
theorem c_X5_note (l : Launch) (D : va_G) (cA : Nat → ClassId) (ad : Nat → Nat) (hI : Inj ad) (σ0 : Nat → Nat → Int32) (τ0 : Nat → Nat → Int64) (hR : Rg σ0) (a1 : Int32) (a2 : Int32) (a3 : Int32) (ha1 : 14 ≤ a1.toInt ∧ a1.toInt ≤ 19) (ha2 : -1 ≤ a2.toInt ∧ a2.toInt ≤ 7) (hq0 : a1.toInt < 16 ∨ 18 < a1.toInt ∨ (0 ≤ a2.toInt ∧ a2.toInt ≤ 7)) (hq1 : a1.toInt ≠ 18 ∨ (0 ≤ a3.toInt ∧ a3.toInt ≤ 7)) (gRI : RI σ0) : Met l yX5_note wsX5_note ({ frames := 0, cells := 0, slots := 0, locals := 0 } : Room) (WQc D cA ad [.ref (ad 28), .int a1, .int a2, .int a3] σ0 τ0) (va_Qi (fun (r : Int32) (u : SS) => P_X5_note σ0 a1 a2 a3 r u.1) (WB D cA ad) (AA ad)) 0 0 (AA ad) := by
  refine Met.ofW (cc := cX5_note) (maxL := 4) (ret := (some .boolean)) (by decide) rfl ?_
  intro p e s m args below meth c s₁ B hml hv
  obtain ⟨rfl, hP, hK, hN⟩ := hv
  have C : Cy p s m _ meth c cX5_note 4 wsX5_note RX5 D cA ad (some .boolean) := ⟨B.exec, B.bytes, hml, findClass_of_methodNamed B.named, atoms_spec (ws := wsX5_note) B.pre, hK, B.notSynchronized, B.returns, hI, hN⟩
  have hl := lv_entry ([.ref (ad 28), .int a1, .int a2, .int a3]) (n := 4) (Nat.le_of_ble_eq_true rfl)
  rw [lg_entry_eq]
  generalize (lg_sl ([.ref (ad 28), .int a1, .int a2, .int a3]) ++ List.replicate (4 - (lg_sl ([.ref (ad 28), .int a1, .int a2, .int a3])).length) Slot.unset).toArray = ls at hl ⊢
  have hl : lv_has ls 4 [(0, .ref (ad 28)), (1, .int a1), (2, .int a2), (3, .int a3)] := hl
  have hS : va_S (AA ad) s.heap s.heap [] := va_S.rf
  have hF : Fr L_X5_note σ0 σ0 := Fr.rf
  obtain ⟨hx, hb, _, hown, hts, _, hk, hr, _, _⟩ := C
  refine lv_aload_n hx hb dX5_note_0 rfl (lv_at hl 0 rfl) ?_
  refine fg_5_6 (k := 28) hx hb hts in_X5_note_5 hown hK hP (by decide) (by decide) (hts _ lk_X5_note_33) dX5_note_1 ?_
  have hr1 := rg_5_6 hR (k := 28) (by decide) (by decide)
  refine r_if_lt (tgt := 16) hx hb dX5_note_4 (by decide) (fun c2 => ?_) (fun c2 => ?_)
  · exfalso; omega
  · refine lv_aload_n hx hb dX5_note_7 rfl (lv_at hl 0 rfl) ?_
    refine fg_5_6 (k := 28) hx hb hts in_X5_note_5 hown hK hP (by decide) (by decide) (hts _ lk_X5_note_33) dX5_note_8 ?_
    refine r_bipush hx hb dX5_note_11 (by decide) (fun z3 ez3 => ?_)
    refine r_icmp_lt (tgt := 18) hx hb dX5_note_13 (by decide) (fun c4 => ?_) (fun c4 => ?_)
    · refine lv_aload_n hx hb dX5_note_18 rfl (lv_at hl 0 rfl) ?_
      refine fg_5_3 (k := 28) hx hb hts in_X5_note_5 hown hK hP (by decide) (by decide) (hts _ lk_X5_note_9) dX5_note_19 ?_
      refine lv_aload_n hx hb dX5_note_22 rfl (lv_at hl 0 rfl) ?_
      refine fg_5_6 (k := 28) hx hb hts in_X5_note_5 hown hK hP (by decide) (by decide) (hts _ lk_X5_note_33) dX5_note_23 ?_
      refine lv_iload_n hx hb dX5_note_26 rfl (lv_at hl 1 rfl) ?_
      obtain ⟨j5, ej5⟩ : ∃ j : Nat, (σ0 28 6).toInt = (j : Int) := ⟨_, ti_nat (by omega)⟩
      refine as_roll40 (k := 368) (j := j5) hx hb hK hP hI hR hS (by decide) (by decide) ej5 (by omega) dX5_note_27 (fun σ6 H6 locs6 u6 v6 hR hP hS => ?_)
      have ua := u6
      have va := v6
      have hF := hF.puts u6 0 rfl (by decide) (by decide) (by omega) (by omega)
      have t7 : (σ6 28 6).toInt = (σ0 28 6).toInt := congrArg Int32.toInt (u6 28 6 (by omega))
      refine lv_aload_n hx hb dX5_note_28 rfl (lv_at hl 0 rfl) ?_
      refine fg_5_4 (k := 28) hx hb hts in_X5_note_5 hown hK hP (by decide) (by decide) (hts _ lk_X5_note_15) dX5_note_29 ?_
      refine lv_aload_n hx hb dX5_note_32 rfl (lv_at hl 0 rfl) ?_
      refine fg_5_6 (k := 28) hx hb hts in_X5_note_5 hown hK hP (by decide) (by decide) (hts _ lk_X5_note_33) dX5_note_33 ?_
      refine lv_iload_n hx hb dX5_note_36 rfl (lv_at hl 2 rfl) ?_
      obtain ⟨j8, ej8⟩ : ∃ j : Nat, (σ6 28 6).toInt = (j : Int) := ⟨_, ti_nat (by omega)⟩
      refine as_roll40 (k := 369) (j := j8) hx hb hK hP hI hR hS (by decide) (by decide) ej8 (by omega) dX5_note_37 (fun σ9 H9 locs9 u9 v9 hR hP hS => ?_)
      have ub := u9
      have vb := v9
      have hF := hF.puts u9 1 rfl (by decide) (by decide) (by omega) (by omega)
      have t10 : (σ9 28 6).toInt = (σ6 28 6).toInt := congrArg Int32.toInt (u9 28 6 (by omega))
      refine lv_aload_n hx hb dX5_note_38 rfl (lv_at hl 0 rfl) ?_
      refine fg_5_5 (k := 28) hx hb hts in_X5_note_5 hown hK hP (by decide) (by decide) (hts _ lk_X5_note_18) dX5_note_39 ?_
      refine lv_aload_n hx hb dX5_note_42 rfl (lv_at hl 0 rfl) ?_
      refine fg_5_6 (k := 28) hx hb hts in_X5_note_5 hown hK hP (by decide) (by decide) (hts _ lk_X5_note_33) dX5_note_43 ?_
      refine lv_iload_n hx hb dX5_note_46 rfl (lv_at hl 3 rfl) ?_
      obtain ⟨j11, ej11⟩ : ∃ j : Nat, (σ9 28 6).toInt = (j : Int) := ⟨_, ti_nat (by omega)⟩
      refine as_roll40 (k := 370) (j := j11) hx hb hK hP hI hR hS (by decide) (by decide) ej11 (by omega) dX5_note_47 (fun σ12 H12 locs12 u12 v12 hR hP hS => ?_)
      have uc := u12
      have vc := v12
      have hF := hF.puts u12 2 rfl (by decide) (by decide) (by omega) (by omega)
      have t13 : (σ12 28 6).toInt = (σ9 28 6).toInt := congrArg Int32.toInt (u12 28 6 (by omega))
      refine r_iconst hx hb dX5_note_48 (by decide) (fun z14 ez14 => ?_)
      exact r_zret hx hb hr hK hP hS hk (by omega) dX5_note_49 (show P_X5_note σ0 a1 a2 a3 z14 σ12 from ⟨hR, hF, by omega, RI.note3 gRI ua va ub vb uc vc (by omega) (by omega) hq0 hq1⟩)
    · refine r_iconst hx hb dX5_note_16 (by decide) (fun z15 ez15 => ?_)
      exact r_zret hx hb hr hK hP hS hk (by omega) dX5_note_17 (show P_X5_note σ0 a1 a2 a3 z15 σ0 from ⟨hR, hF, by omega, gRI⟩)
theorem in_X5_readActOf_5 : ∀ w ∈ u_ws RX5 TX5 8, w ∈ wsX5_readActOf := by decide +kernel
theorem in_X5_readActOf_8 : ∀ w ∈ u_ws RX8 TX8 15, w ∈ wsX5_readActOf := by decide +kernel
theorem lk_X5_readActOf_21 : Cond.fieldLink RX5 21 "CuckooShares$Roll" "tape" "LCuckooShares$Tape;" ∈ wsX5_readActOf := by decide +kernel
theorem lk_X5_readActOf_25 : Cond.fieldLink RX5 25 "CuckooShares$Roll" "valley" "LCuckooShares$Valley;" ∈ wsX5_readActOf := by decide +kernel
abbrev L_X5_readActOf : List Rc := [(1, 1, 7, 10), (368, 368, 0, 39), (369, 369, 0, 39), (370, 370, 0, 39), (1, 1, 12, 14)]
def P_X5_readActOf (σ0 : Nat → Nat → Int32) (a1 : Int32) (r : Int32) (σ : Nat → Nat → Int32) : Prop := Rg σ ∧ Fr L_X5_readActOf σ0 σ ∧ (0 ≤ r.toInt ∧ r.toInt ≤ 1) ∧ RI σ
set_option maxHeartbeats 4000000 in
theorem c_X5_readActOf (l : Launch) (D : va_G) (cA : Nat → ClassId) (ad : Nat → Nat) (hI : Inj ad) (σ0 : Nat → Nat → Int32) (τ0 : Nat → Nat → Int64) (hR : Rg σ0) (a1 : Int32) (ha1 : 0 ≤ a1.toInt ∧ a1.toInt ≤ 7) (gRI : RI σ0) : Met l yX5_readActOf wsX5_readActOf ({ frames := 3, cells := 0, slots := 0, locals := 63 } : Room) (WQc D cA ad [.ref (ad 28), .int a1] σ0 τ0) (va_Qi (fun (r : Int32) (u : SS) => P_X5_readActOf σ0 a1 r u.1) (WB D cA ad) (AA ad)) 0 0 (AA ad) := by
  refine Met.ofW (cc := cX5_readActOf) (maxL := 4) (ret := (some .boolean)) (by decide) rfl ?_
  intro p e s m args below meth c s₁ B hml hv
  obtain ⟨rfl, hP, hK, hN⟩ := hv
  have C : Cy p s m _ meth c cX5_readActOf 4 wsX5_readActOf RX5 D cA ad (some .boolean) := ⟨B.exec, B.bytes, hml, findClass_of_methodNamed B.named, atoms_spec (ws := wsX5_readActOf) B.pre, hK, B.notSynchronized, B.returns, hI, hN⟩
  have hl := lv_entry ([.ref (ad 28), .int a1]) (n := 4) (Nat.le_of_ble_eq_true rfl)
  rw [lg_entry_eq]
  generalize (lg_sl ([.ref (ad 28), .int a1]) ++ List.replicate (4 - (lg_sl ([.ref (ad 28), .int a1])).length) Slot.unset).toArray = ls at hl ⊢
  have hl : lv_has ls 4 [(0, .ref (ad 28)), (1, .int a1)] := hl
  have hS : va_S (AA ad) s.heap s.heap [] := va_S.rf
  have hF : Fr L_X5_readActOf σ0 σ0 := Fr.rf
  obtain ⟨hx, hb, _, hown, hts, _, hk, hr, _, _⟩ := C
  refine lv_aload_n hx hb dX5_readActOf_0 rfl (lv_at hl 0 rfl) ?_
  refine fg_5_0 (k := 28) hx hb hts in_X5_readActOf_5 hown hK hP (by decide) (by decide) (hts _ lk_X5_readActOf_21) dX5_readActOf_1 ?_
  refine fgN_8_9 (k := 1) hx hb hts in_X5_readActOf_8 hown hK hP (by decide) (by decide) (hN.use nw_5_37) dX5_readActOf_4 ?_
  refine lv_istore_n (lv' := [(2, .int (σ0 1 9)), (0, .ref (ad 28)), (1, .int a1)]) hx hb dX5_readActOf_7 rfl hl (by decide) rfl (fun ls hl => ?_)
  refine lv_iload_n hx hb dX5_readActOf_8 rfl (lv_at hl 0 rfl) ?_
  refine r_bipush hx hb dX5_readActOf_9 (by decide) (fun z1 ez1 => ?_)
  refine r_icmp_eq (tgt := 35) hx hb dX5_readActOf_11 (by decide) (fun c2 => ?_) (fun c2 => ?_)
  · refine lv_aload_n hx hb dX5_readActOf_35 rfl (lv_at hl 1 rfl) ?_
    refine fg_5_0 (k := 28) hx hb hts in_X5_readActOf_5 hown hK hP (by decide) (by decide) (hts _ lk_X5_readActOf_21) dX5_readActOf_36 ?_
    refine r_cVv (k := 1) (As := []) (rest := []) ⟨hx, hb, hml, hown, hts⟩ hK hP hN hS (c_X8_next l D cA ad hI σ0 τ0 hR) (cwV 0 hts gX5_readActOf_X8_next rfl rfl rfl (by decide +kernel) ⟨by decide, by decide⟩) (rv_Tape hK hP (by decide) (by decide)) rfl hl.1 rfl (Nat.le_of_ble_eq_true rfl) dX5_readActOf_39 (Nat.zero_le _) (Nat.zero_le _) (fun u3 H3 locs3 hp3 hP hS => ?_)
    obtain ⟨σ3, τ3⟩ := u3
    obtain ⟨hR, f3⟩ : P_X8_next σ0 σ3 := hp3
    have hP : va_P D vwCl (gw cA ad σ3 τ3) H3 := hP
    have hF := hF.step f3 (by decide)
    have gRI := RI.fr gRI f3 (by decide)
    refine lv_iload_n hx hb dX5_readActOf_42 rfl (lv_at hl 0 rfl) ?_
    refine r_bipush hx hb dX5_readActOf_43 (by decide) (fun z4 ez4 => ?_)
    refine r_icmp_ne (tgt := 83) hx hb dX5_readActOf_45 (by decide) (fun c5 => ?_) (fun c5 => ?_)
    · refine lv_iload_n hx hb dX5_readActOf_83 rfl (lv_at hl 0 rfl) ?_
      refine r_bipush hx hb dX5_readActOf_84 (by decide) (fun z6 ez6 => ?_)
      refine r_icmp_ne (tgt := 103) hx hb dX5_readActOf_86 (by decide) (fun c7 => ?_) (fun c7 => ?_)
      · exfalso; omega
      · refine lv_aload_n hx hb dX5_readActOf_89 rfl (lv_at hl 1 rfl) ?_
        refine fg_5_0 (k := 28) hx hb hts in_X5_readActOf_5 hown hK hP (by decide) (by decide) (hts _ lk_X5_readActOf_21) dX5_readActOf_90 ?_
        refine lv_aload_n hx hb dX5_readActOf_93 rfl (lv_at hl 1 rfl) ?_
        refine fg_5_1 (k := 28) hx hb hts in_X5_readActOf_5 hown hK hP (by decide) (by decide) (hts _ lk_X5_readActOf_25) dX5_readActOf_94 ?_
        refine r_cVi (k := 1) (As := [.ref (ad 2)]) (rest := []) ⟨hx, hb, hml, hown, hts⟩ hK hP hN hS (c_X8_hillHere l D cA ad hI σ3 τ3 hR 2 ⟨by omega, by omega⟩) (cwV 1 hts gX5_readActOf_X8_hillHere rfl rfl rfl (by decide +kernel) ⟨by decide, by decide⟩) (rv_Tape hK hP (by decide) (by decide)) rfl hl.1 rfl (Nat.le_of_ble_eq_true rfl) dX5_readActOf_97 (Nat.zero_le _) (Nat.zero_le _) (fun r8 u8 H8 locs8 hp8 hP hS => ?_)
        obtain ⟨σ8, τ8⟩ := u8
        obtain ⟨hR, f8, hq8⟩ : P_X8_hillHere σ3 2 r8 σ8 := hp8
        have hP : va_P D vwCl (gw cA ad σ8 τ8) H8 := hP
        have hF := hF.step f8 (by decide)
        have gRI := RI.fr gRI f8 (by decide)
        refine lv_goto (tgt := 114) hx hb dX5_readActOf_100 (by decide) ?_
        refine lv_istore_n (lv' := [(3, .int r8), (2, .int (σ0 1 9)), (0, .ref (ad 28)), (1, .int a1)]) hx hb dX5_readActOf_114 rfl hl (by decide) rfl (fun ls hl => ?_)
        refine lv_iload_n hx hb dX5_readActOf_115 rfl (lv_at hl 0 rfl) ?_
        refine r_iconst hx hb dX5_readActOf_116 (by decide) (fun z9 ez9 => ?_)
        refine r_icmp_ne (tgt := 122) hx hb dX5_readActOf_117 (by decide) (fun c10 => ?_) (fun c10 => ?_)
        · refine lv_aload_n hx hb dX5_readActOf_122 rfl (lv_at hl 2 rfl) ?_
          refine fg_5_0 (k := 28) hx hb hts in_X5_readActOf_5 hown hK hP (by decide) (by decide) (hts _ lk_X5_readActOf_21) dX5_readActOf_123 ?_
          refine r_cVv (k := 1) (As := []) (rest := []) ⟨hx, hb, hml, hown, hts⟩ hK hP hN hS (c_X8_next l D cA ad hI σ8 τ8 hR) (cwV 0 hts gX5_readActOf_X8_next rfl rfl rfl (by decide +kernel) ⟨by decide, by decide⟩) (rv_Tape hK hP (by decide) (by decide)) rfl hl.1 rfl (Nat.le_of_ble_eq_true rfl) dX5_readActOf_126 (Nat.zero_le _) (Nat.zero_le _) (fun u11 H11 locs11 hp11 hP hS => ?_)
          obtain ⟨σ11, τ11⟩ := u11
          obtain ⟨hR, f11⟩ : P_X8_next σ8 σ11 := hp11
          have hP : va_P D vwCl (gw cA ad σ11 τ11) H11 := hP
          have hF := hF.step f11 (by decide)
          have gRI := RI.fr gRI f11 (by decide)
          refine lv_aload_n hx hb dX5_readActOf_129 rfl (lv_at hl 2 rfl) ?_
          refine lv_iload_n hx hb dX5_readActOf_130 rfl (lv_at hl 1 rfl) ?_
          refine lv_iload_n hx hb dX5_readActOf_131 rfl (lv_at hl 3 rfl) ?_
          refine lv_iload_n hx hb dX5_readActOf_132 rfl (lv_at hl 0 rfl) ?_
          refine r_cVi (k := 28) (As := [.int (σ0 1 9), .int a1, .int r8]) (rest := []) ⟨hx, hb, hml, hown, hts⟩ hK hP hN hS (c_X5_note l D cA ad hI σ11 τ11 hR (σ0 1 9) a1 r8 (by omega) (by omega) (by omega) (by omega) gRI) (cwV 3 hts gX5_readActOf_X5_note rfl rfl rfl (by decide +kernel) ⟨by decide, by decide⟩) (rv_Roll hK hP (by decide) (by decide)) rfl hl.1 rfl (Nat.le_of_ble_eq_true rfl) dX5_readActOf_133 (Nat.zero_le _) (Nat.zero_le _) (fun r12 u12 H12 locs12 hp12 hP hS => ?_)
          obtain ⟨σ12, τ12⟩ := u12
          obtain ⟨hR, f12, hq12, gnRI⟩ : P_X5_note σ11 (σ0 1 9) a1 r8 r12 σ12 := hp12
          have hP : va_P D vwCl (gw cA ad σ12 τ12) H12 := hP
          have hF := hF.step f12 (by decide)
          have gRI := gnRI
          exact r_zret hx hb hr hK hP hS hk (by omega) dX5_readActOf_136 (show P_X5_readActOf σ0 a1 r12 σ12 from ⟨hR, hF, by omega, gRI⟩)
        · refine r_iconst hx hb dX5_readActOf_120 (by decide) (fun z13 ez13 => ?_)
          exact r_zret hx hb hr hK hP hS hk (by omega) dX5_readActOf_121 (show P_X5_readActOf σ0 a1 z13 σ8 from ⟨hR, hF, by omega, gRI⟩)
    · exfalso; omega
  · refine lv_iload_n hx hb dX5_readActOf_14 rfl (lv_at hl 0 rfl) ?_
    refine r_bipush hx hb dX5_readActOf_15 (by decide) (fun z14 ez14 => ?_)
    refine r_icmp_eq (tgt := 35) hx hb dX5_readActOf_17 (by decide) (fun c15 => ?_) (fun c15 => ?_)
    · refine lv_aload_n hx hb dX5_readActOf_35 rfl (lv_at hl 1 rfl) ?_
      refine fg_5_0 (k := 28) hx hb hts in_X5_readActOf_5 hown hK hP (by decide) (by decide) (hts _ lk_X5_readActOf_21) dX5_readActOf_36 ?_
      refine r_cVv (k := 1) (As := []) (rest := []) ⟨hx, hb, hml, hown, hts⟩ hK hP hN hS (c_X8_next l D cA ad hI σ0 τ0 hR) (cwV 0 hts gX5_readActOf_X8_next rfl rfl rfl (by decide +kernel) ⟨by decide, by decide⟩) (rv_Tape hK hP (by decide) (by decide)) rfl hl.1 rfl (Nat.le_of_ble_eq_true rfl) dX5_readActOf_39 (Nat.zero_le _) (Nat.zero_le _) (fun u16 H16 locs16 hp16 hP hS => ?_)
      obtain ⟨σ16, τ16⟩ := u16
      obtain ⟨hR, f16⟩ : P_X8_next σ0 σ16 := hp16
      have hP : va_P D vwCl (gw cA ad σ16 τ16) H16 := hP
      have hF := hF.step f16 (by decide)
      have gRI := RI.fr gRI f16 (by decide)
      refine lv_iload_n hx hb dX5_readActOf_42 rfl (lv_at hl 0 rfl) ?_
      refine r_bipush hx hb dX5_readActOf_43 (by decide) (fun z17 ez17 => ?_)
      refine r_icmp_ne (tgt := 83) hx hb dX5_readActOf_45 (by decide) (fun c18 => ?_) (fun c18 => ?_)
      · exfalso; omega
      · refine lv_aload_n hx hb dX5_readActOf_48 rfl (lv_at hl 1 rfl) ?_
        refine fg_5_0 (k := 28) hx hb hts in_X5_readActOf_5 hown hK hP (by decide) (by decide) (hts _ lk_X5_readActOf_21) dX5_readActOf_49 ?_
        refine r_iconst hx hb dX5_readActOf_52 (by decide) (fun z19 ez19 => ?_)
        refine r_bipush hx hb dX5_readActOf_53 (by decide) (fun z20 ez20 => ?_)
        refine r_cVi (k := 1) (As := [.int z19, .int z20]) (rest := []) ⟨hx, hb, hml, hown, hts⟩ hK hP hN hS (c_X8_takeNumber l D cA ad hI σ16 τ16 hR z19 z20 (by omega)) (cwV 2 hts gX5_readActOf_X8_takeNumber rfl rfl rfl (by decide +kernel) ⟨by decide, by decide⟩) (rv_Tape hK hP (by decide) (by decide)) rfl hl.1 rfl (Nat.le_of_ble_eq_true rfl) dX5_readActOf_55 (Nat.zero_le _) (Nat.zero_le _) (fun r21 u21 H21 locs21 hp21 hP hS => ?_)
        obtain ⟨σ21, τ21⟩ := u21
        obtain ⟨hR, f21, hq21⟩ : P_X8_takeNumber σ16 z19 z20 r21 σ21 := hp21
        have hP : va_P D vwCl (gw cA ad σ21 τ21) H21 := hP
        have hF := hF.step f21 (by decide)
        have gRI := RI.fr gRI f21 (by decide)
        refine r_if_eq (tgt := 81) hx hb dX5_readActOf_58 (by decide) (fun c22 => ?_) (fun c22 => ?_)
        · refine r_iconst hx hb dX5_readActOf_81 (by decide) (fun z23 ez23 => ?_)
          exact r_zret hx hb hr hK hP hS hk (by omega) dX5_readActOf_82 (show P_X5_readActOf σ0 a1 z23 σ21 from ⟨hR, hF, by omega, gRI⟩)
        · refine lv_aload_n hx hb dX5_readActOf_61 rfl (lv_at hl 1 rfl) ?_
          refine lv_iload_n hx hb dX5_readActOf_62 rfl (lv_at hl 0 rfl) ?_
          refine lv_iload_n hx hb dX5_readActOf_63 rfl (lv_at hl 2 rfl) ?_
          refine lv_aload_n hx hb dX5_readActOf_64 rfl (lv_at hl 1 rfl) ?_
          refine fg_5_0 (k := 28) hx hb hts in_X5_readActOf_5 hown hK hP (by decide) (by decide) (hts _ lk_X5_readActOf_21) dX5_readActOf_65 ?_
          refine fgN_8_12 (k := 1) hx hb hts in_X5_readActOf_8 hown hK hP (by decide) (by decide) (hN.use nw_5_71) dX5_readActOf_68 ?_
          refine r_cVi (k := 28) (As := [.int (σ0 1 9), .int a1, .int (σ21 1 12)]) (rest := []) ⟨hx, hb, hml, hown, hts⟩ hK hP hN hS (c_X5_note l D cA ad hI σ21 τ21 hR (σ0 1 9) a1 (σ21 1 12) (by omega) (by omega) (by omega) (by omega) gRI) (cwV 3 hts gX5_readActOf_X5_note rfl rfl rfl (by decide +kernel) ⟨by decide, by decide⟩) (rv_Roll hK hP (by decide) (by decide)) rfl hl.1 rfl (Nat.le_of_ble_eq_true rfl) dX5_readActOf_71 (Nat.zero_le _) (Nat.zero_le _) (fun r24 u24 H24 locs24 hp24 hP hS => ?_)
          obtain ⟨σ24, τ24⟩ := u24
          obtain ⟨hR, f24, hq24, gnRI⟩ : P_X5_note σ21 (σ0 1 9) a1 (σ21 1 12) r24 σ24 := hp24
          have hP : va_P D vwCl (gw cA ad σ24 τ24) H24 := hP
          have hF := hF.step f24 (by decide)
          have gRI := gnRI
          refine r_if_eq (tgt := 81) hx hb dX5_readActOf_74 (by decide) (fun c25 => ?_) (fun c25 => ?_)
          · refine r_iconst hx hb dX5_readActOf_81 (by decide) (fun z26 ez26 => ?_)
            exact r_zret hx hb hr hK hP hS hk (by omega) dX5_readActOf_82 (show P_X5_readActOf σ0 a1 z26 σ24 from ⟨hR, hF, by omega, gRI⟩)
          · refine r_iconst hx hb dX5_readActOf_77 (by decide) (fun z27 ez27 => ?_)
            refine lv_goto (tgt := 82) hx hb dX5_readActOf_78 (by decide) ?_
            exact r_zret hx hb hr hK hP hS hk (by omega) dX5_readActOf_82 (show P_X5_readActOf σ0 a1 z27 σ24 from ⟨hR, hF, by omega, gRI⟩)
    · refine lv_iload_n hx hb dX5_readActOf_20 rfl (lv_at hl 0 rfl) ?_
      refine r_bipush hx hb dX5_readActOf_21 (by decide) (fun z28 ez28 => ?_)
      refine r_icmp_eq (tgt := 35) hx hb dX5_readActOf_23 (by decide) (fun c29 => ?_) (fun c29 => ?_)
      · refine lv_aload_n hx hb dX5_readActOf_35 rfl (lv_at hl 1 rfl) ?_
        refine fg_5_0 (k := 28) hx hb hts in_X5_readActOf_5 hown hK hP (by decide) (by decide) (hts _ lk_X5_readActOf_21) dX5_readActOf_36 ?_
        refine r_cVv (k := 1) (As := []) (rest := []) ⟨hx, hb, hml, hown, hts⟩ hK hP hN hS (c_X8_next l D cA ad hI σ0 τ0 hR) (cwV 0 hts gX5_readActOf_X8_next rfl rfl rfl (by decide +kernel) ⟨by decide, by decide⟩) (rv_Tape hK hP (by decide) (by decide)) rfl hl.1 rfl (Nat.le_of_ble_eq_true rfl) dX5_readActOf_39 (Nat.zero_le _) (Nat.zero_le _) (fun u30 H30 locs30 hp30 hP hS => ?_)
        obtain ⟨σ30, τ30⟩ := u30
        obtain ⟨hR, f30⟩ : P_X8_next σ0 σ30 := hp30
        have hP : va_P D vwCl (gw cA ad σ30 τ30) H30 := hP
        have hF := hF.step f30 (by decide)
        have gRI := RI.fr gRI f30 (by decide)
        refine lv_iload_n hx hb dX5_readActOf_42 rfl (lv_at hl 0 rfl) ?_
        refine r_bipush hx hb dX5_readActOf_43 (by decide) (fun z31 ez31 => ?_)
        refine r_icmp_ne (tgt := 83) hx hb dX5_readActOf_45 (by decide) (fun c32 => ?_) (fun c32 => ?_)
        · refine lv_iload_n hx hb dX5_readActOf_83 rfl (lv_at hl 0 rfl) ?_
          refine r_bipush hx hb dX5_readActOf_84 (by decide) (fun z33 ez33 => ?_)
          refine r_icmp_ne (tgt := 103) hx hb dX5_readActOf_86 (by decide) (fun c34 => ?_) (fun c34 => ?_)
          · refine lv_aload_n hx hb dX5_readActOf_103 rfl (lv_at hl 1 rfl) ?_
            refine fg_5_0 (k := 28) hx hb hts in_X5_readActOf_5 hown hK hP (by decide) (by decide) (hts _ lk_X5_readActOf_21) dX5_readActOf_104 ?_
            refine lv_aload_n hx hb dX5_readActOf_107 rfl (lv_at hl 1 rfl) ?_
            refine fg_5_1 (k := 28) hx hb hts in_X5_readActOf_5 hown hK hP (by decide) (by decide) (hts _ lk_X5_readActOf_25) dX5_readActOf_108 ?_
            refine r_cVi (k := 1) (As := [.ref (ad 2)]) (rest := []) ⟨hx, hb, hml, hown, hts⟩ hK hP hN hS (c_X8_manHere l D cA ad hI σ30 τ30 hR 2 ⟨by omega, by omega⟩) (cwV 1 hts gX5_readActOf_X8_manHere rfl rfl rfl (by decide +kernel) ⟨by decide, by decide⟩) (rv_Tape hK hP (by decide) (by decide)) rfl hl.1 rfl (Nat.le_of_ble_eq_true rfl) dX5_readActOf_111 (Nat.zero_le _) (Nat.zero_le _) (fun r35 u35 H35 locs35 hp35 hP hS => ?_)
            obtain ⟨σ35, τ35⟩ := u35
            obtain ⟨hR, f35, hq35⟩ : P_X8_manHere σ30 2 r35 σ35 := hp35
            have hP : va_P D vwCl (gw cA ad σ35 τ35) H35 := hP
            have hF := hF.step f35 (by decide)
            have gRI := RI.fr gRI f35 (by decide)
            refine lv_istore_n (lv' := [(3, .int r35), (2, .int (σ0 1 9)), (0, .ref (ad 28)), (1, .int a1)]) hx hb dX5_readActOf_114 rfl hl (by decide) rfl (fun ls hl => ?_)
            refine lv_iload_n hx hb dX5_readActOf_115 rfl (lv_at hl 0 rfl) ?_
            refine r_iconst hx hb dX5_readActOf_116 (by decide) (fun z36 ez36 => ?_)
            refine r_icmp_ne (tgt := 122) hx hb dX5_readActOf_117 (by decide) (fun c37 => ?_) (fun c37 => ?_)
            · refine lv_aload_n hx hb dX5_readActOf_122 rfl (lv_at hl 2 rfl) ?_
              refine fg_5_0 (k := 28) hx hb hts in_X5_readActOf_5 hown hK hP (by decide) (by decide) (hts _ lk_X5_readActOf_21) dX5_readActOf_123 ?_
              refine r_cVv (k := 1) (As := []) (rest := []) ⟨hx, hb, hml, hown, hts⟩ hK hP hN hS (c_X8_next l D cA ad hI σ35 τ35 hR) (cwV 0 hts gX5_readActOf_X8_next rfl rfl rfl (by decide +kernel) ⟨by decide, by decide⟩) (rv_Tape hK hP (by decide) (by decide)) rfl hl.1 rfl (Nat.le_of_ble_eq_true rfl) dX5_readActOf_126 (Nat.zero_le _) (Nat.zero_le _) (fun u38 H38 locs38 hp38 hP hS => ?_)
              obtain ⟨σ38, τ38⟩ := u38
              obtain ⟨hR, f38⟩ : P_X8_next σ35 σ38 := hp38
              have hP : va_P D vwCl (gw cA ad σ38 τ38) H38 := hP
              have hF := hF.step f38 (by decide)
              have gRI := RI.fr gRI f38 (by decide)
              refine lv_aload_n hx hb dX5_readActOf_129 rfl (lv_at hl 2 rfl) ?_
              refine lv_iload_n hx hb dX5_readActOf_130 rfl (lv_at hl 1 rfl) ?_
              refine lv_iload_n hx hb dX5_readActOf_131 rfl (lv_at hl 3 rfl) ?_
              refine lv_iload_n hx hb dX5_readActOf_132 rfl (lv_at hl 0 rfl) ?_
              refine r_cVi (k := 28) (As := [.int (σ0 1 9), .int a1, .int r35]) (rest := []) ⟨hx, hb, hml, hown, hts⟩ hK hP hN hS (c_X5_note l D cA ad hI σ38 τ38 hR (σ0 1 9) a1 r35 (by omega) (by omega) (by omega) (by omega) gRI) (cwV 3 hts gX5_readActOf_X5_note rfl rfl rfl (by decide +kernel) ⟨by decide, by decide⟩) (rv_Roll hK hP (by decide) (by decide)) rfl hl.1 rfl (Nat.le_of_ble_eq_true rfl) dX5_readActOf_133 (Nat.zero_le _) (Nat.zero_le _) (fun r39 u39 H39 locs39 hp39 hP hS => ?_)
              obtain ⟨σ39, τ39⟩ := u39
              obtain ⟨hR, f39, hq39, gnRI⟩ : P_X5_note σ38 (σ0 1 9) a1 r35 r39 σ39 := hp39
              have hP : va_P D vwCl (gw cA ad σ39 τ39) H39 := hP
              have hF := hF.step f39 (by decide)
              have gRI := gnRI
              exact r_zret hx hb hr hK hP hS hk (by omega) dX5_readActOf_136 (show P_X5_readActOf σ0 a1 r39 σ39 from ⟨hR, hF, by omega, gRI⟩)
            · refine r_iconst hx hb dX5_readActOf_120 (by decide) (fun z40 ez40 => ?_)
              exact r_zret hx hb hr hK hP hS hk (by omega) dX5_readActOf_121 (show P_X5_readActOf σ0 a1 z40 σ35 from ⟨hR, hF, by omega, gRI⟩)
          · exfalso; omega
        · exfalso; omega
      · refine lv_aload_n hx hb dX5_readActOf_26 rfl (lv_at hl 1 rfl) ?_
        refine fg_5_0 (k := 28) hx hb hts in_X5_readActOf_5 hown hK hP (by decide) (by decide) (hts _ lk_X5_readActOf_21) dX5_readActOf_27 ?_
        refine r_iconst hx hb dX5_readActOf_30 (by decide) (fun z41 ez41 => ?_)
        refine r_cVi (k := 1) (As := [.int z41]) (rest := []) ⟨hx, hb, hml, hown, hts⟩ hK hP hN hS (c_X8_blame l D cA ad hI σ0 τ0 hR z41 (by omega)) (cwV 1 hts gX5_readActOf_X8_blame rfl rfl rfl (by decide +kernel) ⟨by decide, by decide⟩) (rv_Tape hK hP (by decide) (by decide)) rfl hl.1 rfl (Nat.le_of_ble_eq_true rfl) dX5_readActOf_31 (Nat.zero_le _) (Nat.zero_le _) (fun r42 u42 H42 locs42 hp42 hP hS => ?_)
        obtain ⟨σ42, τ42⟩ := u42
        obtain ⟨hR, f42, hq42⟩ : P_X8_blame σ0 z41 r42 σ42 := hp42
        have hP : va_P D vwCl (gw cA ad σ42 τ42) H42 := hP
        have hF := hF.step f42 (by decide)
        have gRI := RI.fr gRI f42 (by decide)
        exact r_zret hx hb hr hK hP hS hk (by omega) dX5_readActOf_34 (show P_X5_readActOf σ0 a1 r42 σ42 from ⟨hR, hF, by omega, gRI⟩)
theorem in_X5_readLine_5 : ∀ w ∈ u_ws RX5 TX5 8, w ∈ wsX5_readLine := by decide +kernel
theorem in_X5_readLine_8 : ∀ w ∈ u_ws RX8 TX8 15, w ∈ wsX5_readLine := by decide +kernel
theorem lk_X5_readLine_21 : Cond.fieldLink RX5 21 "CuckooShares$Roll" "tape" "LCuckooShares$Tape;" ∈ wsX5_readLine := by decide +kernel
theorem lk_X5_readLine_25 : Cond.fieldLink RX5 25 "CuckooShares$Roll" "valley" "LCuckooShares$Valley;" ∈ wsX5_readLine := by decide +kernel
theorem lk_X5_readLine_33 : Cond.fieldLink RX5 33 "CuckooShares$Roll" "lines" "I" ∈ wsX5_readLine := by decide +kernel
abbrev L_X5_readLine : List Rc := [(1, 1, 7, 10), (368, 368, 0, 39), (369, 369, 0, 39), (370, 370, 0, 39), (1, 1, 12, 14)]
def P_X5_readLine (σ0 : Nat → Nat → Int32)  (r : Int32) (σ : Nat → Nat → Int32) : Prop := Rg σ ∧ Fr L_X5_readLine σ0 σ ∧ (0 ≤ r.toInt ∧ r.toInt ≤ 1) ∧ RI σ
set_option maxHeartbeats 4000000 in
theorem c_X5_readLine (l : Launch) (D : va_G) (cA : Nat → ClassId) (ad : Nat → Nat) (hI : Inj ad) (σ0 : Nat → Nat → Int32) (τ0 : Nat → Nat → Int64) (hR : Rg σ0)  (gRI : RI σ0) : Met l yX5_readLine wsX5_readLine ({ frames := 4, cells := 0, slots := 0, locals := 86 } : Room) (WQc D cA ad [.ref (ad 28)] σ0 τ0) (va_Qi (fun (r : Int32) (u : SS) => P_X5_readLine σ0 r u.1) (WB D cA ad) (AA ad)) 0 0 (AA ad) := by
  refine Met.ofW (cc := cX5_readLine) (maxL := 5) (ret := (some .boolean)) (by decide) rfl ?_
  intro p e s m args below meth c s₁ B hml hv
  obtain ⟨rfl, hP, hK, hN⟩ := hv
  have C : Cy p s m _ meth c cX5_readLine 5 wsX5_readLine RX5 D cA ad (some .boolean) := ⟨B.exec, B.bytes, hml, findClass_of_methodNamed B.named, atoms_spec (ws := wsX5_readLine) B.pre, hK, B.notSynchronized, B.returns, hI, hN⟩
  have hl := lv_entry ([.ref (ad 28)]) (n := 5) (Nat.le_of_ble_eq_true rfl)
  rw [lg_entry_eq]
  generalize (lg_sl ([.ref (ad 28)]) ++ List.replicate (5 - (lg_sl ([.ref (ad 28)])).length) Slot.unset).toArray = ls at hl ⊢
  have hl : lv_has ls 5 [(0, .ref (ad 28))] := hl
  have hS : va_S (AA ad) s.heap s.heap [] := va_S.rf
  have hF : Fr L_X5_readLine σ0 σ0 := Fr.rf
  obtain ⟨hx, hb, _, hown, hts, _, hk, hr, _, _⟩ := C
  refine lv_aload_n hx hb dX5_readLine_0 rfl (lv_at hl 0 rfl) ?_
  refine fg_5_0 (k := 28) hx hb hts in_X5_readLine_5 hown hK hP (by decide) (by decide) (hts _ lk_X5_readLine_21) dX5_readLine_1 ?_
  refine fgN_8_9 (k := 1) hx hb hts in_X5_readLine_8 hown hK hP (by decide) (by decide) (hN.use nw_5_37) dX5_readLine_4 ?_
  refine lv_istore_n (lv' := [(1, .int (σ0 1 9)), (0, .ref (ad 28))]) hx hb dX5_readLine_7 rfl hl (by decide) rfl (fun ls hl => ?_)
  refine lv_iload_n hx hb dX5_readLine_8 rfl (lv_at hl 0 rfl) ?_
  refine r_bipush hx hb dX5_readLine_9 (by decide) (fun z1 ez1 => ?_)
  refine r_icmp_eq (tgt := 26) hx hb dX5_readLine_11 (by decide) (fun c2 => ?_) (fun c2 => ?_)
  · refine r_iconst hx hb dX5_readLine_26 (by decide) (fun z3 ez3 => ?_)
    refine lv_goto (tgt := 31) hx hb dX5_readLine_27 (by decide) ?_
    refine lv_istore_n (lv' := [(2, .int z3), (1, .int (σ0 1 9)), (0, .ref (ad 28))]) hx hb dX5_readLine_31 rfl hl (by decide) rfl (fun ls hl => ?_)
    refine lv_iload_n hx hb dX5_readLine_32 rfl (lv_at hl 0 rfl) ?_
    refine r_if_eq (tgt := 40) hx hb dX5_readLine_33 (by decide) (fun c4 => ?_) (fun c4 => ?_)
    · exfalso; omega
    · refine r_iconst hx hb dX5_readLine_36 (by decide) (fun z5 ez5 => ?_)
      refine lv_goto (tgt := 51) hx hb dX5_readLine_37 (by decide) ?_
      refine lv_istore_n (lv' := [(3, .int z5), (2, .int z3), (1, .int (σ0 1 9)), (0, .ref (ad 28))]) hx hb dX5_readLine_51 rfl hl (by decide) rfl (fun ls hl => ?_)
      refine lv_iload_n hx hb dX5_readLine_52 rfl (lv_at hl 1 rfl) ?_
      refine r_if_ne (tgt := 63) hx hb dX5_readLine_53 (by decide) (fun c6 => ?_) (fun c6 => ?_)
      · refine lv_aload_n hx hb dX5_readLine_63 rfl (lv_at hl 3 rfl) ?_
        refine fg_5_6 (k := 28) hx hb hts in_X5_readLine_5 hown hK hP (by decide) (by decide) (hts _ lk_X5_readLine_33) dX5_readLine_64 ?_
        have hr7 := rg_5_6 hR (k := 28) (by decide) (by decide)
        refine r_bipush hx hb dX5_readLine_67 (by decide) (fun z8 ez8 => ?_)
        refine r_icmp_lt (tgt := 81) hx hb dX5_readLine_69 (by decide) (fun c9 => ?_) (fun c9 => ?_)
        · refine lv_aload_n hx hb dX5_readLine_81 rfl (lv_at hl 3 rfl) ?_
          refine fg_5_0 (k := 28) hx hb hts in_X5_readLine_5 hown hK hP (by decide) (by decide) (hts _ lk_X5_readLine_21) dX5_readLine_82 ?_
          refine r_cVv (k := 1) (As := []) (rest := []) ⟨hx, hb, hml, hown, hts⟩ hK hP hN hS (c_X8_next l D cA ad hI σ0 τ0 hR) (cwV 0 hts gX5_readLine_X8_next rfl rfl rfl (by decide +kernel) ⟨by decide, by decide⟩) (rv_Tape hK hP (by decide) (by decide)) rfl hl.1 rfl (Nat.le_of_ble_eq_true rfl) dX5_readLine_85 (Nat.zero_le _) (Nat.zero_le _) (fun u10 H10 locs10 hp10 hP hS => ?_)
          obtain ⟨σ10, τ10⟩ := u10
          obtain ⟨hR, f10⟩ : P_X8_next σ0 σ10 := hp10
          have hP : va_P D vwCl (gw cA ad σ10 τ10) H10 := hP
          have hF := hF.step f10 (by decide)
          have gRI := RI.fr gRI f10 (by decide)
          refine lv_iload_n hx hb dX5_readLine_88 rfl (lv_at hl 1 rfl) ?_
          refine r_if_ne (tgt := 98) hx hb dX5_readLine_89 (by decide) (fun c11 => ?_) (fun c11 => ?_)
          · refine lv_iload_n hx hb dX5_readLine_98 rfl (lv_at hl 2 rfl) ?_
            refine r_bipush hx hb dX5_readLine_99 (by decide) (fun z12 ez12 => ?_)
            refine r_icmp_ne (tgt := 112) hx hb dX5_readLine_101 (by decide) (fun c13 => ?_) (fun c13 => ?_)
            · refine lv_iload_n hx hb dX5_readLine_112 rfl (lv_at hl 2 rfl) ?_
              refine r_bipush hx hb dX5_readLine_113 (by decide) (fun z14 ez14 => ?_)
              refine r_icmp_ne (tgt := 130) hx hb dX5_readLine_115 (by decide) (fun c15 => ?_) (fun c15 => ?_)
              · exfalso; omega
              · refine lv_aload_n hx hb dX5_readLine_118 rfl (lv_at hl 3 rfl) ?_
                refine fg_5_0 (k := 28) hx hb hts in_X5_readLine_5 hown hK hP (by decide) (by decide) (hts _ lk_X5_readLine_21) dX5_readLine_119 ?_
                refine r_iconst hx hb dX5_readLine_122 (by decide) (fun z16 ez16 => ?_)
                refine r_iconst hx hb dX5_readLine_123 (by decide) (fun z17 ez17 => ?_)
                refine r_cVi (k := 1) (As := [.int z16, .int z17]) (rest := []) ⟨hx, hb, hml, hown, hts⟩ hK hP hN hS (c_X8_takeNumber l D cA ad hI σ10 τ10 hR z16 z17 (by omega)) (cwV 2 hts gX5_readLine_X8_takeNumber rfl rfl rfl (by decide +kernel) ⟨by decide, by decide⟩) (rv_Tape hK hP (by decide) (by decide)) rfl hl.1 rfl (Nat.le_of_ble_eq_true rfl) dX5_readLine_124 (Nat.zero_le _) (Nat.zero_le _) (fun r18 u18 H18 locs18 hp18 hP hS => ?_)
                obtain ⟨σ18, τ18⟩ := u18
                obtain ⟨hR, f18, hq18⟩ : P_X8_takeNumber σ10 z16 z17 r18 σ18 := hp18
                have hP : va_P D vwCl (gw cA ad σ18 τ18) H18 := hP
                have hF := hF.step f18 (by decide)
                have gRI := RI.fr gRI f18 (by decide)
                refine lv_goto (tgt := 140) hx hb dX5_readLine_127 (by decide) ?_
                refine lv_istore (lv' := [(4, .int r18), (3, .int z5), (2, .int z3), (1, .int (σ0 1 9)), (0, .ref (ad 28))]) hx hb dX5_readLine_140 hl (by decide) rfl (fun ls hl => ?_)
                refine lv_iload hx hb dX5_readLine_142 (lv_at hl 0 rfl) ?_
                refine r_if_eq (tgt := 167) hx hb dX5_readLine_144 (by decide) (fun c19 => ?_) (fun c19 => ?_)
                · refine r_iconst hx hb dX5_readLine_167 (by decide) (fun z20 ez20 => ?_)
                  exact r_zret hx hb hr hK hP hS hk (by omega) dX5_readLine_168 (show P_X5_readLine σ0 z20 σ18 from ⟨hR, hF, by omega, gRI⟩)
                · refine lv_aload_n hx hb dX5_readLine_147 rfl (lv_at hl 4 rfl) ?_
                  refine lv_iload_n hx hb dX5_readLine_148 rfl (lv_at hl 3 rfl) ?_
                  refine r_iconst hx hb dX5_readLine_149 (by decide) (fun z21 ez21 => ?_)
                  refine lv_aload_n hx hb dX5_readLine_150 rfl (lv_at hl 4 rfl) ?_
                  refine fg_5_0 (k := 28) hx hb hts in_X5_readLine_5 hown hK hP (by decide) (by decide) (hts _ lk_X5_readLine_21) dX5_readLine_151 ?_
                  refine fgN_8_12 (k := 1) hx hb hts in_X5_readLine_8 hown hK hP (by decide) (by decide) (hN.use nw_5_71) dX5_readLine_154 ?_
                  refine r_cVi (k := 28) (As := [.int (σ0 1 9), .int z21, .int (σ18 1 12)]) (rest := []) ⟨hx, hb, hml, hown, hts⟩ hK hP hN hS (c_X5_note l D cA ad hI σ18 τ18 hR (σ0 1 9) z21 (σ18 1 12) (by omega) (by omega) (by omega) (by omega) gRI) (cwV 3 hts gX5_readLine_X5_note rfl rfl rfl (by decide +kernel) ⟨by decide, by decide⟩) (rv_Roll hK hP (by decide) (by decide)) rfl hl.1 rfl (Nat.le_of_ble_eq_true rfl) dX5_readLine_157 (Nat.zero_le _) (Nat.zero_le _) (fun r22 u22 H22 locs22 hp22 hP hS => ?_)
                  obtain ⟨σ22, τ22⟩ := u22
                  obtain ⟨hR, f22, hq22, gnRI⟩ : P_X5_note σ18 (σ0 1 9) z21 (σ18 1 12) r22 σ22 := hp22
                  have hP : va_P D vwCl (gw cA ad σ22 τ22) H22 := hP
                  have hF := hF.step f22 (by decide)
                  have gRI := gnRI
                  refine r_if_eq (tgt := 167) hx hb dX5_readLine_160 (by decide) (fun c23 => ?_) (fun c23 => ?_)
                  · refine r_iconst hx hb dX5_readLine_167 (by decide) (fun z24 ez24 => ?_)
                    exact r_zret hx hb hr hK hP hS hk (by omega) dX5_readLine_168 (show P_X5_readLine σ0 z24 σ22 from ⟨hR, hF, by omega, gRI⟩)
                  · refine r_iconst hx hb dX5_readLine_163 (by decide) (fun z25 ez25 => ?_)
                    refine lv_goto (tgt := 168) hx hb dX5_readLine_164 (by decide) ?_
                    exact r_zret hx hb hr hK hP hS hk (by omega) dX5_readLine_168 (show P_X5_readLine σ0 z25 σ22 from ⟨hR, hF, by omega, gRI⟩)
            · exfalso; omega
          · exfalso; omega
        · refine lv_aload_n hx hb dX5_readLine_72 rfl (lv_at hl 3 rfl) ?_
          refine fg_5_0 (k := 28) hx hb hts in_X5_readLine_5 hown hK hP (by decide) (by decide) (hts _ lk_X5_readLine_21) dX5_readLine_73 ?_
          refine r_iconst hx hb dX5_readLine_76 (by decide) (fun z26 ez26 => ?_)
          refine r_cVi (k := 1) (As := [.int z26]) (rest := []) ⟨hx, hb, hml, hown, hts⟩ hK hP hN hS (c_X8_blame l D cA ad hI σ0 τ0 hR z26 (by omega)) (cwV 1 hts gX5_readLine_X8_blame rfl rfl rfl (by decide +kernel) ⟨by decide, by decide⟩) (rv_Tape hK hP (by decide) (by decide)) rfl hl.1 rfl (Nat.le_of_ble_eq_true rfl) dX5_readLine_77 (Nat.zero_le _) (Nat.zero_le _) (fun r27 u27 H27 locs27 hp27 hP hS => ?_)
          obtain ⟨σ27, τ27⟩ := u27
          obtain ⟨hR, f27, hq27⟩ : P_X8_blame σ0 z26 r27 σ27 := hp27
          have hP : va_P D vwCl (gw cA ad σ27 τ27) H27 := hP
          have hF := hF.step f27 (by decide)
          have gRI := RI.fr gRI f27 (by decide)
          exact r_zret hx hb hr hK hP hS hk (by omega) dX5_readLine_80 (show P_X5_readLine σ0 r27 σ27 from ⟨hR, hF, by omega, gRI⟩)
      · exfalso; omega
  · refine lv_iload_n hx hb dX5_readLine_14 rfl (lv_at hl 0 rfl) ?_
    refine r_bipush hx hb dX5_readLine_15 (by decide) (fun z28 ez28 => ?_)
    refine r_icmp_eq (tgt := 26) hx hb dX5_readLine_17 (by decide) (fun c29 => ?_) (fun c29 => ?_)
    · refine r_iconst hx hb dX5_readLine_26 (by decide) (fun z30 ez30 => ?_)
      refine lv_goto (tgt := 31) hx hb dX5_readLine_27 (by decide) ?_
      refine lv_istore_n (lv' := [(2, .int z30), (1, .int (σ0 1 9)), (0, .ref (ad 28))]) hx hb dX5_readLine_31 rfl hl (by decide) rfl (fun ls hl => ?_)
      refine lv_iload_n hx hb dX5_readLine_32 rfl (lv_at hl 0 rfl) ?_
      refine r_if_eq (tgt := 40) hx hb dX5_readLine_33 (by decide) (fun c31 => ?_) (fun c31 => ?_)
      · exfalso; omega
      · refine r_iconst hx hb dX5_readLine_36 (by decide) (fun z32 ez32 => ?_)
        refine lv_goto (tgt := 51) hx hb dX5_readLine_37 (by decide) ?_
        refine lv_istore_n (lv' := [(3, .int z32), (2, .int z30), (1, .int (σ0 1 9)), (0, .ref (ad 28))]) hx hb dX5_readLine_51 rfl hl (by decide) rfl (fun ls hl => ?_)
        refine lv_iload_n hx hb dX5_readLine_52 rfl (lv_at hl 1 rfl) ?_
        refine r_if_ne (tgt := 63) hx hb dX5_readLine_53 (by decide) (fun c33 => ?_) (fun c33 => ?_)
        · refine lv_aload_n hx hb dX5_readLine_63 rfl (lv_at hl 3 rfl) ?_
          refine fg_5_6 (k := 28) hx hb hts in_X5_readLine_5 hown hK hP (by decide) (by decide) (hts _ lk_X5_readLine_33) dX5_readLine_64 ?_
          have hr34 := rg_5_6 hR (k := 28) (by decide) (by decide)
          refine r_bipush hx hb dX5_readLine_67 (by decide) (fun z35 ez35 => ?_)
          refine r_icmp_lt (tgt := 81) hx hb dX5_readLine_69 (by decide) (fun c36 => ?_) (fun c36 => ?_)
          · refine lv_aload_n hx hb dX5_readLine_81 rfl (lv_at hl 3 rfl) ?_
            refine fg_5_0 (k := 28) hx hb hts in_X5_readLine_5 hown hK hP (by decide) (by decide) (hts _ lk_X5_readLine_21) dX5_readLine_82 ?_
            refine r_cVv (k := 1) (As := []) (rest := []) ⟨hx, hb, hml, hown, hts⟩ hK hP hN hS (c_X8_next l D cA ad hI σ0 τ0 hR) (cwV 0 hts gX5_readLine_X8_next rfl rfl rfl (by decide +kernel) ⟨by decide, by decide⟩) (rv_Tape hK hP (by decide) (by decide)) rfl hl.1 rfl (Nat.le_of_ble_eq_true rfl) dX5_readLine_85 (Nat.zero_le _) (Nat.zero_le _) (fun u37 H37 locs37 hp37 hP hS => ?_)
            obtain ⟨σ37, τ37⟩ := u37
            obtain ⟨hR, f37⟩ : P_X8_next σ0 σ37 := hp37
            have hP : va_P D vwCl (gw cA ad σ37 τ37) H37 := hP
            have hF := hF.step f37 (by decide)
            have gRI := RI.fr gRI f37 (by decide)
            refine lv_iload_n hx hb dX5_readLine_88 rfl (lv_at hl 1 rfl) ?_
            refine r_if_ne (tgt := 98) hx hb dX5_readLine_89 (by decide) (fun c38 => ?_) (fun c38 => ?_)
            · refine lv_iload_n hx hb dX5_readLine_98 rfl (lv_at hl 2 rfl) ?_
              refine r_bipush hx hb dX5_readLine_99 (by decide) (fun z39 ez39 => ?_)
              refine r_icmp_ne (tgt := 112) hx hb dX5_readLine_101 (by decide) (fun c40 => ?_) (fun c40 => ?_)
              · refine lv_iload_n hx hb dX5_readLine_112 rfl (lv_at hl 2 rfl) ?_
                refine r_bipush hx hb dX5_readLine_113 (by decide) (fun z41 ez41 => ?_)
                refine r_icmp_ne (tgt := 130) hx hb dX5_readLine_115 (by decide) (fun c42 => ?_) (fun c42 => ?_)
                · refine lv_aload_n hx hb dX5_readLine_130 rfl (lv_at hl 3 rfl) ?_
                  refine fg_5_0 (k := 28) hx hb hts in_X5_readLine_5 hown hK hP (by decide) (by decide) (hts _ lk_X5_readLine_21) dX5_readLine_131 ?_
                  refine r_iconst hx hb dX5_readLine_134 (by decide) (fun z43 ez43 => ?_)
                  refine r_bipush hx hb dX5_readLine_135 (by decide) (fun z44 ez44 => ?_)
                  refine r_cVi (k := 1) (As := [.int z43, .int z44]) (rest := []) ⟨hx, hb, hml, hown, hts⟩ hK hP hN hS (c_X8_takeNumber l D cA ad hI σ37 τ37 hR z43 z44 (by omega)) (cwV 2 hts gX5_readLine_X8_takeNumber rfl rfl rfl (by decide +kernel) ⟨by decide, by decide⟩) (rv_Tape hK hP (by decide) (by decide)) rfl hl.1 rfl (Nat.le_of_ble_eq_true rfl) dX5_readLine_137 (Nat.zero_le _) (Nat.zero_le _) (fun r45 u45 H45 locs45 hp45 hP hS => ?_)
                  obtain ⟨σ45, τ45⟩ := u45
                  obtain ⟨hR, f45, hq45⟩ : P_X8_takeNumber σ37 z43 z44 r45 σ45 := hp45
                  have hP : va_P D vwCl (gw cA ad σ45 τ45) H45 := hP
                  have hF := hF.step f45 (by decide)
                  have gRI := RI.fr gRI f45 (by decide)
                  refine lv_istore (lv' := [(4, .int r45), (3, .int z32), (2, .int z30), (1, .int (σ0 1 9)), (0, .ref (ad 28))]) hx hb dX5_readLine_140 hl (by decide) rfl (fun ls hl => ?_)
                  refine lv_iload hx hb dX5_readLine_142 (lv_at hl 0 rfl) ?_
                  refine r_if_eq (tgt := 167) hx hb dX5_readLine_144 (by decide) (fun c46 => ?_) (fun c46 => ?_)
                  · refine r_iconst hx hb dX5_readLine_167 (by decide) (fun z47 ez47 => ?_)
                    exact r_zret hx hb hr hK hP hS hk (by omega) dX5_readLine_168 (show P_X5_readLine σ0 z47 σ45 from ⟨hR, hF, by omega, gRI⟩)
                  · refine lv_aload_n hx hb dX5_readLine_147 rfl (lv_at hl 4 rfl) ?_
                    refine lv_iload_n hx hb dX5_readLine_148 rfl (lv_at hl 3 rfl) ?_
                    refine r_iconst hx hb dX5_readLine_149 (by decide) (fun z48 ez48 => ?_)
                    refine lv_aload_n hx hb dX5_readLine_150 rfl (lv_at hl 4 rfl) ?_
                    refine fg_5_0 (k := 28) hx hb hts in_X5_readLine_5 hown hK hP (by decide) (by decide) (hts _ lk_X5_readLine_21) dX5_readLine_151 ?_
                    refine fgN_8_12 (k := 1) hx hb hts in_X5_readLine_8 hown hK hP (by decide) (by decide) (hN.use nw_5_71) dX5_readLine_154 ?_
                    refine r_cVi (k := 28) (As := [.int (σ0 1 9), .int z48, .int (σ45 1 12)]) (rest := []) ⟨hx, hb, hml, hown, hts⟩ hK hP hN hS (c_X5_note l D cA ad hI σ45 τ45 hR (σ0 1 9) z48 (σ45 1 12) (by omega) (by omega) (by omega) (by omega) gRI) (cwV 3 hts gX5_readLine_X5_note rfl rfl rfl (by decide +kernel) ⟨by decide, by decide⟩) (rv_Roll hK hP (by decide) (by decide)) rfl hl.1 rfl (Nat.le_of_ble_eq_true rfl) dX5_readLine_157 (Nat.zero_le _) (Nat.zero_le _) (fun r49 u49 H49 locs49 hp49 hP hS => ?_)
                    obtain ⟨σ49, τ49⟩ := u49
                    obtain ⟨hR, f49, hq49, gnRI⟩ : P_X5_note σ45 (σ0 1 9) z48 (σ45 1 12) r49 σ49 := hp49
                    have hP : va_P D vwCl (gw cA ad σ49 τ49) H49 := hP
                    have hF := hF.step f49 (by decide)
                    have gRI := gnRI
                    refine r_if_eq (tgt := 167) hx hb dX5_readLine_160 (by decide) (fun c50 => ?_) (fun c50 => ?_)
                    · refine r_iconst hx hb dX5_readLine_167 (by decide) (fun z51 ez51 => ?_)
                      exact r_zret hx hb hr hK hP hS hk (by omega) dX5_readLine_168 (show P_X5_readLine σ0 z51 σ49 from ⟨hR, hF, by omega, gRI⟩)
                    · refine r_iconst hx hb dX5_readLine_163 (by decide) (fun z52 ez52 => ?_)
                      refine lv_goto (tgt := 168) hx hb dX5_readLine_164 (by decide) ?_
                      exact r_zret hx hb hr hK hP hS hk (by omega) dX5_readLine_168 (show P_X5_readLine σ0 z52 σ49 from ⟨hR, hF, by omega, gRI⟩)
                · exfalso; omega
              · exfalso; omega
            · exfalso; omega
          · refine lv_aload_n hx hb dX5_readLine_72 rfl (lv_at hl 3 rfl) ?_
            refine fg_5_0 (k := 28) hx hb hts in_X5_readLine_5 hown hK hP (by decide) (by decide) (hts _ lk_X5_readLine_21) dX5_readLine_73 ?_
            refine r_iconst hx hb dX5_readLine_76 (by decide) (fun z53 ez53 => ?_)
            refine r_cVi (k := 1) (As := [.int z53]) (rest := []) ⟨hx, hb, hml, hown, hts⟩ hK hP hN hS (c_X8_blame l D cA ad hI σ0 τ0 hR z53 (by omega)) (cwV 1 hts gX5_readLine_X8_blame rfl rfl rfl (by decide +kernel) ⟨by decide, by decide⟩) (rv_Tape hK hP (by decide) (by decide)) rfl hl.1 rfl (Nat.le_of_ble_eq_true rfl) dX5_readLine_77 (Nat.zero_le _) (Nat.zero_le _) (fun r54 u54 H54 locs54 hp54 hP hS => ?_)
            obtain ⟨σ54, τ54⟩ := u54
            obtain ⟨hR, f54, hq54⟩ : P_X8_blame σ0 z53 r54 σ54 := hp54
            have hP : va_P D vwCl (gw cA ad σ54 τ54) H54 := hP
            have hF := hF.step f54 (by decide)
            have gRI := RI.fr gRI f54 (by decide)
            exact r_zret hx hb hr hK hP hS hk (by omega) dX5_readLine_80 (show P_X5_readLine σ0 r54 σ54 from ⟨hR, hF, by omega, gRI⟩)
        · exfalso; omega
    · refine lv_iload_n hx hb dX5_readLine_20 rfl (lv_at hl 0 rfl) ?_
      refine r_bipush hx hb dX5_readLine_21 (by decide) (fun z55 ez55 => ?_)
      refine r_icmp_ne (tgt := 30) hx hb dX5_readLine_23 (by decide) (fun c56 => ?_) (fun c56 => ?_)
      · refine r_iconst hx hb dX5_readLine_30 (by decide) (fun z57 ez57 => ?_)
        refine lv_istore_n (lv' := [(2, .int z57), (1, .int (σ0 1 9)), (0, .ref (ad 28))]) hx hb dX5_readLine_31 rfl hl (by decide) rfl (fun ls hl => ?_)
        refine lv_iload_n hx hb dX5_readLine_32 rfl (lv_at hl 0 rfl) ?_
        refine r_if_eq (tgt := 40) hx hb dX5_readLine_33 (by decide) (fun c58 => ?_) (fun c58 => ?_)
        · refine lv_aload_n hx hb dX5_readLine_40 rfl (lv_at hl 2 rfl) ?_
          refine fg_5_0 (k := 28) hx hb hts in_X5_readLine_5 hown hK hP (by decide) (by decide) (hts _ lk_X5_readLine_21) dX5_readLine_41 ?_
          refine lv_aload_n hx hb dX5_readLine_44 rfl (lv_at hl 2 rfl) ?_
          refine fg_5_1 (k := 28) hx hb hts in_X5_readLine_5 hown hK hP (by decide) (by decide) (hts _ lk_X5_readLine_25) dX5_readLine_45 ?_
          refine r_cVi (k := 1) (As := [.ref (ad 2)]) (rest := []) ⟨hx, hb, hml, hown, hts⟩ hK hP hN hS (c_X8_manHere l D cA ad hI σ0 τ0 hR 2 ⟨by omega, by omega⟩) (cwV 1 hts gX5_readLine_X8_manHere rfl rfl rfl (by decide +kernel) ⟨by decide, by decide⟩) (rv_Tape hK hP (by decide) (by decide)) rfl hl.1 rfl (Nat.le_of_ble_eq_true rfl) dX5_readLine_48 (Nat.zero_le _) (Nat.zero_le _) (fun r59 u59 H59 locs59 hp59 hP hS => ?_)
          obtain ⟨σ59, τ59⟩ := u59
          obtain ⟨hR, f59, hq59⟩ : P_X8_manHere σ0 2 r59 σ59 := hp59
          have hP : va_P D vwCl (gw cA ad σ59 τ59) H59 := hP
          have hF := hF.step f59 (by decide)
          have gRI := RI.fr gRI f59 (by decide)
          refine lv_istore_n (lv' := [(3, .int r59), (2, .int z57), (1, .int (σ0 1 9)), (0, .ref (ad 28))]) hx hb dX5_readLine_51 rfl hl (by decide) rfl (fun ls hl => ?_)
          refine lv_iload_n hx hb dX5_readLine_52 rfl (lv_at hl 1 rfl) ?_
          refine r_if_ne (tgt := 63) hx hb dX5_readLine_53 (by decide) (fun c60 => ?_) (fun c60 => ?_)
          · exfalso; omega
          · refine lv_iload_n hx hb dX5_readLine_56 rfl (lv_at hl 0 rfl) ?_
            refine r_iconst hx hb dX5_readLine_57 (by decide) (fun z61 ez61 => ?_)
            refine r_icmp_ne (tgt := 63) hx hb dX5_readLine_58 (by decide) (fun c62 => ?_) (fun c62 => ?_)
            · refine lv_aload_n hx hb dX5_readLine_63 rfl (lv_at hl 3 rfl) ?_
              refine fg_5_6 (k := 28) hx hb hts in_X5_readLine_5 hown hK hP (by decide) (by decide) (hts _ lk_X5_readLine_33) dX5_readLine_64 ?_
              have hr63 := rg_5_6 hR (k := 28) (by decide) (by decide)
              refine r_bipush hx hb dX5_readLine_67 (by decide) (fun z64 ez64 => ?_)
              refine r_icmp_lt (tgt := 81) hx hb dX5_readLine_69 (by decide) (fun c65 => ?_) (fun c65 => ?_)
              · refine lv_aload_n hx hb dX5_readLine_81 rfl (lv_at hl 3 rfl) ?_
                refine fg_5_0 (k := 28) hx hb hts in_X5_readLine_5 hown hK hP (by decide) (by decide) (hts _ lk_X5_readLine_21) dX5_readLine_82 ?_
                refine r_cVv (k := 1) (As := []) (rest := []) ⟨hx, hb, hml, hown, hts⟩ hK hP hN hS (c_X8_next l D cA ad hI σ59 τ59 hR) (cwV 0 hts gX5_readLine_X8_next rfl rfl rfl (by decide +kernel) ⟨by decide, by decide⟩) (rv_Tape hK hP (by decide) (by decide)) rfl hl.1 rfl (Nat.le_of_ble_eq_true rfl) dX5_readLine_85 (Nat.zero_le _) (Nat.zero_le _) (fun u66 H66 locs66 hp66 hP hS => ?_)
                obtain ⟨σ66, τ66⟩ := u66
                obtain ⟨hR, f66⟩ : P_X8_next σ59 σ66 := hp66
                have hP : va_P D vwCl (gw cA ad σ66 τ66) H66 := hP
                have hF := hF.step f66 (by decide)
                have gRI := RI.fr gRI f66 (by decide)
                refine lv_iload_n hx hb dX5_readLine_88 rfl (lv_at hl 1 rfl) ?_
                refine r_if_ne (tgt := 98) hx hb dX5_readLine_89 (by decide) (fun c67 => ?_) (fun c67 => ?_)
                · exfalso; omega
                · refine lv_aload_n hx hb dX5_readLine_92 rfl (lv_at hl 3 rfl) ?_
                  refine lv_iload_n hx hb dX5_readLine_93 rfl (lv_at hl 0 rfl) ?_
                  refine r_cVi (k := 28) (As := [.int r59]) (rest := []) ⟨hx, hb, hml, hown, hts⟩ hK hP hN hS (c_X5_readActOf l D cA ad hI σ66 τ66 hR r59 (by omega) gRI) (cwV 1 hts gX5_readLine_X5_readActOf rfl rfl rfl (by decide +kernel) ⟨by decide, by decide⟩) (rv_Roll hK hP (by decide) (by decide)) rfl hl.1 rfl (Nat.le_of_ble_eq_true rfl) dX5_readLine_94 (Nat.zero_le _) (Nat.zero_le _) (fun r68 u68 H68 locs68 hp68 hP hS => ?_)
                  obtain ⟨σ68, τ68⟩ := u68
                  obtain ⟨hR, f68, hq68, gnRI⟩ : P_X5_readActOf σ66 r59 r68 σ68 := hp68
                  have hP : va_P D vwCl (gw cA ad σ68 τ68) H68 := hP
                  have hF := hF.step f68 (by decide)
                  have gRI := gnRI
                  exact r_zret hx hb hr hK hP hS hk (by omega) dX5_readLine_97 (show P_X5_readLine σ0 r68 σ68 from ⟨hR, hF, by omega, gRI⟩)
              · refine lv_aload_n hx hb dX5_readLine_72 rfl (lv_at hl 3 rfl) ?_
                refine fg_5_0 (k := 28) hx hb hts in_X5_readLine_5 hown hK hP (by decide) (by decide) (hts _ lk_X5_readLine_21) dX5_readLine_73 ?_
                refine r_iconst hx hb dX5_readLine_76 (by decide) (fun z69 ez69 => ?_)
                refine r_cVi (k := 1) (As := [.int z69]) (rest := []) ⟨hx, hb, hml, hown, hts⟩ hK hP hN hS (c_X8_blame l D cA ad hI σ59 τ59 hR z69 (by omega)) (cwV 1 hts gX5_readLine_X8_blame rfl rfl rfl (by decide +kernel) ⟨by decide, by decide⟩) (rv_Tape hK hP (by decide) (by decide)) rfl hl.1 rfl (Nat.le_of_ble_eq_true rfl) dX5_readLine_77 (Nat.zero_le _) (Nat.zero_le _) (fun r70 u70 H70 locs70 hp70 hP hS => ?_)
                obtain ⟨σ70, τ70⟩ := u70
                obtain ⟨hR, f70, hq70⟩ : P_X8_blame σ59 z69 r70 σ70 := hp70
                have hP : va_P D vwCl (gw cA ad σ70 τ70) H70 := hP
                have hF := hF.step f70 (by decide)
                have gRI := RI.fr gRI f70 (by decide)
                exact r_zret hx hb hr hK hP hS hk (by omega) dX5_readLine_80 (show P_X5_readLine σ0 r70 σ70 from ⟨hR, hF, by omega, gRI⟩)
            · refine r_iconst hx hb dX5_readLine_61 (by decide) (fun z71 ez71 => ?_)
              exact r_zret hx hb hr hK hP hS hk (by omega) dX5_readLine_62 (show P_X5_readLine σ0 z71 σ59 from ⟨hR, hF, by omega, gRI⟩)
        · exfalso; omega
      · refine r_iconst hx hb dX5_readLine_26 (by decide) (fun z72 ez72 => ?_)
        refine lv_goto (tgt := 31) hx hb dX5_readLine_27 (by decide) ?_
        refine lv_istore_n (lv' := [(2, .int z72), (1, .int (σ0 1 9)), (0, .ref (ad 28))]) hx hb dX5_readLine_31 rfl hl (by decide) rfl (fun ls hl => ?_)
        refine lv_iload_n hx hb dX5_readLine_32 rfl (lv_at hl 0 rfl) ?_
        refine r_if_eq (tgt := 40) hx hb dX5_readLine_33 (by decide) (fun c73 => ?_) (fun c73 => ?_)
        · exfalso; omega
        · refine r_iconst hx hb dX5_readLine_36 (by decide) (fun z74 ez74 => ?_)
          refine lv_goto (tgt := 51) hx hb dX5_readLine_37 (by decide) ?_
          refine lv_istore_n (lv' := [(3, .int z74), (2, .int z72), (1, .int (σ0 1 9)), (0, .ref (ad 28))]) hx hb dX5_readLine_51 rfl hl (by decide) rfl (fun ls hl => ?_)
          refine lv_iload_n hx hb dX5_readLine_52 rfl (lv_at hl 1 rfl) ?_
          refine r_if_ne (tgt := 63) hx hb dX5_readLine_53 (by decide) (fun c75 => ?_) (fun c75 => ?_)
          · refine lv_aload_n hx hb dX5_readLine_63 rfl (lv_at hl 3 rfl) ?_
            refine fg_5_6 (k := 28) hx hb hts in_X5_readLine_5 hown hK hP (by decide) (by decide) (hts _ lk_X5_readLine_33) dX5_readLine_64 ?_
            have hr76 := rg_5_6 hR (k := 28) (by decide) (by decide)
            refine r_bipush hx hb dX5_readLine_67 (by decide) (fun z77 ez77 => ?_)
            refine r_icmp_lt (tgt := 81) hx hb dX5_readLine_69 (by decide) (fun c78 => ?_) (fun c78 => ?_)
            · refine lv_aload_n hx hb dX5_readLine_81 rfl (lv_at hl 3 rfl) ?_
              refine fg_5_0 (k := 28) hx hb hts in_X5_readLine_5 hown hK hP (by decide) (by decide) (hts _ lk_X5_readLine_21) dX5_readLine_82 ?_
              refine r_cVv (k := 1) (As := []) (rest := []) ⟨hx, hb, hml, hown, hts⟩ hK hP hN hS (c_X8_next l D cA ad hI σ0 τ0 hR) (cwV 0 hts gX5_readLine_X8_next rfl rfl rfl (by decide +kernel) ⟨by decide, by decide⟩) (rv_Tape hK hP (by decide) (by decide)) rfl hl.1 rfl (Nat.le_of_ble_eq_true rfl) dX5_readLine_85 (Nat.zero_le _) (Nat.zero_le _) (fun u79 H79 locs79 hp79 hP hS => ?_)
              obtain ⟨σ79, τ79⟩ := u79
              obtain ⟨hR, f79⟩ : P_X8_next σ0 σ79 := hp79
              have hP : va_P D vwCl (gw cA ad σ79 τ79) H79 := hP
              have hF := hF.step f79 (by decide)
              have gRI := RI.fr gRI f79 (by decide)
              refine lv_iload_n hx hb dX5_readLine_88 rfl (lv_at hl 1 rfl) ?_
              refine r_if_ne (tgt := 98) hx hb dX5_readLine_89 (by decide) (fun c80 => ?_) (fun c80 => ?_)
              · refine lv_iload_n hx hb dX5_readLine_98 rfl (lv_at hl 2 rfl) ?_
                refine r_bipush hx hb dX5_readLine_99 (by decide) (fun z81 ez81 => ?_)
                refine r_icmp_ne (tgt := 112) hx hb dX5_readLine_101 (by decide) (fun c82 => ?_) (fun c82 => ?_)
                · exfalso; omega
                · refine lv_aload_n hx hb dX5_readLine_104 rfl (lv_at hl 3 rfl) ?_
                  refine lv_iload_n hx hb dX5_readLine_105 rfl (lv_at hl 2 rfl) ?_
                  refine r_iconst hx hb dX5_readLine_106 (by decide) (fun z83 ez83 => ?_)
                  refine r_iconst hx hb dX5_readLine_107 (by decide) (fun z84 ez84 => ?_)
                  refine r_cVi (k := 28) (As := [.int (σ0 1 9), .int z83, .int z84]) (rest := []) ⟨hx, hb, hml, hown, hts⟩ hK hP hN hS (c_X5_note l D cA ad hI σ79 τ79 hR (σ0 1 9) z83 z84 (by omega) (by omega) (by omega) (by omega) gRI) (cwV 3 hts gX5_readLine_X5_note rfl rfl rfl (by decide +kernel) ⟨by decide, by decide⟩) (rv_Roll hK hP (by decide) (by decide)) rfl hl.1 rfl (Nat.le_of_ble_eq_true rfl) dX5_readLine_108 (Nat.zero_le _) (Nat.zero_le _) (fun r85 u85 H85 locs85 hp85 hP hS => ?_)
                  obtain ⟨σ85, τ85⟩ := u85
                  obtain ⟨hR, f85, hq85, gnRI⟩ : P_X5_note σ79 (σ0 1 9) z83 z84 r85 σ85 := hp85
                  have hP : va_P D vwCl (gw cA ad σ85 τ85) H85 := hP
                  have hF := hF.step f85 (by decide)
                  have gRI := gnRI
                  exact r_zret hx hb hr hK hP hS hk (by omega) dX5_readLine_111 (show P_X5_readLine σ0 r85 σ85 from ⟨hR, hF, by omega, gRI⟩)
              · exfalso; omega
            · refine lv_aload_n hx hb dX5_readLine_72 rfl (lv_at hl 3 rfl) ?_
              refine fg_5_0 (k := 28) hx hb hts in_X5_readLine_5 hown hK hP (by decide) (by decide) (hts _ lk_X5_readLine_21) dX5_readLine_73 ?_
              refine r_iconst hx hb dX5_readLine_76 (by decide) (fun z86 ez86 => ?_)
              refine r_cVi (k := 1) (As := [.int z86]) (rest := []) ⟨hx, hb, hml, hown, hts⟩ hK hP hN hS (c_X8_blame l D cA ad hI σ0 τ0 hR z86 (by omega)) (cwV 1 hts gX5_readLine_X8_blame rfl rfl rfl (by decide +kernel) ⟨by decide, by decide⟩) (rv_Tape hK hP (by decide) (by decide)) rfl hl.1 rfl (Nat.le_of_ble_eq_true rfl) dX5_readLine_77 (Nat.zero_le _) (Nat.zero_le _) (fun r87 u87 H87 locs87 hp87 hP hS => ?_)
              obtain ⟨σ87, τ87⟩ := u87
              obtain ⟨hR, f87, hq87⟩ : P_X8_blame σ0 z86 r87 σ87 := hp87
              have hP : va_P D vwCl (gw cA ad σ87 τ87) H87 := hP
              have hF := hF.step f87 (by decide)
              have gRI := RI.fr gRI f87 (by decide)
              exact r_zret hx hb hr hK hP hS hk (by omega) dX5_readLine_80 (show P_X5_readLine σ0 r87 σ87 from ⟨hR, hF, by omega, gRI⟩)
          · exfalso; omega
theorem in_X5_read_5 : ∀ w ∈ u_ws RX5 TX5 8, w ∈ wsX5_read := by decide +kernel
theorem in_X5_read_8 : ∀ w ∈ u_ws RX8 TX8 15, w ∈ wsX5_read := by decide +kernel
theorem lk_X5_read_21 : Cond.fieldLink RX5 21 "CuckooShares$Roll" "tape" "LCuckooShares$Tape;" ∈ wsX5_read := by decide +kernel
theorem lk_X5_read_33 : Cond.fieldLink RX5 33 "CuckooShares$Roll" "lines" "I" ∈ wsX5_read := by decide +kernel
abbrev L_X5_read : List Rc := [(28, 28, 6, 6), (1, 1, 7, 10), (368, 368, 0, 39), (369, 369, 0, 39), (370, 370, 0, 39), (1, 1, 12, 14)]
def P_X5_read (σ0 : Nat → Nat → Int32)  (r : Int32) (σ : Nat → Nat → Int32) : Prop := Rg σ ∧ Fr L_X5_read σ0 σ ∧ (0 ≤ r.toInt ∧ r.toInt ≤ 1) ∧ RI σ
def J_X5_read_5 (p : Program) (l : Launch) (e : Env) (s : State) (m : MethodId) (args : Array Value) (below : List Frame) (meth : Method) (c : Code) (D : va_G) (cA : Nat → ClassId) (ad : Nat → Nat) (σ0 : Nat → Nat → Int32)  (n : Nat) : Prop := ∀ (σ : Nat → Nat → Int32) (τ : Nat → Nat → Int64) (H : Heap) (locs : List Loc)  (ls : Array Slot), Rg σ → Fr L_X5_read σ0 σ → va_P D vwCl (gw cA ad σ τ) H → va_S (AA ad) s.heap H locs → (0 ≤ (σ 28 6).toInt ∧ (σ 28 6).toInt ≤ 41) → (RI σ) → lv_has ls 1 [(0, .ref (ad 28))] → 2 * (41 - (σ 28 6).toInt) + 1 < (n : Int) → W p l e ({ frames := 5, cells := 0, slots := 0, locals := 110 } : Room) s m args below meth c H locs 0 0 (MQ below (va_Qi (fun (r : Int32) (u : SS) => P_X5_read σ0 r u.1) (WB D cA ad) (AA ad)) args s 0 0 (AA ad)) (F0 m 5 ls [])
set_option maxHeartbeats 4000000 in
theorem B_X5_read_5 (p : Program) (l : Launch) (e : Env) (s : State) (m : MethodId) (args : Array Value) (below : List Frame) (meth : Method) (c : Code) (D : va_G) (cA : Nat → ClassId) (ad : Nat → Nat) (σ0 : Nat → Nat → Int32)  (n : Nat) (C : Cy p s m args meth c cX5_read 1 wsX5_read RX5 D cA ad (some .boolean)) (gRI : RI σ0) (K5 : J_X5_read_5 p l e s m args below meth c D cA ad σ0  n) : J_X5_read_5 p l e s m args below meth c D cA ad σ0  (n + 1) := by
  obtain ⟨hx, hb, hml, hown, hts, hK, hk, hr, hI, hN⟩ := C
  intro σ τ H locs ls hR hF hP hS hc0 gRI hl hm
  refine lv_aload_n hx hb dX5_read_5 rfl (lv_at hl 0 rfl) ?_
  refine fg_5_0 (k := 28) hx hb hts in_X5_read_5 hown hK hP (by decide) (by decide) (hts _ lk_X5_read_21) dX5_read_6 ?_
  refine fgN_8_9 (k := 1) hx hb hts in_X5_read_8 hown hK hP (by decide) (by decide) (hN.use nw_5_37) dX5_read_9 ?_
  refine r_bipush hx hb dX5_read_12 (by decide) (fun z1 ez1 => ?_)
  refine r_icmp_eq (tgt := 60) hx hb dX5_read_14 (by decide) (fun c2 => ?_) (fun c2 => ?_)
  · refine r_iconst hx hb dX5_read_60 (by decide) (fun z3 ez3 => ?_)
    exact r_zret hx hb hr hK hP hS hk (by omega) dX5_read_61 (show P_X5_read σ0 z3 σ from ⟨hR, hF, by omega, gRI⟩)
  · refine lv_aload_n hx hb dX5_read_17 rfl (lv_at hl 0 rfl) ?_
    refine fg_5_6 (k := 28) hx hb hts in_X5_read_5 hown hK hP (by decide) (by decide) (hts _ lk_X5_read_33) dX5_read_18 ?_
    refine r_bipush hx hb dX5_read_21 (by decide) (fun z4 ez4 => ?_)
    refine r_icmp_gt (tgt := 60) hx hb dX5_read_23 (by decide) (fun c5 => ?_) (fun c5 => ?_)
    · refine r_iconst hx hb dX5_read_60 (by decide) (fun z6 ez6 => ?_)
      exact r_zret hx hb hr hK hP hS hk (by omega) dX5_read_61 (show P_X5_read σ0 z6 σ from ⟨hR, hF, by omega, gRI⟩)
    · refine lv_aload_n hx hb dX5_read_26 rfl (lv_at hl 0 rfl) ?_
      refine r_cVi (k := 28) (As := []) (rest := []) ⟨hx, hb, hml, hown, hts⟩ hK hP hN hS (c_X5_readLine l D cA ad hI σ τ hR gRI) (cwV 0 hts gX5_read_X5_readLine rfl rfl rfl (by decide +kernel) ⟨by decide, by decide⟩) (rv_Roll hK hP (by decide) (by decide)) rfl hl.1 rfl (Nat.le_of_ble_eq_true rfl) dX5_read_27 (Nat.zero_le _) (Nat.zero_le _) (fun r7 u7 H7 locs7 hp7 hP hS => ?_)
      obtain ⟨σ7, τ7⟩ := u7
      obtain ⟨hR, f7, hq7, gnRI⟩ : P_X5_readLine σ r7 σ7 := hp7
      have hP : va_P D vwCl (gw cA ad σ7 τ7) H7 := hP
      have hF := hF.step f7 (by decide)
      have t8 : (σ7 28 6).toInt = (σ 28 6).toInt := congrArg Int32.toInt (f7.at 28 6 (by decide))
      have gRI := gnRI
      refine r_if_eq (tgt := 45) hx hb dX5_read_30 (by decide) (fun c9 => ?_) (fun c9 => ?_)
      · refine r_iconst hx hb dX5_read_45 (by decide) (fun z10 ez10 => ?_)
        exact r_zret hx hb hr hK hP hS hk (by omega) dX5_read_46 (show P_X5_read σ0 z10 σ7 from ⟨hR, hF, by omega, gRI⟩)
      · refine lv_aload_n hx hb dX5_read_33 rfl (lv_at hl 0 rfl) ?_
        refine fg_5_0 (k := 28) hx hb hts in_X5_read_5 hown hK hP (by decide) (by decide) (hts _ lk_X5_read_21) dX5_read_34 ?_
        refine r_bipush hx hb dX5_read_37 (by decide) (fun z11 ez11 => ?_)
        refine r_cVi (k := 1) (As := [.int z11]) (rest := []) ⟨hx, hb, hml, hown, hts⟩ hK hP hN hS (c_X8_take l D cA ad hI σ7 τ7 hR z11 (by omega)) (cwV 1 hts gX5_read_X8_take rfl rfl rfl (by decide +kernel) ⟨by decide, by decide⟩) (rv_Tape hK hP (by decide) (by decide)) rfl hl.1 rfl (Nat.le_of_ble_eq_true rfl) dX5_read_39 (Nat.zero_le _) (Nat.zero_le _) (fun r12 u12 H12 locs12 hp12 hP hS => ?_)
        obtain ⟨σ12, τ12⟩ := u12
        obtain ⟨hR, f12, hq12⟩ : P_X8_take σ7 z11 r12 σ12 := hp12
        have hP : va_P D vwCl (gw cA ad σ12 τ12) H12 := hP
        have hF := hF.step f12 (by decide)
        have gRI := RI.fr gRI f12 (by decide)
        have t13 : (σ12 28 6).toInt = (σ7 28 6).toInt := congrArg Int32.toInt (f12.at 28 6 (by decide))
        refine r_if_ne (tgt := 47) hx hb dX5_read_42 (by decide) (fun c14 => ?_) (fun c14 => ?_)
        · refine lv_aload_n hx hb dX5_read_47 rfl (lv_at hl 0 rfl) ?_
          refine lv_dup hx hb dX5_read_48 rfl ?_
          refine fg_5_6 (k := 28) hx hb hts in_X5_read_5 hown hK hP (by decide) (by decide) (hts _ lk_X5_read_33) dX5_read_49 ?_
          refine r_iconst hx hb dX5_read_52 (by decide) (fun z15 ez15 => ?_)
          refine r_iadd hx hb dX5_read_53 (by omega) (fun z16 ez16 => ?_)
          refine fp_5_6 (k := 28) hx hb hts in_X5_read_5 hown hK hP (by decide) (by decide) (hts _ lk_X5_read_33) hI hR hS (by omega) dX5_read_54 (fun σ17 H17 locs17 u17 v17 hR hP hS => ?_)
          have hF := hF.puts u17 0 rfl (by decide) (by decide) (by decide) (by decide)
          have gRI := RI.put gRI u17 (by decide)
          refine lv_goto (tgt := 5) hx hb dX5_read_57 (by decide) ?_
          exact K5 σ17 τ12 H17 locs17  ls hR hF hP hS (by omega) gRI (lv_sub hl [0] rfl) (by omega)
        · refine r_iconst hx hb dX5_read_45 (by decide) (fun z18 ez18 => ?_)
          exact r_zret hx hb hr hK hP hS hk (by omega) dX5_read_46 (show P_X5_read σ0 z18 σ12 from ⟨hR, hF, by omega, gRI⟩)
theorem A_X5_read (p : Program) (l : Launch) (e : Env) (s : State) (m : MethodId) (args : Array Value) (below : List Frame) (meth : Method) (c : Code) (D : va_G) (cA : Nat → ClassId) (ad : Nat → Nat) (σ0 : Nat → Nat → Int32)  (C : Cy p s m args meth c cX5_read 1 wsX5_read RX5 D cA ad (some .boolean)) (gRI : RI σ0) : ∀ n : Nat, J_X5_read_5 p l e s m args below meth c D cA ad σ0  n := by
  intro n
  induction n with
  | zero =>
    exact (by intro σ τ H locs ls hR hF hP hS hc0 gRI hl hm; exfalso; omega)
  | succ n ih =>
    exact B_X5_read_5 p l e s m args below meth c D cA ad σ0  n C gRI ih
set_option maxHeartbeats 4000000 in
theorem c_X5_read (l : Launch) (D : va_G) (cA : Nat → ClassId) (ad : Nat → Nat) (hI : Inj ad) (σ0 : Nat → Nat → Int32) (τ0 : Nat → Nat → Int64) (hR : Rg σ0)  (gRI : RI σ0) : Met l yX5_read wsX5_read ({ frames := 5, cells := 0, slots := 0, locals := 110 } : Room) (WQc D cA ad [.ref (ad 28)] σ0 τ0) (va_Qi (fun (r : Int32) (u : SS) => P_X5_read σ0 r u.1) (WB D cA ad) (AA ad)) 0 0 (AA ad) := by
  refine Met.ofW (cc := cX5_read) (maxL := 1) (ret := (some .boolean)) (by decide) rfl ?_
  intro p e s m args below meth c s₁ B hml hv
  obtain ⟨rfl, hP, hK, hN⟩ := hv
  have C : Cy p s m _ meth c cX5_read 1 wsX5_read RX5 D cA ad (some .boolean) := ⟨B.exec, B.bytes, hml, findClass_of_methodNamed B.named, atoms_spec (ws := wsX5_read) B.pre, hK, B.notSynchronized, B.returns, hI, hN⟩
  have hl := lv_entry ([.ref (ad 28)]) (n := 1) (Nat.le_of_ble_eq_true rfl)
  rw [lg_entry_eq]
  generalize (lg_sl ([.ref (ad 28)]) ++ List.replicate (1 - (lg_sl ([.ref (ad 28)])).length) Slot.unset).toArray = ls at hl ⊢
  have hl : lv_has ls 1 [(0, .ref (ad 28))] := hl
  have hS : va_S (AA ad) s.heap s.heap [] := va_S.rf
  have hF : Fr L_X5_read σ0 σ0 := Fr.rf
  have hA := A_X5_read p l e s m _ below meth c D cA ad σ0  C gRI 174
  have K5 := hA
  clear hA
  obtain ⟨hx, hb, _, hown, hts, _, hk, hr, _, _⟩ := C
  refine lv_aload_n hx hb dX5_read_0 rfl (lv_at hl 0 rfl) ?_
  refine r_iconst hx hb dX5_read_1 (by decide) (fun z1 ez1 => ?_)
  refine fp_5_6 (k := 28) hx hb hts in_X5_read_5 hown hK hP (by decide) (by decide) (hts _ lk_X5_read_33) hI hR hS (by omega) dX5_read_2 (fun σ2 H2 locs2 u2 v2 hR hP hS => ?_)
  have hF := hF.puts u2 0 rfl (by decide) (by decide) (by decide) (by decide)
  have gRI := RI.put gRI u2 (by decide)
  exact K5 σ2 τ0 H2 locs2  ls hR hF hP hS (by omega) gRI (lv_sub hl [0] rfl) (by omega)
theorem cn_X6_copyFrom : Cond.native arraycopyName ∈ wsX6_copyFrom := by decide +kernel
theorem cs_X6_copyFrom : Cond.static arraycopyName ∈ wsX6_copyFrom := by decide +kernel
theorem ci_X6_copyFrom : Cond.initialized "java/lang/System" ∈ wsX6_copyFrom := by decide +kernel
theorem in_X6_copyFrom_6 : ∀ w ∈ u_ws RX6 TX6 7, w ∈ wsX6_copyFrom := by decide +kernel
theorem lk_X6_copyFrom_15 : Cond.fieldLink RX6 15 "CuckooShares$Sentence" "sign" "[I" ∈ wsX6_copyFrom := by decide +kernel
theorem lk_X6_copyFrom_18 : Cond.fieldLink RX6 18 "CuckooShares$Sentence" "value" "[I" ∈ wsX6_copyFrom := by decide +kernel
theorem lk_X6_copyFrom_24 : Cond.fieldLink RX6 24 "CuckooShares$Sentence" "told" "Z" ∈ wsX6_copyFrom := by decide +kernel
theorem lk_X6_copyFrom_28 : Cond.fieldLink RX6 28 "CuckooShares$Sentence" "ones" "I" ∈ wsX6_copyFrom := by decide +kernel
theorem lk_X6_copyFrom_32 : Cond.fieldLink RX6 32 "CuckooShares$Sentence" "steps" "I" ∈ wsX6_copyFrom := by decide +kernel
theorem lk_X6_copyFrom_35 : Cond.methodLink RX6 35 arraycopyName ∈ wsX6_copyFrom := by decide +kernel
theorem lk_X6_copyFrom_9 : Cond.fieldLink RX6 9 "CuckooShares$Sentence" "word" "[I" ∈ wsX6_copyFrom := by decide +kernel
abbrev L_X6_copyFrom : List Rc := [(23, 26, 0, 2), (371, 374, 0, 40), (375, 378, 0, 40), (379, 382, 0, 40)]
def P_X6_copyFrom (σ0 : Nat → Nat → Int32) (k0 : Nat) (k1 : Nat) (σ : Nat → Nat → Int32) : Prop := Rg σ ∧ Fr L_X6_copyFrom σ0 σ
set_option maxHeartbeats 4000000 in
theorem c_X6_copyFrom (l : Launch) (D : va_G) (cA : Nat → ClassId) (ad : Nat → Nat) (hI : Inj ad) (σ0 : Nat → Nat → Int32) (τ0 : Nat → Nat → Int64) (hR : Rg σ0) (k0 : Nat) (k1 : Nat) (hk0 : 23 ≤ k0 ∧ k0 ≤ 26) (hk1 : 23 ≤ k1 ∧ k1 ≤ 26) : Met l yX6_copyFrom wsX6_copyFrom ({ frames := 1, cells := 0, slots := 0, locals := 60 } : Room) (WQc D cA ad [.ref (ad k0), .ref (ad k1)] σ0 τ0) (va_Qv (fun u : SS => P_X6_copyFrom σ0 k0 k1 u.1) (WB D cA ad) (AA ad)) 0 0 (AA ad) := by
  refine Met.ofW (cc := cX6_copyFrom) (maxL := 2) (ret := none) (by decide) rfl ?_
  intro p e s m args below meth c s₁ B hml hv
  obtain ⟨rfl, hP, hK, hN⟩ := hv
  have C : Cy p s m _ meth c cX6_copyFrom 2 wsX6_copyFrom RX6 D cA ad none := ⟨B.exec, B.bytes, hml, findClass_of_methodNamed B.named, atoms_spec (ws := wsX6_copyFrom) B.pre, hK, B.notSynchronized, B.returns, hI, hN⟩
  have hl := lv_entry ([.ref (ad k0), .ref (ad k1)]) (n := 2) (Nat.le_of_ble_eq_true rfl)
  rw [lg_entry_eq]
  generalize (lg_sl ([.ref (ad k0), .ref (ad k1)]) ++ List.replicate (2 - (lg_sl ([.ref (ad k0), .ref (ad k1)])).length) Slot.unset).toArray = ls at hl ⊢
  have hl : lv_has ls 2 [(0, .ref (ad k0)), (1, .ref (ad k1))] := hl
  have hS : va_S (AA ad) s.heap s.heap [] := va_S.rf
  have hF : Fr L_X6_copyFrom σ0 σ0 := Fr.rf
  obtain ⟨hx, hb, _, hown, hts, _, hk, hr, _, _⟩ := C
  refine lv_aload_n hx hb dX6_copyFrom_0 rfl (lv_at hl 0 rfl) ?_
  refine lv_aload_n hx hb dX6_copyFrom_1 rfl (lv_at hl 1 rfl) ?_
  refine fg_6_0 (k := k1) hx hb hts in_X6_copyFrom_6 hown hK hP (by omega) (by omega) (hts _ lk_X6_copyFrom_24) dX6_copyFrom_2 ?_
  have hr1 := rg_6_0 hR (k := k1) (by omega) (by omega)
  refine fp_6_0 (k := k0) hx hb hts in_X6_copyFrom_6 hown hK hP (by omega) (by omega) (hts _ lk_X6_copyFrom_24) hI hR hS (by omega) dX6_copyFrom_5 (fun σ2 H2 locs2 u2 v2 hR hP hS => ?_)
  have hF := hF.puts u2 0 rfl (by omega) (by omega) (by decide) (by decide)
  refine lv_aload_n hx hb dX6_copyFrom_8 rfl (lv_at hl 0 rfl) ?_
  refine lv_aload_n hx hb dX6_copyFrom_9 rfl (lv_at hl 1 rfl) ?_
  refine fg_6_1 (k := k1) hx hb hts in_X6_copyFrom_6 hown hK hP (by omega) (by omega) (hts _ lk_X6_copyFrom_28) dX6_copyFrom_10 ?_
  have hr3 := rg_6_1 hR (k := k1) (by omega) (by omega)
  refine fp_6_1 (k := k0) hx hb hts in_X6_copyFrom_6 hown hK hP (by omega) (by omega) (hts _ lk_X6_copyFrom_28) hI hR hS (by omega) dX6_copyFrom_13 (fun σ4 H4 locs4 u4 v4 hR hP hS => ?_)
  have hF := hF.puts u4 0 rfl (by omega) (by omega) (by decide) (by decide)
  refine lv_aload_n hx hb dX6_copyFrom_16 rfl (lv_at hl 0 rfl) ?_
  refine lv_aload_n hx hb dX6_copyFrom_17 rfl (lv_at hl 1 rfl) ?_
  refine fg_6_2 (k := k1) hx hb hts in_X6_copyFrom_6 hown hK hP (by omega) (by omega) (hts _ lk_X6_copyFrom_32) dX6_copyFrom_18 ?_
  have hr5 := rg_6_2 hR (k := k1) (by omega) (by omega)
  refine fp_6_2 (k := k0) hx hb hts in_X6_copyFrom_6 hown hK hP (by omega) (by omega) (hts _ lk_X6_copyFrom_32) hI hR hS (by omega) dX6_copyFrom_21 (fun σ6 H6 locs6 u6 v6 hR hP hS => ?_)
  have hF := hF.puts u6 0 rfl (by omega) (by omega) (by decide) (by decide)
  refine lv_aload_n hx hb dX6_copyFrom_24 rfl (lv_at hl 1 rfl) ?_
  refine fg_6_3 (k := k1) hx hb hts in_X6_copyFrom_6 hown hK hP (by omega) (by omega) (hts _ lk_X6_copyFrom_9) dX6_copyFrom_25 ?_
  refine r_iconst hx hb dX6_copyFrom_28 (by decide) (fun z7 ez7 => ?_)
  refine lv_aload_n hx hb dX6_copyFrom_29 rfl (lv_at hl 0 rfl) ?_
  refine fg_6_3 (k := k0) hx hb hts in_X6_copyFrom_6 hown hK hP (by omega) (by omega) (hts _ lk_X6_copyFrom_9) dX6_copyFrom_30 ?_
  refine r_iconst hx hb dX6_copyFrom_33 (by decide) (fun z8 ez8 => ?_)
  refine r_bipush hx hb dX6_copyFrom_34 (by decide) (fun z9 ez9 => ?_)
  refine cp_sent40 (k := k0 + 348) (q := k1 + 348) hx hb (by rw [hml]; exact hl.1.symm) hown (hts _ lk_X6_copyFrom_35) (hts _ cn_X6_copyFrom) (hts _ cs_X6_copyFrom) (hts _ ci_X6_copyFrom) hK hP hI hR hS (by omega) (by omega) (by omega) (by omega) (by omega) (by omega) (by omega) (by decide) (Nat.le_of_ble_eq_true rfl) dX6_copyFrom_36 (fun σ10 H10 locs10 u10 hR hP hS => ?_)
  have hF := hF.row u10 1 rfl (by omega) (by omega) (by decide) (by decide)
  refine lv_aload_n hx hb dX6_copyFrom_39 rfl (lv_at hl 1 rfl) ?_
  refine fg_6_4 (k := k1) hx hb hts in_X6_copyFrom_6 hown hK hP (by omega) (by omega) (hts _ lk_X6_copyFrom_15) dX6_copyFrom_40 ?_
  refine r_iconst hx hb dX6_copyFrom_43 (by decide) (fun z11 ez11 => ?_)
  refine lv_aload_n hx hb dX6_copyFrom_44 rfl (lv_at hl 0 rfl) ?_
  refine fg_6_4 (k := k0) hx hb hts in_X6_copyFrom_6 hown hK hP (by omega) (by omega) (hts _ lk_X6_copyFrom_15) dX6_copyFrom_45 ?_
  refine r_iconst hx hb dX6_copyFrom_48 (by decide) (fun z12 ez12 => ?_)
  refine r_bipush hx hb dX6_copyFrom_49 (by decide) (fun z13 ez13 => ?_)
  refine cp_sent40 (k := k0 + 352) (q := k1 + 352) hx hb (by rw [hml]; exact hl.1.symm) hown (hts _ lk_X6_copyFrom_35) (hts _ cn_X6_copyFrom) (hts _ cs_X6_copyFrom) (hts _ ci_X6_copyFrom) hK hP hI hR hS (by omega) (by omega) (by omega) (by omega) (by omega) (by omega) (by omega) (by decide) (Nat.le_of_ble_eq_true rfl) dX6_copyFrom_51 (fun σ14 H14 locs14 u14 hR hP hS => ?_)
  have hF := hF.row u14 2 rfl (by omega) (by omega) (by decide) (by decide)
  refine lv_aload_n hx hb dX6_copyFrom_54 rfl (lv_at hl 1 rfl) ?_
  refine fg_6_5 (k := k1) hx hb hts in_X6_copyFrom_6 hown hK hP (by omega) (by omega) (hts _ lk_X6_copyFrom_18) dX6_copyFrom_55 ?_
  refine r_iconst hx hb dX6_copyFrom_58 (by decide) (fun z15 ez15 => ?_)
  refine lv_aload_n hx hb dX6_copyFrom_59 rfl (lv_at hl 0 rfl) ?_
  refine fg_6_5 (k := k0) hx hb hts in_X6_copyFrom_6 hown hK hP (by omega) (by omega) (hts _ lk_X6_copyFrom_18) dX6_copyFrom_60 ?_
  refine r_iconst hx hb dX6_copyFrom_63 (by decide) (fun z16 ez16 => ?_)
  refine r_bipush hx hb dX6_copyFrom_64 (by decide) (fun z17 ez17 => ?_)
  refine cp_sent40 (k := k0 + 356) (q := k1 + 356) hx hb (by rw [hml]; exact hl.1.symm) hown (hts _ lk_X6_copyFrom_35) (hts _ cn_X6_copyFrom) (hts _ cs_X6_copyFrom) (hts _ ci_X6_copyFrom) hK hP hI hR hS (by omega) (by omega) (by omega) (by omega) (by omega) (by omega) (by omega) (by decide) (Nat.le_of_ble_eq_true rfl) dX6_copyFrom_66 (fun σ18 H18 locs18 u18 hR hP hS => ?_)
  have hF := hF.row u18 3 rfl (by omega) (by omega) (by decide) (by decide)
  exact r_vret hx hb hr hK hP hS hk dX6_copyFrom_69 (show P_X6_copyFrom σ0 k0 k1 σ18 from ⟨hR, hF⟩)
theorem in_X6_add_6 : ∀ w ∈ u_ws RX6 TX6 7, w ∈ wsX6_add := by decide +kernel
theorem lk_X6_add_15 : Cond.fieldLink RX6 15 "CuckooShares$Sentence" "sign" "[I" ∈ wsX6_add := by decide +kernel
theorem lk_X6_add_18 : Cond.fieldLink RX6 18 "CuckooShares$Sentence" "value" "[I" ∈ wsX6_add := by decide +kernel
theorem lk_X6_add_32 : Cond.fieldLink RX6 32 "CuckooShares$Sentence" "steps" "I" ∈ wsX6_add := by decide +kernel
theorem lk_X6_add_9 : Cond.fieldLink RX6 9 "CuckooShares$Sentence" "word" "[I" ∈ wsX6_add := by decide +kernel
abbrev L_X6_add : List Rc := [(372, 372, 0, 39), (376, 376, 0, 39), (380, 380, 0, 39), (24, 24, 2, 2)]
def P_X6_add (σ0 : Nat → Nat → Int32) (a1 : Int32) (a2 : Int32) (a3 : Int32) (r : Int32) (σ : Nat → Nat → Int32) : Prop := Rg σ ∧ Fr L_X6_add σ0 σ ∧ (0 ≤ r.toInt ∧ r.toInt ≤ 1)
set_option maxHeartbeats 4000000 in
theorem c_X6_add (l : Launch) (D : va_G) (cA : Nat → ClassId) (ad : Nat → Nat) (hI : Inj ad) (σ0 : Nat → Nat → Int32) (τ0 : Nat → Nat → Int64) (hR : Rg σ0) (a1 : Int32) (a2 : Int32) (a3 : Int32) (ha2 : -1 ≤ a2.toInt ∧ a2.toInt ≤ 45) : Met l yX6_add wsX6_add ({ frames := 0, cells := 0, slots := 0, locals := 0 } : Room) (WQc D cA ad [.ref (ad 24), .int a1, .int a2, .int a3] σ0 τ0) (va_Qi (fun (r : Int32) (u : SS) => P_X6_add σ0 a1 a2 a3 r u.1) (WB D cA ad) (AA ad)) 0 0 (AA ad) := by
  refine Met.ofW (cc := cX6_add) (maxL := 4) (ret := (some .boolean)) (by decide) rfl ?_
  intro p e s m args below meth c s₁ B hml hv
  obtain ⟨rfl, hP, hK, hN⟩ := hv
  have C : Cy p s m _ meth c cX6_add 4 wsX6_add RX6 D cA ad (some .boolean) := ⟨B.exec, B.bytes, hml, findClass_of_methodNamed B.named, atoms_spec (ws := wsX6_add) B.pre, hK, B.notSynchronized, B.returns, hI, hN⟩
  have hl := lv_entry ([.ref (ad 24), .int a1, .int a2, .int a3]) (n := 4) (Nat.le_of_ble_eq_true rfl)
  rw [lg_entry_eq]
  generalize (lg_sl ([.ref (ad 24), .int a1, .int a2, .int a3]) ++ List.replicate (4 - (lg_sl ([.ref (ad 24), .int a1, .int a2, .int a3])).length) Slot.unset).toArray = ls at hl ⊢
  have hl : lv_has ls 4 [(0, .ref (ad 24)), (1, .int a1), (2, .int a2), (3, .int a3)] := hl
  have hS : va_S (AA ad) s.heap s.heap [] := va_S.rf
  have hF : Fr L_X6_add σ0 σ0 := Fr.rf
  obtain ⟨hx, hb, _, hown, hts, _, hk, hr, _, _⟩ := C
  refine lv_aload_n hx hb dX6_add_0 rfl (lv_at hl 0 rfl) ?_
  refine fg_6_2 (k := 24) hx hb hts in_X6_add_6 hown hK hP (by decide) (by decide) (hts _ lk_X6_add_32) dX6_add_1 ?_
  have hr1 := rg_6_2 hR (k := 24) (by decide) (by decide)
  refine r_bipush hx hb dX6_add_4 (by decide) (fun z2 ez2 => ?_)
  refine r_icmp_lt (tgt := 11) hx hb dX6_add_6 (by decide) (fun c3 => ?_) (fun c3 => ?_)
  · refine lv_aload_n hx hb dX6_add_11 rfl (lv_at hl 0 rfl) ?_
    refine fg_6_3 (k := 24) hx hb hts in_X6_add_6 hown hK hP (by decide) (by decide) (hts _ lk_X6_add_9) dX6_add_12 ?_
    refine lv_aload_n hx hb dX6_add_15 rfl (lv_at hl 0 rfl) ?_
    refine fg_6_2 (k := 24) hx hb hts in_X6_add_6 hown hK hP (by decide) (by decide) (hts _ lk_X6_add_32) dX6_add_16 ?_
    refine lv_iload_n hx hb dX6_add_19 rfl (lv_at hl 1 rfl) ?_
    obtain ⟨j4, ej4⟩ : ∃ j : Nat, (σ0 24 2).toInt = (j : Int) := ⟨_, ti_nat (by omega)⟩
    refine as_sent40 (k := 372) (j := j4) hx hb hK hP hI hR hS (by decide) (by decide) ej4 (by omega) dX6_add_20 (fun σ5 H5 locs5 u5 v5 hR hP hS => ?_)
    have hF := hF.puts u5 0 rfl (by decide) (by decide) (by omega) (by omega)
    have t6 : (σ5 24 2).toInt = (σ0 24 2).toInt := congrArg Int32.toInt (u5 24 2 (by omega))
    refine lv_aload_n hx hb dX6_add_21 rfl (lv_at hl 0 rfl) ?_
    refine fg_6_4 (k := 24) hx hb hts in_X6_add_6 hown hK hP (by decide) (by decide) (hts _ lk_X6_add_15) dX6_add_22 ?_
    refine lv_aload_n hx hb dX6_add_25 rfl (lv_at hl 0 rfl) ?_
    refine fg_6_2 (k := 24) hx hb hts in_X6_add_6 hown hK hP (by decide) (by decide) (hts _ lk_X6_add_32) dX6_add_26 ?_
    refine lv_iload_n hx hb dX6_add_29 rfl (lv_at hl 2 rfl) ?_
    obtain ⟨j7, ej7⟩ : ∃ j : Nat, (σ5 24 2).toInt = (j : Int) := ⟨_, ti_nat (by omega)⟩
    refine as_sent40 (k := 376) (j := j7) hx hb hK hP hI hR hS (by decide) (by decide) ej7 (by omega) dX6_add_30 (fun σ8 H8 locs8 u8 v8 hR hP hS => ?_)
    have hF := hF.puts u8 1 rfl (by decide) (by decide) (by omega) (by omega)
    have t9 : (σ8 24 2).toInt = (σ5 24 2).toInt := congrArg Int32.toInt (u8 24 2 (by omega))
    refine lv_aload_n hx hb dX6_add_31 rfl (lv_at hl 0 rfl) ?_
    refine fg_6_5 (k := 24) hx hb hts in_X6_add_6 hown hK hP (by decide) (by decide) (hts _ lk_X6_add_18) dX6_add_32 ?_
    refine lv_aload_n hx hb dX6_add_35 rfl (lv_at hl 0 rfl) ?_
    refine fg_6_2 (k := 24) hx hb hts in_X6_add_6 hown hK hP (by decide) (by decide) (hts _ lk_X6_add_32) dX6_add_36 ?_
    refine lv_iload_n hx hb dX6_add_39 rfl (lv_at hl 3 rfl) ?_
    obtain ⟨j10, ej10⟩ : ∃ j : Nat, (σ8 24 2).toInt = (j : Int) := ⟨_, ti_nat (by omega)⟩
    refine as_sent40 (k := 380) (j := j10) hx hb hK hP hI hR hS (by decide) (by decide) ej10 (by omega) dX6_add_40 (fun σ11 H11 locs11 u11 v11 hR hP hS => ?_)
    have hF := hF.puts u11 2 rfl (by decide) (by decide) (by omega) (by omega)
    have t12 : (σ11 24 2).toInt = (σ8 24 2).toInt := congrArg Int32.toInt (u11 24 2 (by omega))
    refine lv_aload_n hx hb dX6_add_41 rfl (lv_at hl 0 rfl) ?_
    refine lv_dup hx hb dX6_add_42 rfl ?_
    refine fg_6_2 (k := 24) hx hb hts in_X6_add_6 hown hK hP (by decide) (by decide) (hts _ lk_X6_add_32) dX6_add_43 ?_
    refine r_iconst hx hb dX6_add_46 (by decide) (fun z13 ez13 => ?_)
    refine r_iadd hx hb dX6_add_47 (by omega) (fun z14 ez14 => ?_)
    refine fp_6_2 (k := 24) hx hb hts in_X6_add_6 hown hK hP (by decide) (by decide) (hts _ lk_X6_add_32) hI hR hS (by omega) dX6_add_48 (fun σ15 H15 locs15 u15 v15 hR hP hS => ?_)
    have hF := hF.puts u15 3 rfl (by decide) (by decide) (by decide) (by decide)
    refine r_iconst hx hb dX6_add_51 (by decide) (fun z16 ez16 => ?_)
    exact r_zret hx hb hr hK hP hS hk (by omega) dX6_add_52 (show P_X6_add σ0 a1 a2 a3 z16 σ15 from ⟨hR, hF, by omega⟩)
  · refine r_iconst hx hb dX6_add_9 (by decide) (fun z17 ez17 => ?_)
    exact r_zret hx hb hr hK hP hS hk (by omega) dX6_add_10 (show P_X6_add σ0 a1 a2 a3 z17 σ0 from ⟨hR, hF, by omega⟩)
abbrev L_X7_beginsOne : List Rc := []
def P_X7_beginsOne (σ0 : Nat → Nat → Int32) (a0 : Int32) (r : Int32) (σ : Nat → Nat → Int32) : Prop := Rg σ ∧ Fr L_X7_beginsOne σ0 σ ∧ (0 ≤ r.toInt ∧ r.toInt ≤ 1)
set_option maxHeartbeats 4000000 in
theorem c_X7_beginsOne (l : Launch) (D : va_G) (cA : Nat → ClassId) (ad : Nat → Nat) (hI : Inj ad) (σ0 : Nat → Nat → Int32) (τ0 : Nat → Nat → Int64) (hR : Rg σ0) (a0 : Int32)  : Met l yX7_beginsOne wsX7_beginsOne ({ frames := 0, cells := 0, slots := 0, locals := 0 } : Room) (WQc D cA ad [.int a0] σ0 τ0) (va_Qi (fun (r : Int32) (u : SS) => P_X7_beginsOne σ0 a0 r u.1) (WB D cA ad) (AA ad)) 0 0 (AA ad) := by
  refine Met.ofW (cc := cX7_beginsOne) (maxL := 1) (ret := (some .boolean)) (by decide) rfl ?_
  intro p e s m args below meth c s₁ B hml hv
  obtain ⟨rfl, hP, hK, hN⟩ := hv
  have C : Cy p s m _ meth c cX7_beginsOne 1 wsX7_beginsOne RX7 D cA ad (some .boolean) := ⟨B.exec, B.bytes, hml, findClass_of_methodNamed B.named, atoms_spec (ws := wsX7_beginsOne) B.pre, hK, B.notSynchronized, B.returns, hI, hN⟩
  have hl := lv_entry ([.int a0]) (n := 1) (Nat.le_of_ble_eq_true rfl)
  rw [lg_entry_eq]
  generalize (lg_sl ([.int a0]) ++ List.replicate (1 - (lg_sl ([.int a0])).length) Slot.unset).toArray = ls at hl ⊢
  have hl : lv_has ls 1 [(0, .int a0)] := hl
  have hS : va_S (AA ad) s.heap s.heap [] := va_S.rf
  have hF : Fr L_X7_beginsOne σ0 σ0 := Fr.rf
  obtain ⟨hx, hb, _, hown, hts, _, hk, hr, _, _⟩ := C
  refine lv_iload_n hx hb dX7_beginsOne_0 rfl (lv_at hl 0 rfl) ?_
  by_cases c1 : a0.toInt = 10
  · refine lv_tableIn (off := 155) (tgt := 156) hx hb dX7_beginsOne_1 (by omega) (by omega) (by rw [c1]; rfl) (by decide) ?_
    refine r_iconst hx hb dX7_beginsOne_156 (by decide) (fun z2 ez2 => ?_)
    exact r_zret hx hb hr hK hP hS hk (by omega) dX7_beginsOne_157 (show P_X7_beginsOne σ0 a0 z2 σ0 from ⟨hR, hF, by omega⟩)
  by_cases c3 : a0.toInt = 11
  · refine lv_tableIn (off := 155) (tgt := 156) hx hb dX7_beginsOne_1 (by omega) (by omega) (by rw [c3]; rfl) (by decide) ?_
    refine r_iconst hx hb dX7_beginsOne_156 (by decide) (fun z4 ez4 => ?_)
    exact r_zret hx hb hr hK hP hS hk (by omega) dX7_beginsOne_157 (show P_X7_beginsOne σ0 a0 z4 σ0 from ⟨hR, hF, by omega⟩)
  by_cases c5 : a0.toInt = 12
  · refine lv_tableIn (off := 157) (tgt := 158) hx hb dX7_beginsOne_1 (by omega) (by omega) (by rw [c5]; rfl) (by decide) ?_
    refine r_iconst hx hb dX7_beginsOne_158 (by decide) (fun z6 ez6 => ?_)
    exact r_zret hx hb hr hK hP hS hk (by omega) dX7_beginsOne_159 (show P_X7_beginsOne σ0 a0 z6 σ0 from ⟨hR, hF, by omega⟩)
  by_cases c7 : a0.toInt = 13
  · refine lv_tableIn (off := 157) (tgt := 158) hx hb dX7_beginsOne_1 (by omega) (by omega) (by rw [c7]; rfl) (by decide) ?_
    refine r_iconst hx hb dX7_beginsOne_158 (by decide) (fun z8 ez8 => ?_)
    exact r_zret hx hb hr hK hP hS hk (by omega) dX7_beginsOne_159 (show P_X7_beginsOne σ0 a0 z8 σ0 from ⟨hR, hF, by omega⟩)
  by_cases c9 : a0.toInt = 14
  · refine lv_tableIn (off := 157) (tgt := 158) hx hb dX7_beginsOne_1 (by omega) (by omega) (by rw [c9]; rfl) (by decide) ?_
    refine r_iconst hx hb dX7_beginsOne_158 (by decide) (fun z10 ez10 => ?_)
    exact r_zret hx hb hr hK hP hS hk (by omega) dX7_beginsOne_159 (show P_X7_beginsOne σ0 a0 z10 σ0 from ⟨hR, hF, by omega⟩)
  by_cases c11 : a0.toInt = 15
  · refine lv_tableIn (off := 157) (tgt := 158) hx hb dX7_beginsOne_1 (by omega) (by omega) (by rw [c11]; rfl) (by decide) ?_
    refine r_iconst hx hb dX7_beginsOne_158 (by decide) (fun z12 ez12 => ?_)
    exact r_zret hx hb hr hK hP hS hk (by omega) dX7_beginsOne_159 (show P_X7_beginsOne σ0 a0 z12 σ0 from ⟨hR, hF, by omega⟩)
  by_cases c13 : a0.toInt = 16
  · refine lv_tableIn (off := 157) (tgt := 158) hx hb dX7_beginsOne_1 (by omega) (by omega) (by rw [c13]; rfl) (by decide) ?_
    refine r_iconst hx hb dX7_beginsOne_158 (by decide) (fun z14 ez14 => ?_)
    exact r_zret hx hb hr hK hP hS hk (by omega) dX7_beginsOne_159 (show P_X7_beginsOne σ0 a0 z14 σ0 from ⟨hR, hF, by omega⟩)
  by_cases c15 : a0.toInt = 17
  · refine lv_tableIn (off := 157) (tgt := 158) hx hb dX7_beginsOne_1 (by omega) (by omega) (by rw [c15]; rfl) (by decide) ?_
    refine r_iconst hx hb dX7_beginsOne_158 (by decide) (fun z16 ez16 => ?_)
    exact r_zret hx hb hr hK hP hS hk (by omega) dX7_beginsOne_159 (show P_X7_beginsOne σ0 a0 z16 σ0 from ⟨hR, hF, by omega⟩)
  by_cases c17 : a0.toInt = 18
  · refine lv_tableIn (off := 157) (tgt := 158) hx hb dX7_beginsOne_1 (by omega) (by omega) (by rw [c17]; rfl) (by decide) ?_
    refine r_iconst hx hb dX7_beginsOne_158 (by decide) (fun z18 ez18 => ?_)
    exact r_zret hx hb hr hK hP hS hk (by omega) dX7_beginsOne_159 (show P_X7_beginsOne σ0 a0 z18 σ0 from ⟨hR, hF, by omega⟩)
  by_cases c19 : a0.toInt = 19
  · refine lv_tableIn (off := 157) (tgt := 158) hx hb dX7_beginsOne_1 (by omega) (by omega) (by rw [c19]; rfl) (by decide) ?_
    refine r_iconst hx hb dX7_beginsOne_158 (by decide) (fun z20 ez20 => ?_)
    exact r_zret hx hb hr hK hP hS hk (by omega) dX7_beginsOne_159 (show P_X7_beginsOne σ0 a0 z20 σ0 from ⟨hR, hF, by omega⟩)
  by_cases c21 : a0.toInt = 20
  · refine lv_tableIn (off := 157) (tgt := 158) hx hb dX7_beginsOne_1 (by omega) (by omega) (by rw [c21]; rfl) (by decide) ?_
    refine r_iconst hx hb dX7_beginsOne_158 (by decide) (fun z22 ez22 => ?_)
    exact r_zret hx hb hr hK hP hS hk (by omega) dX7_beginsOne_159 (show P_X7_beginsOne σ0 a0 z22 σ0 from ⟨hR, hF, by omega⟩)
  by_cases c23 : a0.toInt = 21
  · refine lv_tableIn (off := 157) (tgt := 158) hx hb dX7_beginsOne_1 (by omega) (by omega) (by rw [c23]; rfl) (by decide) ?_
    refine r_iconst hx hb dX7_beginsOne_158 (by decide) (fun z24 ez24 => ?_)
    exact r_zret hx hb hr hK hP hS hk (by omega) dX7_beginsOne_159 (show P_X7_beginsOne σ0 a0 z24 σ0 from ⟨hR, hF, by omega⟩)
  by_cases c25 : a0.toInt = 22
  · refine lv_tableIn (off := 155) (tgt := 156) hx hb dX7_beginsOne_1 (by omega) (by omega) (by rw [c25]; rfl) (by decide) ?_
    refine r_iconst hx hb dX7_beginsOne_156 (by decide) (fun z26 ez26 => ?_)
    exact r_zret hx hb hr hK hP hS hk (by omega) dX7_beginsOne_157 (show P_X7_beginsOne σ0 a0 z26 σ0 from ⟨hR, hF, by omega⟩)
  by_cases c27 : a0.toInt = 23
  · refine lv_tableIn (off := 155) (tgt := 156) hx hb dX7_beginsOne_1 (by omega) (by omega) (by rw [c27]; rfl) (by decide) ?_
    refine r_iconst hx hb dX7_beginsOne_156 (by decide) (fun z28 ez28 => ?_)
    exact r_zret hx hb hr hK hP hS hk (by omega) dX7_beginsOne_157 (show P_X7_beginsOne σ0 a0 z28 σ0 from ⟨hR, hF, by omega⟩)
  by_cases c29 : a0.toInt = 24
  · refine lv_tableIn (off := 155) (tgt := 156) hx hb dX7_beginsOne_1 (by omega) (by omega) (by rw [c29]; rfl) (by decide) ?_
    refine r_iconst hx hb dX7_beginsOne_156 (by decide) (fun z30 ez30 => ?_)
    exact r_zret hx hb hr hK hP hS hk (by omega) dX7_beginsOne_157 (show P_X7_beginsOne σ0 a0 z30 σ0 from ⟨hR, hF, by omega⟩)
  by_cases c31 : a0.toInt = 25
  · refine lv_tableIn (off := 155) (tgt := 156) hx hb dX7_beginsOne_1 (by omega) (by omega) (by rw [c31]; rfl) (by decide) ?_
    refine r_iconst hx hb dX7_beginsOne_156 (by decide) (fun z32 ez32 => ?_)
    exact r_zret hx hb hr hK hP hS hk (by omega) dX7_beginsOne_157 (show P_X7_beginsOne σ0 a0 z32 σ0 from ⟨hR, hF, by omega⟩)
  by_cases c33 : a0.toInt = 26
  · refine lv_tableIn (off := 155) (tgt := 156) hx hb dX7_beginsOne_1 (by omega) (by omega) (by rw [c33]; rfl) (by decide) ?_
    refine r_iconst hx hb dX7_beginsOne_156 (by decide) (fun z34 ez34 => ?_)
    exact r_zret hx hb hr hK hP hS hk (by omega) dX7_beginsOne_157 (show P_X7_beginsOne σ0 a0 z34 σ0 from ⟨hR, hF, by omega⟩)
  by_cases c35 : a0.toInt = 27
  · refine lv_tableIn (off := 155) (tgt := 156) hx hb dX7_beginsOne_1 (by omega) (by omega) (by rw [c35]; rfl) (by decide) ?_
    refine r_iconst hx hb dX7_beginsOne_156 (by decide) (fun z36 ez36 => ?_)
    exact r_zret hx hb hr hK hP hS hk (by omega) dX7_beginsOne_157 (show P_X7_beginsOne σ0 a0 z36 σ0 from ⟨hR, hF, by omega⟩)
  by_cases c37 : a0.toInt = 28
  · refine lv_tableIn (off := 155) (tgt := 156) hx hb dX7_beginsOne_1 (by omega) (by omega) (by rw [c37]; rfl) (by decide) ?_
    refine r_iconst hx hb dX7_beginsOne_156 (by decide) (fun z38 ez38 => ?_)
    exact r_zret hx hb hr hK hP hS hk (by omega) dX7_beginsOne_157 (show P_X7_beginsOne σ0 a0 z38 σ0 from ⟨hR, hF, by omega⟩)
  by_cases c39 : a0.toInt = 29
  · refine lv_tableIn (off := 155) (tgt := 156) hx hb dX7_beginsOne_1 (by omega) (by omega) (by rw [c39]; rfl) (by decide) ?_
    refine r_iconst hx hb dX7_beginsOne_156 (by decide) (fun z40 ez40 => ?_)
    exact r_zret hx hb hr hK hP hS hk (by omega) dX7_beginsOne_157 (show P_X7_beginsOne σ0 a0 z40 σ0 from ⟨hR, hF, by omega⟩)
  by_cases c41 : a0.toInt = 30
  · refine lv_tableIn (off := 155) (tgt := 156) hx hb dX7_beginsOne_1 (by omega) (by omega) (by rw [c41]; rfl) (by decide) ?_
    refine r_iconst hx hb dX7_beginsOne_156 (by decide) (fun z42 ez42 => ?_)
    exact r_zret hx hb hr hK hP hS hk (by omega) dX7_beginsOne_157 (show P_X7_beginsOne σ0 a0 z42 σ0 from ⟨hR, hF, by omega⟩)
  by_cases c43 : a0.toInt = 31
  · refine lv_tableIn (off := 157) (tgt := 158) hx hb dX7_beginsOne_1 (by omega) (by omega) (by rw [c43]; rfl) (by decide) ?_
    refine r_iconst hx hb dX7_beginsOne_158 (by decide) (fun z44 ez44 => ?_)
    exact r_zret hx hb hr hK hP hS hk (by omega) dX7_beginsOne_159 (show P_X7_beginsOne σ0 a0 z44 σ0 from ⟨hR, hF, by omega⟩)
  by_cases c45 : a0.toInt = 32
  · refine lv_tableIn (off := 157) (tgt := 158) hx hb dX7_beginsOne_1 (by omega) (by omega) (by rw [c45]; rfl) (by decide) ?_
    refine r_iconst hx hb dX7_beginsOne_158 (by decide) (fun z46 ez46 => ?_)
    exact r_zret hx hb hr hK hP hS hk (by omega) dX7_beginsOne_159 (show P_X7_beginsOne σ0 a0 z46 σ0 from ⟨hR, hF, by omega⟩)
  by_cases c47 : a0.toInt = 33
  · refine lv_tableIn (off := 157) (tgt := 158) hx hb dX7_beginsOne_1 (by omega) (by omega) (by rw [c47]; rfl) (by decide) ?_
    refine r_iconst hx hb dX7_beginsOne_158 (by decide) (fun z48 ez48 => ?_)
    exact r_zret hx hb hr hK hP hS hk (by omega) dX7_beginsOne_159 (show P_X7_beginsOne σ0 a0 z48 σ0 from ⟨hR, hF, by omega⟩)
  by_cases c49 : a0.toInt = 34
  · refine lv_tableIn (off := 157) (tgt := 158) hx hb dX7_beginsOne_1 (by omega) (by omega) (by rw [c49]; rfl) (by decide) ?_
    refine r_iconst hx hb dX7_beginsOne_158 (by decide) (fun z50 ez50 => ?_)
    exact r_zret hx hb hr hK hP hS hk (by omega) dX7_beginsOne_159 (show P_X7_beginsOne σ0 a0 z50 σ0 from ⟨hR, hF, by omega⟩)
  by_cases c51 : a0.toInt = 35
  · refine lv_tableIn (off := 157) (tgt := 158) hx hb dX7_beginsOne_1 (by omega) (by omega) (by rw [c51]; rfl) (by decide) ?_
    refine r_iconst hx hb dX7_beginsOne_158 (by decide) (fun z52 ez52 => ?_)
    exact r_zret hx hb hr hK hP hS hk (by omega) dX7_beginsOne_159 (show P_X7_beginsOne σ0 a0 z52 σ0 from ⟨hR, hF, by omega⟩)
  by_cases c53 : a0.toInt = 36
  · refine lv_tableIn (off := 157) (tgt := 158) hx hb dX7_beginsOne_1 (by omega) (by omega) (by rw [c53]; rfl) (by decide) ?_
    refine r_iconst hx hb dX7_beginsOne_158 (by decide) (fun z54 ez54 => ?_)
    exact r_zret hx hb hr hK hP hS hk (by omega) dX7_beginsOne_159 (show P_X7_beginsOne σ0 a0 z54 σ0 from ⟨hR, hF, by omega⟩)
  by_cases c55 : a0.toInt = 37
  · refine lv_tableIn (off := 157) (tgt := 158) hx hb dX7_beginsOne_1 (by omega) (by omega) (by rw [c55]; rfl) (by decide) ?_
    refine r_iconst hx hb dX7_beginsOne_158 (by decide) (fun z56 ez56 => ?_)
    exact r_zret hx hb hr hK hP hS hk (by omega) dX7_beginsOne_159 (show P_X7_beginsOne σ0 a0 z56 σ0 from ⟨hR, hF, by omega⟩)
  by_cases c57 : a0.toInt = 38
  · refine lv_tableIn (off := 157) (tgt := 158) hx hb dX7_beginsOne_1 (by omega) (by omega) (by rw [c57]; rfl) (by decide) ?_
    refine r_iconst hx hb dX7_beginsOne_158 (by decide) (fun z58 ez58 => ?_)
    exact r_zret hx hb hr hK hP hS hk (by omega) dX7_beginsOne_159 (show P_X7_beginsOne σ0 a0 z58 σ0 from ⟨hR, hF, by omega⟩)
  by_cases c59 : a0.toInt = 39
  · refine lv_tableIn (off := 157) (tgt := 158) hx hb dX7_beginsOne_1 (by omega) (by omega) (by rw [c59]; rfl) (by decide) ?_
    refine r_iconst hx hb dX7_beginsOne_158 (by decide) (fun z60 ez60 => ?_)
    exact r_zret hx hb hr hK hP hS hk (by omega) dX7_beginsOne_159 (show P_X7_beginsOne σ0 a0 z60 σ0 from ⟨hR, hF, by omega⟩)
  by_cases c61 : a0.toInt = 40
  · refine lv_tableIn (off := 157) (tgt := 158) hx hb dX7_beginsOne_1 (by omega) (by omega) (by rw [c61]; rfl) (by decide) ?_
    refine r_iconst hx hb dX7_beginsOne_158 (by decide) (fun z62 ez62 => ?_)
    exact r_zret hx hb hr hK hP hS hk (by omega) dX7_beginsOne_159 (show P_X7_beginsOne σ0 a0 z62 σ0 from ⟨hR, hF, by omega⟩)
  by_cases c63 : a0.toInt = 41
  · refine lv_tableIn (off := 157) (tgt := 158) hx hb dX7_beginsOne_1 (by omega) (by omega) (by rw [c63]; rfl) (by decide) ?_
    refine r_iconst hx hb dX7_beginsOne_158 (by decide) (fun z64 ez64 => ?_)
    exact r_zret hx hb hr hK hP hS hk (by omega) dX7_beginsOne_159 (show P_X7_beginsOne σ0 a0 z64 σ0 from ⟨hR, hF, by omega⟩)
  by_cases c65 : a0.toInt = 42
  · refine lv_tableIn (off := 157) (tgt := 158) hx hb dX7_beginsOne_1 (by omega) (by omega) (by rw [c65]; rfl) (by decide) ?_
    refine r_iconst hx hb dX7_beginsOne_158 (by decide) (fun z66 ez66 => ?_)
    exact r_zret hx hb hr hK hP hS hk (by omega) dX7_beginsOne_159 (show P_X7_beginsOne σ0 a0 z66 σ0 from ⟨hR, hF, by omega⟩)
  by_cases c67 : a0.toInt = 43
  · refine lv_tableIn (off := 157) (tgt := 158) hx hb dX7_beginsOne_1 (by omega) (by omega) (by rw [c67]; rfl) (by decide) ?_
    refine r_iconst hx hb dX7_beginsOne_158 (by decide) (fun z68 ez68 => ?_)
    exact r_zret hx hb hr hK hP hS hk (by omega) dX7_beginsOne_159 (show P_X7_beginsOne σ0 a0 z68 σ0 from ⟨hR, hF, by omega⟩)
  by_cases c69 : a0.toInt = 44
  · refine lv_tableIn (off := 155) (tgt := 156) hx hb dX7_beginsOne_1 (by omega) (by omega) (by rw [c69]; rfl) (by decide) ?_
    refine r_iconst hx hb dX7_beginsOne_156 (by decide) (fun z70 ez70 => ?_)
    exact r_zret hx hb hr hK hP hS hk (by omega) dX7_beginsOne_157 (show P_X7_beginsOne σ0 a0 z70 σ0 from ⟨hR, hF, by omega⟩)
  refine lv_tableOut (tgt := 158) hx hb dX7_beginsOne_1 (by omega) (by decide) ?_
  refine r_iconst hx hb dX7_beginsOne_158 (by decide) (fun z71 ez71 => ?_)
  exact r_zret hx hb hr hK hP hS hk (by omega) dX7_beginsOne_159 (show P_X7_beginsOne σ0 a0 z71 σ0 from ⟨hR, hF, by omega⟩)
theorem in_X7_readOne_6 : ∀ w ∈ u_ws RX6 TX6 7, w ∈ wsX7_readOne := by decide +kernel
theorem in_X7_readOne_7 : ∀ w ∈ u_ws RX7 TX7 3, w ∈ wsX7_readOne := by decide +kernel
theorem in_X7_readOne_8 : ∀ w ∈ u_ws RX8 TX8 15, w ∈ wsX7_readOne := by decide +kernel
theorem lk_X7_readOne_19 : Cond.fieldLink RX7 19 "CuckooShares$SentenceText" "into" "LCuckooShares$Sentence;" ∈ wsX7_readOne := by decide +kernel
theorem lk_X7_readOne_9 : Cond.fieldLink RX7 9 "CuckooShares$SentenceText" "tape" "LCuckooShares$Tape;" ∈ wsX7_readOne := by decide +kernel
abbrev L_X7_readOne_d9 : List Rc := [(1, 1, 13, 14)]
def P_X7_readOne_d9 (σ0 : Nat → Nat → Int32) (a1 : Int32) (r : Int32) (σ : Nat → Nat → Int32) : Prop := Rg σ ∧ Fr L_X7_readOne_d9 σ0 σ ∧ (0 ≤ r.toInt ∧ r.toInt ≤ 0)
set_option maxHeartbeats 4000000 in
theorem c_X7_readOne_d9 (l : Launch) (D : va_G) (cA : Nat → ClassId) (ad : Nat → Nat) (hI : Inj ad) (σ0 : Nat → Nat → Int32) (τ0 : Nat → Nat → Int64) (hR : Rg σ0) (a1 : Int32) (ha1 : 9 ≤ a1.toInt ∧ a1.toInt ≤ 9) : Met l yX7_readOne wsX7_readOne ({ frames := 1, cells := 0, slots := 0, locals := 21 } : Room) (WQc D cA ad [.ref (ad 27), .int a1] σ0 τ0) (va_Qi (fun (r : Int32) (u : SS) => P_X7_readOne_d9 σ0 a1 r u.1) (WB D cA ad) (AA ad)) 0 0 (AA ad) := by
  refine Met.ofW (cc := cX7_readOne) (maxL := 3) (ret := (some .boolean)) (by decide) rfl ?_
  intro p e s m args below meth c s₁ B hml hv
  obtain ⟨rfl, hP, hK, hN⟩ := hv
  have C : Cy p s m _ meth c cX7_readOne 3 wsX7_readOne RX7 D cA ad (some .boolean) := ⟨B.exec, B.bytes, hml, findClass_of_methodNamed B.named, atoms_spec (ws := wsX7_readOne) B.pre, hK, B.notSynchronized, B.returns, hI, hN⟩
  have hl := lv_entry ([.ref (ad 27), .int a1]) (n := 3) (Nat.le_of_ble_eq_true rfl)
  rw [lg_entry_eq]
  generalize (lg_sl ([.ref (ad 27), .int a1]) ++ List.replicate (3 - (lg_sl ([.ref (ad 27), .int a1])).length) Slot.unset).toArray = ls at hl ⊢
  have hl : lv_has ls 3 [(0, .ref (ad 27)), (1, .int a1)] := hl
  have hS : va_S (AA ad) s.heap s.heap [] := va_S.rf
  have hF : Fr L_X7_readOne_d9 σ0 σ0 := Fr.rf
  obtain ⟨hx, hb, _, hown, hts, _, hk, hr, _, _⟩ := C
  refine lv_aload_n hx hb dX7_readOne_0 rfl (lv_at hl 0 rfl) ?_
  refine fg_7_0 (k := 27) hx hb hts in_X7_readOne_7 hown hK hP (by decide) (by decide) (hts _ lk_X7_readOne_9) dX7_readOne_1 ?_
  refine fgN_8_9 (k := 1) hx hb hts in_X7_readOne_8 hown hK hP (by decide) (by decide) (hN.use nw_7_32) dX7_readOne_4 ?_
  refine lv_istore_n (lv' := [(2, .int (σ0 1 9)), (0, .ref (ad 27)), (1, .int a1)]) hx hb dX7_readOne_7 rfl hl (by decide) rfl (fun ls hl => ?_)
  refine lv_iload_n hx hb dX7_readOne_8 rfl (lv_at hl 0 rfl) ?_
  refine r_cSi (As := [.int (σ0 1 9)]) (rest := []) ⟨hx, hb, hml, hown, hts⟩ hK hP hN hS (c_X7_beginsOne l D cA ad hI σ0 τ0 hR (σ0 1 9)) (va_cwS 1 hts gX7_readOne_X7_beginsOne rfl rfl rfl (by decide +kernel) ⟨by decide, by decide⟩) rfl hl.1 rfl (Nat.le_of_ble_eq_true rfl) dX7_readOne_9 (Nat.zero_le _) (Nat.zero_le _) (fun r1 u1 H1 locs1 hp1 hP hS => ?_)
  obtain ⟨σ1, τ1⟩ := u1
  obtain ⟨hR, f1, hq1⟩ : P_X7_beginsOne σ0 (σ0 1 9) r1 σ1 := hp1
  have hP : va_P D vwCl (gw cA ad σ1 τ1) H1 := hP
  obtain rfl := Fr.nil f1
  refine r_if_ne (tgt := 24) hx hb dX7_readOne_12 (by decide) (fun c2 => ?_) (fun c2 => ?_)
  · refine lv_aload_n hx hb dX7_readOne_24 rfl (lv_at hl 1 rfl) ?_
    refine fg_7_2 (k := 27) hx hb hts in_X7_readOne_7 hown hK hP (by decide) (by decide) (hts _ lk_X7_readOne_19) dX7_readOne_25 ?_
    refine fgN_6_1 (k := 24) hx hb hts in_X7_readOne_6 hown hK hP (by decide) (by decide) (hN.use nw_7_61) dX7_readOne_28 ?_
    have hr3 := rg_6_1 hR (k := 24) (by decide) (by decide)
    refine r_bipush hx hb dX7_readOne_31 (by decide) (fun z4 ez4 => ?_)
    refine r_icmp_ge (tgt := 42) hx hb dX7_readOne_33 (by decide) (fun c5 => ?_) (fun c5 => ?_)
    · refine lv_aload_n hx hb dX7_readOne_42 rfl (lv_at hl 1 rfl) ?_
      refine fg_7_0 (k := 27) hx hb hts in_X7_readOne_7 hown hK hP (by decide) (by decide) (hts _ lk_X7_readOne_9) dX7_readOne_43 ?_
      refine r_iconst hx hb dX7_readOne_46 (by decide) (fun z6 ez6 => ?_)
      refine r_cVi (k := 1) (As := [.int z6]) (rest := []) ⟨hx, hb, hml, hown, hts⟩ hK hP hN hS (c_X8_blame l D cA ad hI σ0 τ1 hR z6 (by omega)) (cwV 1 hts gX7_readOne_X8_blame rfl rfl rfl (by decide +kernel) ⟨by decide, by decide⟩) (rv_Tape hK hP (by decide) (by decide)) rfl hl.1 rfl (Nat.le_of_ble_eq_true rfl) dX7_readOne_47 (Nat.zero_le _) (Nat.zero_le _) (fun r7 u7 H7 locs7 hp7 hP hS => ?_)
      obtain ⟨σ7, τ7⟩ := u7
      obtain ⟨hR, f7, hq7⟩ : P_X8_blame σ0 z6 r7 σ7 := hp7
      have hP : va_P D vwCl (gw cA ad σ7 τ7) H7 := hP
      have hF := hF.step f7 (by decide)
      have t8 : (σ7 24 1).toInt = (σ0 24 1).toInt := congrArg Int32.toInt (f7.at 24 1 (by decide))
      exact r_zret hx hb hr hK hP hS hk (by omega) dX7_readOne_50 (show P_X7_readOne_d9 σ0 a1 r7 σ7 from ⟨hR, hF, by omega⟩)
    · refine lv_iload_n hx hb dX7_readOne_36 rfl (lv_at hl 2 rfl) ?_
      refine r_bipush hx hb dX7_readOne_37 (by decide) (fun z9 ez9 => ?_)
      refine r_icmp_le (tgt := 51) hx hb dX7_readOne_39 (by decide) (fun c10 => ?_) (fun c10 => ?_)
      · exfalso; omega
      · refine lv_aload_n hx hb dX7_readOne_42 rfl (lv_at hl 1 rfl) ?_
        refine fg_7_0 (k := 27) hx hb hts in_X7_readOne_7 hown hK hP (by decide) (by decide) (hts _ lk_X7_readOne_9) dX7_readOne_43 ?_
        refine r_iconst hx hb dX7_readOne_46 (by decide) (fun z11 ez11 => ?_)
        refine r_cVi (k := 1) (As := [.int z11]) (rest := []) ⟨hx, hb, hml, hown, hts⟩ hK hP hN hS (c_X8_blame l D cA ad hI σ0 τ1 hR z11 (by omega)) (cwV 1 hts gX7_readOne_X8_blame rfl rfl rfl (by decide +kernel) ⟨by decide, by decide⟩) (rv_Tape hK hP (by decide) (by decide)) rfl hl.1 rfl (Nat.le_of_ble_eq_true rfl) dX7_readOne_47 (Nat.zero_le _) (Nat.zero_le _) (fun r12 u12 H12 locs12 hp12 hP hS => ?_)
        obtain ⟨σ12, τ12⟩ := u12
        obtain ⟨hR, f12, hq12⟩ : P_X8_blame σ0 z11 r12 σ12 := hp12
        have hP : va_P D vwCl (gw cA ad σ12 τ12) H12 := hP
        have hF := hF.step f12 (by decide)
        have t13 : (σ12 24 1).toInt = (σ0 24 1).toInt := congrArg Int32.toInt (f12.at 24 1 (by decide))
        exact r_zret hx hb hr hK hP hS hk (by omega) dX7_readOne_50 (show P_X7_readOne_d9 σ0 a1 r12 σ12 from ⟨hR, hF, by omega⟩)
  · refine lv_aload_n hx hb dX7_readOne_15 rfl (lv_at hl 1 rfl) ?_
    refine fg_7_0 (k := 27) hx hb hts in_X7_readOne_7 hown hK hP (by decide) (by decide) (hts _ lk_X7_readOne_9) dX7_readOne_16 ?_
    refine r_iconst hx hb dX7_readOne_19 (by decide) (fun z14 ez14 => ?_)
    refine r_cVi (k := 1) (As := [.int z14]) (rest := []) ⟨hx, hb, hml, hown, hts⟩ hK hP hN hS (c_X8_blame l D cA ad hI σ0 τ1 hR z14 (by omega)) (cwV 1 hts gX7_readOne_X8_blame rfl rfl rfl (by decide +kernel) ⟨by decide, by decide⟩) (rv_Tape hK hP (by decide) (by decide)) rfl hl.1 rfl (Nat.le_of_ble_eq_true rfl) dX7_readOne_20 (Nat.zero_le _) (Nat.zero_le _) (fun r15 u15 H15 locs15 hp15 hP hS => ?_)
    obtain ⟨σ15, τ15⟩ := u15
    obtain ⟨hR, f15, hq15⟩ : P_X8_blame σ0 z14 r15 σ15 := hp15
    have hP : va_P D vwCl (gw cA ad σ15 τ15) H15 := hP
    have hF := hF.step f15 (by decide)
    exact r_zret hx hb hr hK hP hS hk (by omega) dX7_readOne_23 (show P_X7_readOne_d9 σ0 a1 r15 σ15 from ⟨hR, hF, by omega⟩)
abbrev L_X7_readAll_d9 : List Rc := [(1, 1, 13, 14)]
def P_X7_readAll_d9 (σ0 : Nat → Nat → Int32) (a1 : Int32) (r : Int32) (σ : Nat → Nat → Int32) : Prop := Rg σ ∧ Fr L_X7_readAll_d9 σ0 σ ∧ (0 ≤ r.toInt ∧ r.toInt ≤ 0)
set_option maxHeartbeats 4000000 in
theorem c_X7_readAll_d9 (l : Launch) (D : va_G) (cA : Nat → ClassId) (ad : Nat → Nat) (hI : Inj ad) (σ0 : Nat → Nat → Int32) (τ0 : Nat → Nat → Int64) (hR : Rg σ0) (a1 : Int32) (ha1 : 9 ≤ a1.toInt ∧ a1.toInt ≤ 9) : Met l yX7_readAll wsX7_readAll ({ frames := 2, cells := 0, slots := 0, locals := 43 } : Room) (WQc D cA ad [.ref (ad 27), .int a1] σ0 τ0) (va_Qi (fun (r : Int32) (u : SS) => P_X7_readAll_d9 σ0 a1 r u.1) (WB D cA ad) (AA ad)) 0 0 (AA ad) := by
  refine Met.ofW (cc := cX7_readAll) (maxL := 3) (ret := (some .boolean)) (by decide) rfl ?_
  intro p e s m args below meth c s₁ B hml hv
  obtain ⟨rfl, hP, hK, hN⟩ := hv
  have C : Cy p s m _ meth c cX7_readAll 3 wsX7_readAll RX7 D cA ad (some .boolean) := ⟨B.exec, B.bytes, hml, findClass_of_methodNamed B.named, atoms_spec (ws := wsX7_readAll) B.pre, hK, B.notSynchronized, B.returns, hI, hN⟩
  have hl := lv_entry ([.ref (ad 27), .int a1]) (n := 3) (Nat.le_of_ble_eq_true rfl)
  rw [lg_entry_eq]
  generalize (lg_sl ([.ref (ad 27), .int a1]) ++ List.replicate (3 - (lg_sl ([.ref (ad 27), .int a1])).length) Slot.unset).toArray = ls at hl ⊢
  have hl : lv_has ls 3 [(0, .ref (ad 27)), (1, .int a1)] := hl
  have hS : va_S (AA ad) s.heap s.heap [] := va_S.rf
  have hF : Fr L_X7_readAll_d9 σ0 σ0 := Fr.rf
  obtain ⟨hx, hb, _, hown, hts, _, hk, hr, _, _⟩ := C
  refine lv_aload_n hx hb dX7_readAll_0 rfl (lv_at hl 0 rfl) ?_
  refine lv_iload_n hx hb dX7_readAll_1 rfl (lv_at hl 1 rfl) ?_
  refine r_cVi (k := 27) (As := [.int a1]) (rest := []) ⟨hx, hb, hml, hown, hts⟩ hK hP hN hS (c_X7_readOne_d9 l D cA ad hI σ0 τ0 hR a1 (by omega)) (cwV 1 hts gX7_readAll_X7_readOne rfl rfl rfl (by decide +kernel) ⟨by decide, by decide⟩) (rv_SText hK hP (by decide) (by decide)) rfl hl.1 rfl (Nat.le_of_ble_eq_true rfl) dX7_readAll_2 (Nat.zero_le _) (Nat.zero_le _) (fun r1 u1 H1 locs1 hp1 hP hS => ?_)
  obtain ⟨σ1, τ1⟩ := u1
  obtain ⟨hR, f1, hq1⟩ : P_X7_readOne_d9 σ0 a1 r1 σ1 := hp1
  have hP : va_P D vwCl (gw cA ad σ1 τ1) H1 := hP
  have hF := hF.step f1 (by decide)
  refine r_if_ne (tgt := 10) hx hb dX7_readAll_5 (by decide) (fun c2 => ?_) (fun c2 => ?_)
  · exfalso; omega
  · refine r_iconst hx hb dX7_readAll_8 (by decide) (fun z3 ez3 => ?_)
    exact r_zret hx hb hr hK hP hS hk (by omega) dX7_readAll_9 (show P_X7_readAll_d9 σ0 a1 z3 σ1 from ⟨hR, hF, by omega⟩)
abbrev L_X7_readCond_d9 : List Rc := [(1, 1, 13, 14)]
def P_X7_readCond_d9 (σ0 : Nat → Nat → Int32) (a1 : Int32) (r : Int32) (σ : Nat → Nat → Int32) : Prop := Rg σ ∧ Fr L_X7_readCond_d9 σ0 σ ∧ (0 ≤ r.toInt ∧ r.toInt ≤ 0)
set_option maxHeartbeats 4000000 in
theorem c_X7_readCond_d9 (l : Launch) (D : va_G) (cA : Nat → ClassId) (ad : Nat → Nat) (hI : Inj ad) (σ0 : Nat → Nat → Int32) (τ0 : Nat → Nat → Int64) (hR : Rg σ0) (a1 : Int32) (ha1 : 9 ≤ a1.toInt ∧ a1.toInt ≤ 9) : Met l yX7_readCond wsX7_readCond ({ frames := 3, cells := 0, slots := 0, locals := 65 } : Room) (WQc D cA ad [.ref (ad 27), .int a1] σ0 τ0) (va_Qi (fun (r : Int32) (u : SS) => P_X7_readCond_d9 σ0 a1 r u.1) (WB D cA ad) (AA ad)) 0 0 (AA ad) := by
  refine Met.ofW (cc := cX7_readCond) (maxL := 3) (ret := (some .boolean)) (by decide) rfl ?_
  intro p e s m args below meth c s₁ B hml hv
  obtain ⟨rfl, hP, hK, hN⟩ := hv
  have C : Cy p s m _ meth c cX7_readCond 3 wsX7_readCond RX7 D cA ad (some .boolean) := ⟨B.exec, B.bytes, hml, findClass_of_methodNamed B.named, atoms_spec (ws := wsX7_readCond) B.pre, hK, B.notSynchronized, B.returns, hI, hN⟩
  have hl := lv_entry ([.ref (ad 27), .int a1]) (n := 3) (Nat.le_of_ble_eq_true rfl)
  rw [lg_entry_eq]
  generalize (lg_sl ([.ref (ad 27), .int a1]) ++ List.replicate (3 - (lg_sl ([.ref (ad 27), .int a1])).length) Slot.unset).toArray = ls at hl ⊢
  have hl : lv_has ls 3 [(0, .ref (ad 27)), (1, .int a1)] := hl
  have hS : va_S (AA ad) s.heap s.heap [] := va_S.rf
  have hF : Fr L_X7_readCond_d9 σ0 σ0 := Fr.rf
  obtain ⟨hx, hb, _, hown, hts, _, hk, hr, _, _⟩ := C
  refine lv_aload_n hx hb dX7_readCond_0 rfl (lv_at hl 0 rfl) ?_
  refine lv_iload_n hx hb dX7_readCond_1 rfl (lv_at hl 1 rfl) ?_
  refine r_cVi (k := 27) (As := [.int a1]) (rest := []) ⟨hx, hb, hml, hown, hts⟩ hK hP hN hS (c_X7_readAll_d9 l D cA ad hI σ0 τ0 hR a1 (by omega)) (cwV 1 hts gX7_readCond_X7_readAll rfl rfl rfl (by decide +kernel) ⟨by decide, by decide⟩) (rv_SText hK hP (by decide) (by decide)) rfl hl.1 rfl (Nat.le_of_ble_eq_true rfl) dX7_readCond_2 (Nat.zero_le _) (Nat.zero_le _) (fun r1 u1 H1 locs1 hp1 hP hS => ?_)
  obtain ⟨σ1, τ1⟩ := u1
  obtain ⟨hR, f1, hq1⟩ : P_X7_readAll_d9 σ0 a1 r1 σ1 := hp1
  have hP : va_P D vwCl (gw cA ad σ1 τ1) H1 := hP
  have hF := hF.step f1 (by decide)
  refine r_if_ne (tgt := 10) hx hb dX7_readCond_5 (by decide) (fun c2 => ?_) (fun c2 => ?_)
  · exfalso; omega
  · refine r_iconst hx hb dX7_readCond_8 (by decide) (fun z3 ez3 => ?_)
    exact r_zret hx hb hr hK hP hS hk (by omega) dX7_readCond_9 (show P_X7_readCond_d9 σ0 a1 z3 σ1 from ⟨hR, hF, by omega⟩)
theorem in_X7_readMeasure_7 : ∀ w ∈ u_ws RX7 TX7 3, w ∈ wsX7_readMeasure := by decide +kernel
theorem in_X7_readMeasure_8 : ∀ w ∈ u_ws RX8 TX8 15, w ∈ wsX7_readMeasure := by decide +kernel
theorem lk_X7_readMeasure_19 : Cond.fieldLink RX7 19 "CuckooShares$SentenceText" "into" "LCuckooShares$Sentence;" ∈ wsX7_readMeasure := by decide +kernel
theorem lk_X7_readMeasure_9 : Cond.fieldLink RX7 9 "CuckooShares$SentenceText" "tape" "LCuckooShares$Tape;" ∈ wsX7_readMeasure := by decide +kernel
abbrev L_X7_readMeasure : List Rc := [(1, 1, 7, 10), (1, 1, 12, 14), (372, 372, 0, 39), (376, 376, 0, 39), (380, 380, 0, 39), (24, 24, 2, 2)]
def P_X7_readMeasure (σ0 : Nat → Nat → Int32) (a1 : Int32) (r : Int32) (σ : Nat → Nat → Int32) : Prop := Rg σ ∧ Fr L_X7_readMeasure σ0 σ ∧ (0 ≤ r.toInt ∧ r.toInt ≤ 1)
def J_X7_readMeasure_35 (p : Program) (l : Launch) (e : Env) (s : State) (m : MethodId) (args : Array Value) (below : List Frame) (meth : Method) (c : Code) (D : va_G) (cA : Nat → ClassId) (ad : Nat → Nat) (σ0 : Nat → Nat → Int32) (a1 : Int32) (n : Nat) : Prop := ∀ (σ : Nat → Nat → Int32) (τ : Nat → Nat → Int64) (H : Heap) (locs : List Loc) (x2 : Int32) (ls : Array Slot), Rg σ → Fr L_X7_readMeasure σ0 σ → va_P D vwCl (gw cA ad σ τ) H → va_S (AA ad) s.heap H locs → (41 ≤ x2.toInt ∧ x2.toInt ≤ 43) → lv_has ls 3 [(0, .ref (ad 27)), (1, .int a1), (2, .int x2)] → 1 < (n : Int) → W p l e ({ frames := 2, cells := 0, slots := 0, locals := 43 } : Room) s m args below meth c H locs 0 0 (MQ below (va_Qi (fun (r : Int32) (u : SS) => P_X7_readMeasure σ0 a1 r u.1) (WB D cA ad) (AA ad)) args s 0 0 (AA ad)) (F0 m 35 ls [])
set_option maxHeartbeats 4000000 in
theorem B_X7_readMeasure_35 (p : Program) (l : Launch) (e : Env) (s : State) (m : MethodId) (args : Array Value) (below : List Frame) (meth : Method) (c : Code) (D : va_G) (cA : Nat → ClassId) (ad : Nat → Nat) (σ0 : Nat → Nat → Int32) (a1 : Int32) (n : Nat) (C : Cy p s m args meth c cX7_readMeasure 3 wsX7_readMeasure RX7 D cA ad (some .boolean)) (ha1 : 27 ≤ a1.toInt ∧ a1.toInt ≤ 30) (K35 : J_X7_readMeasure_35 p l e s m args below meth c D cA ad σ0 a1 n) : J_X7_readMeasure_35 p l e s m args below meth c D cA ad σ0 a1 (n + 1) := by
  obtain ⟨hx, hb, hml, hown, hts, hK, hk, hr, hI, hN⟩ := C
  intro σ τ H locs x2 ls hR hF hP hS hc0 hl hm
  refine lv_aload_n hx hb dX7_readMeasure_35 rfl (lv_at hl 0 rfl) ?_
  refine fg_7_0 (k := 27) hx hb hts in_X7_readMeasure_7 hown hK hP (by decide) (by decide) (hts _ lk_X7_readMeasure_9) dX7_readMeasure_36 ?_
  refine r_cVv (k := 1) (As := []) (rest := []) ⟨hx, hb, hml, hown, hts⟩ hK hP hN hS (c_X8_next l D cA ad hI σ τ hR) (cwV 0 hts gX7_readMeasure_X8_next rfl rfl rfl (by decide +kernel) ⟨by decide, by decide⟩) (rv_Tape hK hP (by decide) (by decide)) rfl hl.1 rfl (Nat.le_of_ble_eq_true rfl) dX7_readMeasure_39 (Nat.zero_le _) (Nat.zero_le _) (fun u1 H1 locs1 hp1 hP hS => ?_)
  obtain ⟨σ1, τ1⟩ := u1
  obtain ⟨hR, f1⟩ : P_X8_next σ σ1 := hp1
  have hP : va_P D vwCl (gw cA ad σ1 τ1) H1 := hP
  have hF := hF.step f1 (by decide)
  refine lv_aload_n hx hb dX7_readMeasure_42 rfl (lv_at hl 0 rfl) ?_
  refine fg_7_0 (k := 27) hx hb hts in_X7_readMeasure_7 hown hK hP (by decide) (by decide) (hts _ lk_X7_readMeasure_9) dX7_readMeasure_43 ?_
  refine r_iconst hx hb dX7_readMeasure_46 (by decide) (fun z2 ez2 => ?_)
  refine r_sipush hx hb dX7_readMeasure_47 (by decide) (fun z3 ez3 => ?_)
  refine r_cVi (k := 1) (As := [.int z2, .int z3]) (rest := []) ⟨hx, hb, hml, hown, hts⟩ hK hP hN hS (c_X8_takeNumber l D cA ad hI σ1 τ1 hR z2 z3 (by omega)) (cwV 2 hts gX7_readMeasure_X8_takeNumber rfl rfl rfl (by decide +kernel) ⟨by decide, by decide⟩) (rv_Tape hK hP (by decide) (by decide)) rfl hl.1 rfl (Nat.le_of_ble_eq_true rfl) dX7_readMeasure_50 (Nat.zero_le _) (Nat.zero_le _) (fun r4 u4 H4 locs4 hp4 hP hS => ?_)
  obtain ⟨σ4, τ4⟩ := u4
  obtain ⟨hR, f4, hq4⟩ : P_X8_takeNumber σ1 z2 z3 r4 σ4 := hp4
  have hP : va_P D vwCl (gw cA ad σ4 τ4) H4 := hP
  have hF := hF.step f4 (by decide)
  refine r_if_eq (tgt := 79) hx hb dX7_readMeasure_53 (by decide) (fun c5 => ?_) (fun c5 => ?_)
  · refine r_iconst hx hb dX7_readMeasure_79 (by decide) (fun z6 ez6 => ?_)
    exact r_zret hx hb hr hK hP hS hk (by omega) dX7_readMeasure_80 (show P_X7_readMeasure σ0 a1 z6 σ4 from ⟨hR, hF, by omega⟩)
  · refine lv_aload_n hx hb dX7_readMeasure_56 rfl (lv_at hl 0 rfl) ?_
    refine fg_7_2 (k := 27) hx hb hts in_X7_readMeasure_7 hown hK hP (by decide) (by decide) (hts _ lk_X7_readMeasure_19) dX7_readMeasure_57 ?_
    refine lv_iload_n hx hb dX7_readMeasure_60 rfl (lv_at hl 1 rfl) ?_
    refine lv_iload_n hx hb dX7_readMeasure_61 rfl (lv_at hl 2 rfl) ?_
    refine lv_aload_n hx hb dX7_readMeasure_62 rfl (lv_at hl 0 rfl) ?_
    refine fg_7_0 (k := 27) hx hb hts in_X7_readMeasure_7 hown hK hP (by decide) (by decide) (hts _ lk_X7_readMeasure_9) dX7_readMeasure_63 ?_
    refine fgN_8_12 (k := 1) hx hb hts in_X7_readMeasure_8 hown hK hP (by decide) (by decide) (hN.use nw_7_82) dX7_readMeasure_66 ?_
    refine r_cVi (k := 24) (As := [.int a1, .int x2, .int (σ4 1 12)]) (rest := []) ⟨hx, hb, hml, hown, hts⟩ hK hP hN hS (c_X6_add l D cA ad hI σ4 τ4 hR a1 x2 (σ4 1 12) (by omega)) (cwV 3 hts gX7_readMeasure_X6_add rfl rfl rfl (by decide +kernel) ⟨by decide, by decide⟩) (rv_Sent hK hP (by decide) (by decide)) rfl hl.1 rfl (Nat.le_of_ble_eq_true rfl) dX7_readMeasure_69 (Nat.zero_le _) (Nat.zero_le _) (fun r7 u7 H7 locs7 hp7 hP hS => ?_)
    obtain ⟨σ7, τ7⟩ := u7
    obtain ⟨hR, f7, hq7⟩ : P_X6_add σ4 a1 x2 (σ4 1 12) r7 σ7 := hp7
    have hP : va_P D vwCl (gw cA ad σ7 τ7) H7 := hP
    have hF := hF.step f7 (by decide)
    refine r_if_eq (tgt := 79) hx hb dX7_readMeasure_72 (by decide) (fun c8 => ?_) (fun c8 => ?_)
    · refine r_iconst hx hb dX7_readMeasure_79 (by decide) (fun z9 ez9 => ?_)
      exact r_zret hx hb hr hK hP hS hk (by omega) dX7_readMeasure_80 (show P_X7_readMeasure σ0 a1 z9 σ7 from ⟨hR, hF, by omega⟩)
    · refine r_iconst hx hb dX7_readMeasure_75 (by decide) (fun z10 ez10 => ?_)
      refine lv_goto (tgt := 80) hx hb dX7_readMeasure_76 (by decide) ?_
      exact r_zret hx hb hr hK hP hS hk (by omega) dX7_readMeasure_80 (show P_X7_readMeasure σ0 a1 z10 σ7 from ⟨hR, hF, by omega⟩)
theorem A_X7_readMeasure (p : Program) (l : Launch) (e : Env) (s : State) (m : MethodId) (args : Array Value) (below : List Frame) (meth : Method) (c : Code) (D : va_G) (cA : Nat → ClassId) (ad : Nat → Nat) (σ0 : Nat → Nat → Int32) (a1 : Int32) (C : Cy p s m args meth c cX7_readMeasure 3 wsX7_readMeasure RX7 D cA ad (some .boolean)) (ha1 : 27 ≤ a1.toInt ∧ a1.toInt ≤ 30) : ∀ n : Nat, J_X7_readMeasure_35 p l e s m args below meth c D cA ad σ0 a1 n := by
  intro n
  induction n with
  | zero =>
    exact (by intro σ τ H locs x2 ls hR hF hP hS hc0 hl hm; exfalso; omega)
  | succ n ih =>
    exact B_X7_readMeasure_35 p l e s m args below meth c D cA ad σ0 a1 n C ha1 ih
set_option maxHeartbeats 4000000 in
theorem c_X7_readMeasure (l : Launch) (D : va_G) (cA : Nat → ClassId) (ad : Nat → Nat) (hI : Inj ad) (σ0 : Nat → Nat → Int32) (τ0 : Nat → Nat → Int64) (hR : Rg σ0) (a1 : Int32) (ha1 : 27 ≤ a1.toInt ∧ a1.toInt ≤ 30) : Met l yX7_readMeasure wsX7_readMeasure ({ frames := 2, cells := 0, slots := 0, locals := 43 } : Room) (WQc D cA ad [.ref (ad 27), .int a1] σ0 τ0) (va_Qi (fun (r : Int32) (u : SS) => P_X7_readMeasure σ0 a1 r u.1) (WB D cA ad) (AA ad)) 0 0 (AA ad) := by
  refine Met.ofW (cc := cX7_readMeasure) (maxL := 3) (ret := (some .boolean)) (by decide) rfl ?_
  intro p e s m args below meth c s₁ B hml hv
  obtain ⟨rfl, hP, hK, hN⟩ := hv
  have C : Cy p s m _ meth c cX7_readMeasure 3 wsX7_readMeasure RX7 D cA ad (some .boolean) := ⟨B.exec, B.bytes, hml, findClass_of_methodNamed B.named, atoms_spec (ws := wsX7_readMeasure) B.pre, hK, B.notSynchronized, B.returns, hI, hN⟩
  have hl := lv_entry ([.ref (ad 27), .int a1]) (n := 3) (Nat.le_of_ble_eq_true rfl)
  rw [lg_entry_eq]
  generalize (lg_sl ([.ref (ad 27), .int a1]) ++ List.replicate (3 - (lg_sl ([.ref (ad 27), .int a1])).length) Slot.unset).toArray = ls at hl ⊢
  have hl : lv_has ls 3 [(0, .ref (ad 27)), (1, .int a1)] := hl
  have hS : va_S (AA ad) s.heap s.heap [] := va_S.rf
  have hF : Fr L_X7_readMeasure σ0 σ0 := Fr.rf
  have hA := A_X7_readMeasure p l e s m _ below meth c D cA ad σ0 a1 C ha1 6
  have K35 := hA
  clear hA
  obtain ⟨hx, hb, _, hown, hts, _, hk, hr, _, _⟩ := C
  refine lv_aload_n hx hb dX7_readMeasure_0 rfl (lv_at hl 0 rfl) ?_
  refine fg_7_0 (k := 27) hx hb hts in_X7_readMeasure_7 hown hK hP (by decide) (by decide) (hts _ lk_X7_readMeasure_9) dX7_readMeasure_1 ?_
  refine fgN_8_9 (k := 1) hx hb hts in_X7_readMeasure_8 hown hK hP (by decide) (by decide) (hN.use nw_7_32) dX7_readMeasure_4 ?_
  refine lv_istore_n (lv' := [(2, .int (σ0 1 9)), (0, .ref (ad 27)), (1, .int a1)]) hx hb dX7_readMeasure_7 rfl hl (by decide) rfl (fun ls hl => ?_)
  refine lv_iload_n hx hb dX7_readMeasure_8 rfl (lv_at hl 0 rfl) ?_
  refine r_bipush hx hb dX7_readMeasure_9 (by decide) (fun z1 ez1 => ?_)
  refine r_icmp_eq (tgt := 35) hx hb dX7_readMeasure_11 (by decide) (fun c2 => ?_) (fun c2 => ?_)
  · exact K35 σ0 τ0 s.heap [] (σ0 1 9) ls hR hF hP hS (by omega) (lv_sub hl [1, 2, 0] rfl) (by omega)
  · refine lv_iload_n hx hb dX7_readMeasure_14 rfl (lv_at hl 0 rfl) ?_
    refine r_bipush hx hb dX7_readMeasure_15 (by decide) (fun z3 ez3 => ?_)
    refine r_icmp_eq (tgt := 35) hx hb dX7_readMeasure_17 (by decide) (fun c4 => ?_) (fun c4 => ?_)
    · exact K35 σ0 τ0 s.heap [] (σ0 1 9) ls hR hF hP hS (by omega) (lv_sub hl [1, 2, 0] rfl) (by omega)
    · refine lv_iload_n hx hb dX7_readMeasure_20 rfl (lv_at hl 0 rfl) ?_
      refine r_bipush hx hb dX7_readMeasure_21 (by decide) (fun z5 ez5 => ?_)
      refine r_icmp_eq (tgt := 35) hx hb dX7_readMeasure_23 (by decide) (fun c6 => ?_) (fun c6 => ?_)
      · exact K35 σ0 τ0 s.heap [] (σ0 1 9) ls hR hF hP hS (by omega) (lv_sub hl [1, 2, 0] rfl) (by omega)
      · refine lv_aload_n hx hb dX7_readMeasure_26 rfl (lv_at hl 1 rfl) ?_
        refine fg_7_0 (k := 27) hx hb hts in_X7_readMeasure_7 hown hK hP (by decide) (by decide) (hts _ lk_X7_readMeasure_9) dX7_readMeasure_27 ?_
        refine r_iconst hx hb dX7_readMeasure_30 (by decide) (fun z7 ez7 => ?_)
        refine r_cVi (k := 1) (As := [.int z7]) (rest := []) ⟨hx, hb, hml, hown, hts⟩ hK hP hN hS (c_X8_blame l D cA ad hI σ0 τ0 hR z7 (by omega)) (cwV 1 hts gX7_readMeasure_X8_blame rfl rfl rfl (by decide +kernel) ⟨by decide, by decide⟩) (rv_Tape hK hP (by decide) (by decide)) rfl hl.1 rfl (Nat.le_of_ble_eq_true rfl) dX7_readMeasure_31 (Nat.zero_le _) (Nat.zero_le _) (fun r8 u8 H8 locs8 hp8 hP hS => ?_)
        obtain ⟨σ8, τ8⟩ := u8
        obtain ⟨hR, f8, hq8⟩ : P_X8_blame σ0 z7 r8 σ8 := hp8
        have hP : va_P D vwCl (gw cA ad σ8 τ8) H8 := hP
        have hF := hF.step f8 (by decide)
        exact r_zret hx hb hr hK hP hS hk (by omega) dX7_readMeasure_34 (show P_X7_readMeasure σ0 a1 r8 σ8 from ⟨hR, hF, by omega⟩)
theorem in_X7_readOn_7 : ∀ w ∈ u_ws RX7 TX7 3, w ∈ wsX7_readOn := by decide +kernel
theorem lk_X7_readOn_15 : Cond.fieldLink RX7 15 "CuckooShares$SentenceText" "valley" "LCuckooShares$Valley;" ∈ wsX7_readOn := by decide +kernel
theorem lk_X7_readOn_19 : Cond.fieldLink RX7 19 "CuckooShares$SentenceText" "into" "LCuckooShares$Sentence;" ∈ wsX7_readOn := by decide +kernel
theorem lk_X7_readOn_9 : Cond.fieldLink RX7 9 "CuckooShares$SentenceText" "tape" "LCuckooShares$Tape;" ∈ wsX7_readOn := by decide +kernel
abbrev L_X7_readOn : List Rc := [(1, 1, 13, 14), (1, 1, 7, 10), (372, 372, 0, 39), (376, 376, 0, 39), (380, 380, 0, 39), (24, 24, 2, 2)]
def P_X7_readOn (σ0 : Nat → Nat → Int32)  (r : Int32) (σ : Nat → Nat → Int32) : Prop := Rg σ ∧ Fr L_X7_readOn σ0 σ ∧ (0 ≤ r.toInt ∧ r.toInt ≤ 1)
set_option maxHeartbeats 4000000 in
theorem c_X7_readOn (l : Launch) (D : va_G) (cA : Nat → ClassId) (ad : Nat → Nat) (hI : Inj ad) (σ0 : Nat → Nat → Int32) (τ0 : Nat → Nat → Int64) (hR : Rg σ0)   : Met l yX7_readOn wsX7_readOn ({ frames := 3, cells := 0, slots := 0, locals := 63 } : Room) (WQc D cA ad [.ref (ad 27)] σ0 τ0) (va_Qi (fun (r : Int32) (u : SS) => P_X7_readOn σ0 r u.1) (WB D cA ad) (AA ad)) 0 0 (AA ad) := by
  refine Met.ofW (cc := cX7_readOn) (maxL := 2) (ret := (some .boolean)) (by decide) rfl ?_
  intro p e s m args below meth c s₁ B hml hv
  obtain ⟨rfl, hP, hK, hN⟩ := hv
  have C : Cy p s m _ meth c cX7_readOn 2 wsX7_readOn RX7 D cA ad (some .boolean) := ⟨B.exec, B.bytes, hml, findClass_of_methodNamed B.named, atoms_spec (ws := wsX7_readOn) B.pre, hK, B.notSynchronized, B.returns, hI, hN⟩
  have hl := lv_entry ([.ref (ad 27)]) (n := 2) (Nat.le_of_ble_eq_true rfl)
  rw [lg_entry_eq]
  generalize (lg_sl ([.ref (ad 27)]) ++ List.replicate (2 - (lg_sl ([.ref (ad 27)])).length) Slot.unset).toArray = ls at hl ⊢
  have hl : lv_has ls 2 [(0, .ref (ad 27))] := hl
  have hS : va_S (AA ad) s.heap s.heap [] := va_S.rf
  have hF : Fr L_X7_readOn σ0 σ0 := Fr.rf
  obtain ⟨hx, hb, _, hown, hts, _, hk, hr, _, _⟩ := C
  refine lv_aload_n hx hb dX7_readOn_0 rfl (lv_at hl 0 rfl) ?_
  refine fg_7_0 (k := 27) hx hb hts in_X7_readOn_7 hown hK hP (by decide) (by decide) (hts _ lk_X7_readOn_9) dX7_readOn_1 ?_
  refine lv_aload_n hx hb dX7_readOn_4 rfl (lv_at hl 0 rfl) ?_
  refine fg_7_1 (k := 27) hx hb hts in_X7_readOn_7 hown hK hP (by decide) (by decide) (hts _ lk_X7_readOn_15) dX7_readOn_5 ?_
  refine r_cVi (k := 1) (As := [.ref (ad 2)]) (rest := []) ⟨hx, hb, hml, hown, hts⟩ hK hP hN hS (c_X8_hillHere l D cA ad hI σ0 τ0 hR 2 ⟨by omega, by omega⟩) (cwV 1 hts gX7_readOn_X8_hillHere rfl rfl rfl (by decide +kernel) ⟨by decide, by decide⟩) (rv_Tape hK hP (by decide) (by decide)) rfl hl.1 rfl (Nat.le_of_ble_eq_true rfl) dX7_readOn_8 (Nat.zero_le _) (Nat.zero_le _) (fun r1 u1 H1 locs1 hp1 hP hS => ?_)
  obtain ⟨σ1, τ1⟩ := u1
  obtain ⟨hR, f1, hq1⟩ : P_X8_hillHere σ0 2 r1 σ1 := hp1
  have hP : va_P D vwCl (gw cA ad σ1 τ1) H1 := hP
  have hF := hF.step f1 (by decide)
  refine lv_istore_n (lv' := [(1, .int r1), (0, .ref (ad 27))]) hx hb dX7_readOn_11 rfl hl (by decide) rfl (fun ls hl => ?_)
  refine lv_iload_n hx hb dX7_readOn_12 rfl (lv_at hl 0 rfl) ?_
  refine r_iconst hx hb dX7_readOn_13 (by decide) (fun z2 ez2 => ?_)
  refine r_icmp_ne (tgt := 19) hx hb dX7_readOn_14 (by decide) (fun c3 => ?_) (fun c3 => ?_)
  · refine lv_aload_n hx hb dX7_readOn_19 rfl (lv_at hl 1 rfl) ?_
    refine fg_7_0 (k := 27) hx hb hts in_X7_readOn_7 hown hK hP (by decide) (by decide) (hts _ lk_X7_readOn_9) dX7_readOn_20 ?_
    refine r_cVv (k := 1) (As := []) (rest := []) ⟨hx, hb, hml, hown, hts⟩ hK hP hN hS (c_X8_next l D cA ad hI σ1 τ1 hR) (cwV 0 hts gX7_readOn_X8_next rfl rfl rfl (by decide +kernel) ⟨by decide, by decide⟩) (rv_Tape hK hP (by decide) (by decide)) rfl hl.1 rfl (Nat.le_of_ble_eq_true rfl) dX7_readOn_23 (Nat.zero_le _) (Nat.zero_le _) (fun u4 H4 locs4 hp4 hP hS => ?_)
    obtain ⟨σ4, τ4⟩ := u4
    obtain ⟨hR, f4⟩ : P_X8_next σ1 σ4 := hp4
    have hP : va_P D vwCl (gw cA ad σ4 τ4) H4 := hP
    have hF := hF.step f4 (by decide)
    refine lv_aload_n hx hb dX7_readOn_26 rfl (lv_at hl 1 rfl) ?_
    refine fg_7_2 (k := 27) hx hb hts in_X7_readOn_7 hown hK hP (by decide) (by decide) (hts _ lk_X7_readOn_19) dX7_readOn_27 ?_
    refine r_bipush hx hb dX7_readOn_30 (by decide) (fun z5 ez5 => ?_)
    refine r_bipush hx hb dX7_readOn_32 (by decide) (fun z6 ez6 => ?_)
    refine lv_iload_n hx hb dX7_readOn_34 rfl (lv_at hl 0 rfl) ?_
    refine r_cVi (k := 24) (As := [.int z5, .int z6, .int r1]) (rest := []) ⟨hx, hb, hml, hown, hts⟩ hK hP hN hS (c_X6_add l D cA ad hI σ4 τ4 hR z5 z6 r1 (by omega)) (cwV 3 hts gX7_readOn_X6_add rfl rfl rfl (by decide +kernel) ⟨by decide, by decide⟩) (rv_Sent hK hP (by decide) (by decide)) rfl hl.1 rfl (Nat.le_of_ble_eq_true rfl) dX7_readOn_35 (Nat.zero_le _) (Nat.zero_le _) (fun r7 u7 H7 locs7 hp7 hP hS => ?_)
    obtain ⟨σ7, τ7⟩ := u7
    obtain ⟨hR, f7, hq7⟩ : P_X6_add σ4 z5 z6 r1 r7 σ7 := hp7
    have hP : va_P D vwCl (gw cA ad σ7 τ7) H7 := hP
    have hF := hF.step f7 (by decide)
    exact r_zret hx hb hr hK hP hS hk (by omega) dX7_readOn_38 (show P_X7_readOn σ0 r7 σ7 from ⟨hR, hF, by omega⟩)
  · refine r_iconst hx hb dX7_readOn_17 (by decide) (fun z8 ez8 => ?_)
    exact r_zret hx hb hr hK hP hS hk (by omega) dX7_readOn_18 (show P_X7_readOn σ0 z8 σ1 from ⟨hR, hF, by omega⟩)
abbrev L_X7_readOne_d8 : List Rc := [(1, 1, 7, 10), (372, 372, 0, 39), (376, 376, 0, 39), (380, 380, 0, 39), (24, 24, 1, 2), (1, 1, 12, 14)]
def P_X7_readOne_d8 (σ0 : Nat → Nat → Int32) (a1 : Int32) (r : Int32) (σ : Nat → Nat → Int32) : Prop := Rg σ ∧ Fr L_X7_readOne_d8 σ0 σ ∧ (0 ≤ r.toInt ∧ r.toInt ≤ 1)
set_option maxHeartbeats 4000000 in
theorem c_X7_readOne_d8 (l : Launch) (D : va_G) (cA : Nat → ClassId) (ad : Nat → Nat) (hI : Inj ad) (σ0 : Nat → Nat → Int32) (τ0 : Nat → Nat → Int64) (hR : Rg σ0) (a1 : Int32) (ha1 : 8 ≤ a1.toInt ∧ a1.toInt ≤ 8) : Met l yX7_readOne wsX7_readOne ({ frames := 4, cells := 0, slots := 0, locals := 87 } : Room) (WQc D cA ad [.ref (ad 27), .int a1] σ0 τ0) (va_Qi (fun (r : Int32) (u : SS) => P_X7_readOne_d8 σ0 a1 r u.1) (WB D cA ad) (AA ad)) 0 0 (AA ad) := by
  refine Met.ofW (cc := cX7_readOne) (maxL := 3) (ret := (some .boolean)) (by decide) rfl ?_
  intro p e s m args below meth c s₁ B hml hv
  obtain ⟨rfl, hP, hK, hN⟩ := hv
  have C : Cy p s m _ meth c cX7_readOne 3 wsX7_readOne RX7 D cA ad (some .boolean) := ⟨B.exec, B.bytes, hml, findClass_of_methodNamed B.named, atoms_spec (ws := wsX7_readOne) B.pre, hK, B.notSynchronized, B.returns, hI, hN⟩
  have hl := lv_entry ([.ref (ad 27), .int a1]) (n := 3) (Nat.le_of_ble_eq_true rfl)
  rw [lg_entry_eq]
  generalize (lg_sl ([.ref (ad 27), .int a1]) ++ List.replicate (3 - (lg_sl ([.ref (ad 27), .int a1])).length) Slot.unset).toArray = ls at hl ⊢
  have hl : lv_has ls 3 [(0, .ref (ad 27)), (1, .int a1)] := hl
  have hS : va_S (AA ad) s.heap s.heap [] := va_S.rf
  have hF : Fr L_X7_readOne_d8 σ0 σ0 := Fr.rf
  obtain ⟨hx, hb, _, hown, hts, _, hk, hr, _, _⟩ := C
  refine lv_aload_n hx hb dX7_readOne_0 rfl (lv_at hl 0 rfl) ?_
  refine fg_7_0 (k := 27) hx hb hts in_X7_readOne_7 hown hK hP (by decide) (by decide) (hts _ lk_X7_readOne_9) dX7_readOne_1 ?_
  refine fgN_8_9 (k := 1) hx hb hts in_X7_readOne_8 hown hK hP (by decide) (by decide) (hN.use nw_7_32) dX7_readOne_4 ?_
  refine lv_istore_n (lv' := [(2, .int (σ0 1 9)), (0, .ref (ad 27)), (1, .int a1)]) hx hb dX7_readOne_7 rfl hl (by decide) rfl (fun ls hl => ?_)
  refine lv_iload_n hx hb dX7_readOne_8 rfl (lv_at hl 0 rfl) ?_
  refine r_cSi (As := [.int (σ0 1 9)]) (rest := []) ⟨hx, hb, hml, hown, hts⟩ hK hP hN hS (c_X7_beginsOne l D cA ad hI σ0 τ0 hR (σ0 1 9)) (va_cwS 1 hts gX7_readOne_X7_beginsOne rfl rfl rfl (by decide +kernel) ⟨by decide, by decide⟩) rfl hl.1 rfl (Nat.le_of_ble_eq_true rfl) dX7_readOne_9 (Nat.zero_le _) (Nat.zero_le _) (fun r1 u1 H1 locs1 hp1 hP hS => ?_)
  obtain ⟨σ1, τ1⟩ := u1
  obtain ⟨hR, f1, hq1⟩ : P_X7_beginsOne σ0 (σ0 1 9) r1 σ1 := hp1
  have hP : va_P D vwCl (gw cA ad σ1 τ1) H1 := hP
  obtain rfl := Fr.nil f1
  refine r_if_ne (tgt := 24) hx hb dX7_readOne_12 (by decide) (fun c2 => ?_) (fun c2 => ?_)
  · refine lv_aload_n hx hb dX7_readOne_24 rfl (lv_at hl 1 rfl) ?_
    refine fg_7_2 (k := 27) hx hb hts in_X7_readOne_7 hown hK hP (by decide) (by decide) (hts _ lk_X7_readOne_19) dX7_readOne_25 ?_
    refine fgN_6_1 (k := 24) hx hb hts in_X7_readOne_6 hown hK hP (by decide) (by decide) (hN.use nw_7_61) dX7_readOne_28 ?_
    have hr3 := rg_6_1 hR (k := 24) (by decide) (by decide)
    refine r_bipush hx hb dX7_readOne_31 (by decide) (fun z4 ez4 => ?_)
    refine r_icmp_ge (tgt := 42) hx hb dX7_readOne_33 (by decide) (fun c5 => ?_) (fun c5 => ?_)
    · refine lv_aload_n hx hb dX7_readOne_42 rfl (lv_at hl 1 rfl) ?_
      refine fg_7_0 (k := 27) hx hb hts in_X7_readOne_7 hown hK hP (by decide) (by decide) (hts _ lk_X7_readOne_9) dX7_readOne_43 ?_
      refine r_iconst hx hb dX7_readOne_46 (by decide) (fun z6 ez6 => ?_)
      refine r_cVi (k := 1) (As := [.int z6]) (rest := []) ⟨hx, hb, hml, hown, hts⟩ hK hP hN hS (c_X8_blame l D cA ad hI σ0 τ1 hR z6 (by omega)) (cwV 1 hts gX7_readOne_X8_blame rfl rfl rfl (by decide +kernel) ⟨by decide, by decide⟩) (rv_Tape hK hP (by decide) (by decide)) rfl hl.1 rfl (Nat.le_of_ble_eq_true rfl) dX7_readOne_47 (Nat.zero_le _) (Nat.zero_le _) (fun r7 u7 H7 locs7 hp7 hP hS => ?_)
      obtain ⟨σ7, τ7⟩ := u7
      obtain ⟨hR, f7, hq7⟩ : P_X8_blame σ0 z6 r7 σ7 := hp7
      have hP : va_P D vwCl (gw cA ad σ7 τ7) H7 := hP
      have hF := hF.step f7 (by decide)
      have t8 : (σ7 24 1).toInt = (σ0 24 1).toInt := congrArg Int32.toInt (f7.at 24 1 (by decide))
      exact r_zret hx hb hr hK hP hS hk (by omega) dX7_readOne_50 (show P_X7_readOne_d8 σ0 a1 r7 σ7 from ⟨hR, hF, by omega⟩)
    · refine lv_iload_n hx hb dX7_readOne_36 rfl (lv_at hl 2 rfl) ?_
      refine r_bipush hx hb dX7_readOne_37 (by decide) (fun z9 ez9 => ?_)
      refine r_icmp_le (tgt := 51) hx hb dX7_readOne_39 (by decide) (fun c10 => ?_) (fun c10 => ?_)
      · refine lv_aload_n hx hb dX7_readOne_51 rfl (lv_at hl 1 rfl) ?_
        refine fg_7_2 (k := 27) hx hb hts in_X7_readOne_7 hown hK hP (by decide) (by decide) (hts _ lk_X7_readOne_19) dX7_readOne_52 ?_
        refine lv_dup hx hb dX7_readOne_55 rfl ?_
        refine fgN_6_1 (k := 24) hx hb hts in_X7_readOne_6 hown hK hP (by decide) (by decide) (hN.use nw_7_61) dX7_readOne_56 ?_
        refine r_iconst hx hb dX7_readOne_59 (by decide) (fun z11 ez11 => ?_)
        refine r_iadd hx hb dX7_readOne_60 (by omega) (fun z12 ez12 => ?_)
        refine fpN_6_1 (k := 24) hx hb hts in_X7_readOne_6 hown hK hP (by decide) (by decide) (hN.use nw_7_61) hI hR hS (by omega) dX7_readOne_61 (fun σ13 H13 locs13 u13 v13 hR hP hS => ?_)
        have hF := hF.puts u13 4 rfl (by decide) (by decide) (by decide) (by decide)
        refine lv_aload_n hx hb dX7_readOne_64 rfl (lv_at hl 1 rfl) ?_
        refine fg_7_0 (k := 27) hx hb hts in_X7_readOne_7 hown hK hP (by decide) (by decide) (hts _ lk_X7_readOne_9) dX7_readOne_65 ?_
        refine r_cVv (k := 1) (As := []) (rest := []) ⟨hx, hb, hml, hown, hts⟩ hK hP hN hS (c_X8_next l D cA ad hI σ13 τ1 hR) (cwV 0 hts gX7_readOne_X8_next rfl rfl rfl (by decide +kernel) ⟨by decide, by decide⟩) (rv_Tape hK hP (by decide) (by decide)) rfl hl.1 rfl (Nat.le_of_ble_eq_true rfl) dX7_readOne_68 (Nat.zero_le _) (Nat.zero_le _) (fun u14 H14 locs14 hp14 hP hS => ?_)
        obtain ⟨σ14, τ14⟩ := u14
        obtain ⟨hR, f14⟩ : P_X8_next σ13 σ14 := hp14
        have hP : va_P D vwCl (gw cA ad σ14 τ14) H14 := hP
        have hF := hF.step f14 (by decide)
        have t15 : (σ14 24 1).toInt = (σ13 24 1).toInt := congrArg Int32.toInt (f14.at 24 1 (by decide))
        refine lv_iload_n hx hb dX7_readOne_71 rfl (lv_at hl 0 rfl) ?_
        by_cases c16 : (σ0 1 9).toInt = 22
        · refine lv_tableIn (off := 108) (tgt := 180) hx hb dX7_readOne_72 (by omega) (by omega) (by rw [c16]; rfl) (by decide) ?_
          refine lv_aload_n hx hb dX7_readOne_180 rfl (lv_at hl 1 rfl) ?_
          refine lv_iload_n hx hb dX7_readOne_181 rfl (lv_at hl 2 rfl) ?_
          refine r_iconst hx hb dX7_readOne_182 (by decide) (fun z17 ez17 => ?_)
          refine r_iadd hx hb dX7_readOne_183 (by omega) (fun z18 ez18 => ?_)
          refine r_cVi (k := 27) (As := [.int z18]) (rest := []) ⟨hx, hb, hml, hown, hts⟩ hK hP hN hS (c_X7_readOne_d9 l D cA ad hI σ14 τ14 hR z18 (by omega)) (cwV 1 hts gX7_readOne_X7_readOne rfl rfl rfl (by decide +kernel) ⟨by decide, by decide⟩) (rv_SText hK hP (by decide) (by decide)) rfl hl.1 rfl (Nat.le_of_ble_eq_true rfl) dX7_readOne_184 (Nat.zero_le _) (Nat.zero_le _) (fun r19 u19 H19 locs19 hp19 hP hS => ?_)
          obtain ⟨σ19, τ19⟩ := u19
          obtain ⟨hR, f19, hq19⟩ : P_X7_readOne_d9 σ14 z18 r19 σ19 := hp19
          have hP : va_P D vwCl (gw cA ad σ19 τ19) H19 := hP
          have hF := hF.step f19 (by decide)
          have t20 : (σ19 24 1).toInt = (σ14 24 1).toInt := congrArg Int32.toInt (f19.at 24 1 (by decide))
          refine r_if_eq (tgt := 208) hx hb dX7_readOne_187 (by decide) (fun c21 => ?_) (fun c21 => ?_)
          · refine r_iconst hx hb dX7_readOne_208 (by decide) (fun z22 ez22 => ?_)
            exact r_zret hx hb hr hK hP hS hk (by omega) dX7_readOne_209 (show P_X7_readOne_d8 σ0 a1 z22 σ19 from ⟨hR, hF, by omega⟩)
          · exfalso; omega
        by_cases c23 : (σ0 1 9).toInt = 23
        · refine lv_tableIn (off := 177) (tgt := 249) hx hb dX7_readOne_72 (by omega) (by omega) (by rw [c23]; rfl) (by decide) ?_
          refine lv_aload_n hx hb dX7_readOne_249 rfl (lv_at hl 1 rfl) ?_
          refine fg_7_2 (k := 27) hx hb hts in_X7_readOne_7 hown hK hP (by decide) (by decide) (hts _ lk_X7_readOne_19) dX7_readOne_250 ?_
          refine lv_iload_n hx hb dX7_readOne_253 rfl (lv_at hl 0 rfl) ?_
          refine r_bipush hx hb dX7_readOne_254 (by decide) (fun z24 ez24 => ?_)
          refine r_iconst hx hb dX7_readOne_256 (by decide) (fun z25 ez25 => ?_)
          refine r_cVi (k := 24) (As := [.int (σ0 1 9), .int z24, .int z25]) (rest := []) ⟨hx, hb, hml, hown, hts⟩ hK hP hN hS (c_X6_add l D cA ad hI σ14 τ14 hR (σ0 1 9) z24 z25 (by omega)) (cwV 3 hts gX7_readOne_X6_add rfl rfl rfl (by decide +kernel) ⟨by decide, by decide⟩) (rv_Sent hK hP (by decide) (by decide)) rfl hl.1 rfl (Nat.le_of_ble_eq_true rfl) dX7_readOne_257 (Nat.zero_le _) (Nat.zero_le _) (fun r26 u26 H26 locs26 hp26 hP hS => ?_)
          obtain ⟨σ26, τ26⟩ := u26
          obtain ⟨hR, f26, hq26⟩ : P_X6_add σ14 (σ0 1 9) z24 z25 r26 σ26 := hp26
          have hP : va_P D vwCl (gw cA ad σ26 τ26) H26 := hP
          have hF := hF.step f26 (by decide)
          have t27 : (σ26 24 1).toInt = (σ14 24 1).toInt := congrArg Int32.toInt (f26.at 24 1 (by decide))
          exact r_zret hx hb hr hK hP hS hk (by omega) dX7_readOne_260 (show P_X7_readOne_d8 σ0 a1 r26 σ26 from ⟨hR, hF, by omega⟩)
        by_cases c28 : (σ0 1 9).toInt = 24
        · refine lv_tableIn (off := 177) (tgt := 249) hx hb dX7_readOne_72 (by omega) (by omega) (by rw [c28]; rfl) (by decide) ?_
          refine lv_aload_n hx hb dX7_readOne_249 rfl (lv_at hl 1 rfl) ?_
          refine fg_7_2 (k := 27) hx hb hts in_X7_readOne_7 hown hK hP (by decide) (by decide) (hts _ lk_X7_readOne_19) dX7_readOne_250 ?_
          refine lv_iload_n hx hb dX7_readOne_253 rfl (lv_at hl 0 rfl) ?_
          refine r_bipush hx hb dX7_readOne_254 (by decide) (fun z29 ez29 => ?_)
          refine r_iconst hx hb dX7_readOne_256 (by decide) (fun z30 ez30 => ?_)
          refine r_cVi (k := 24) (As := [.int (σ0 1 9), .int z29, .int z30]) (rest := []) ⟨hx, hb, hml, hown, hts⟩ hK hP hN hS (c_X6_add l D cA ad hI σ14 τ14 hR (σ0 1 9) z29 z30 (by omega)) (cwV 3 hts gX7_readOne_X6_add rfl rfl rfl (by decide +kernel) ⟨by decide, by decide⟩) (rv_Sent hK hP (by decide) (by decide)) rfl hl.1 rfl (Nat.le_of_ble_eq_true rfl) dX7_readOne_257 (Nat.zero_le _) (Nat.zero_le _) (fun r31 u31 H31 locs31 hp31 hP hS => ?_)
          obtain ⟨σ31, τ31⟩ := u31
          obtain ⟨hR, f31, hq31⟩ : P_X6_add σ14 (σ0 1 9) z29 z30 r31 σ31 := hp31
          have hP : va_P D vwCl (gw cA ad σ31 τ31) H31 := hP
          have hF := hF.step f31 (by decide)
          have t32 : (σ31 24 1).toInt = (σ14 24 1).toInt := congrArg Int32.toInt (f31.at 24 1 (by decide))
          exact r_zret hx hb hr hK hP hS hk (by omega) dX7_readOne_260 (show P_X7_readOne_d8 σ0 a1 r31 σ31 from ⟨hR, hF, by omega⟩)
        by_cases c33 : (σ0 1 9).toInt = 25
        · refine lv_tableIn (off := 166) (tgt := 238) hx hb dX7_readOne_72 (by omega) (by omega) (by rw [c33]; rfl) (by decide) ?_
          refine lv_aload_n hx hb dX7_readOne_238 rfl (lv_at hl 1 rfl) ?_
          refine r_cVi (k := 27) (As := []) (rest := []) ⟨hx, hb, hml, hown, hts⟩ hK hP hN hS (c_X7_readOn l D cA ad hI σ14 τ14 hR) (cwV 0 hts gX7_readOne_X7_readOn rfl rfl rfl (by decide +kernel) ⟨by decide, by decide⟩) (rv_SText hK hP (by decide) (by decide)) rfl hl.1 rfl (Nat.le_of_ble_eq_true rfl) dX7_readOne_239 (Nat.zero_le _) (Nat.zero_le _) (fun r34 u34 H34 locs34 hp34 hP hS => ?_)
          obtain ⟨σ34, τ34⟩ := u34
          obtain ⟨hR, f34, hq34⟩ : P_X7_readOn σ14 r34 σ34 := hp34
          have hP : va_P D vwCl (gw cA ad σ34 τ34) H34 := hP
          have hF := hF.step f34 (by decide)
          have t35 : (σ34 24 1).toInt = (σ14 24 1).toInt := congrArg Int32.toInt (f34.at 24 1 (by decide))
          exact r_zret hx hb hr hK hP hS hk (by omega) dX7_readOne_242 (show P_X7_readOne_d8 σ0 a1 r34 σ34 from ⟨hR, hF, by omega⟩)
        by_cases c36 : (σ0 1 9).toInt = 26
        · refine lv_tableIn (off := 177) (tgt := 249) hx hb dX7_readOne_72 (by omega) (by omega) (by rw [c36]; rfl) (by decide) ?_
          refine lv_aload_n hx hb dX7_readOne_249 rfl (lv_at hl 1 rfl) ?_
          refine fg_7_2 (k := 27) hx hb hts in_X7_readOne_7 hown hK hP (by decide) (by decide) (hts _ lk_X7_readOne_19) dX7_readOne_250 ?_
          refine lv_iload_n hx hb dX7_readOne_253 rfl (lv_at hl 0 rfl) ?_
          refine r_bipush hx hb dX7_readOne_254 (by decide) (fun z37 ez37 => ?_)
          refine r_iconst hx hb dX7_readOne_256 (by decide) (fun z38 ez38 => ?_)
          refine r_cVi (k := 24) (As := [.int (σ0 1 9), .int z37, .int z38]) (rest := []) ⟨hx, hb, hml, hown, hts⟩ hK hP hN hS (c_X6_add l D cA ad hI σ14 τ14 hR (σ0 1 9) z37 z38 (by omega)) (cwV 3 hts gX7_readOne_X6_add rfl rfl rfl (by decide +kernel) ⟨by decide, by decide⟩) (rv_Sent hK hP (by decide) (by decide)) rfl hl.1 rfl (Nat.le_of_ble_eq_true rfl) dX7_readOne_257 (Nat.zero_le _) (Nat.zero_le _) (fun r39 u39 H39 locs39 hp39 hP hS => ?_)
          obtain ⟨σ39, τ39⟩ := u39
          obtain ⟨hR, f39, hq39⟩ : P_X6_add σ14 (σ0 1 9) z37 z38 r39 σ39 := hp39
          have hP : va_P D vwCl (gw cA ad σ39 τ39) H39 := hP
          have hF := hF.step f39 (by decide)
          have t40 : (σ39 24 1).toInt = (σ14 24 1).toInt := congrArg Int32.toInt (f39.at 24 1 (by decide))
          exact r_zret hx hb hr hK hP hS hk (by omega) dX7_readOne_260 (show P_X7_readOne_d8 σ0 a1 r39 σ39 from ⟨hR, hF, by omega⟩)
        by_cases c41 : (σ0 1 9).toInt = 27
        · refine lv_tableIn (off := 171) (tgt := 243) hx hb dX7_readOne_72 (by omega) (by omega) (by rw [c41]; rfl) (by decide) ?_
          refine lv_aload_n hx hb dX7_readOne_243 rfl (lv_at hl 1 rfl) ?_
          refine lv_iload_n hx hb dX7_readOne_244 rfl (lv_at hl 0 rfl) ?_
          refine r_cVi (k := 27) (As := [.int (σ0 1 9)]) (rest := []) ⟨hx, hb, hml, hown, hts⟩ hK hP hN hS (c_X7_readMeasure l D cA ad hI σ14 τ14 hR (σ0 1 9) (by omega)) (cwV 1 hts gX7_readOne_X7_readMeasure rfl rfl rfl (by decide +kernel) ⟨by decide, by decide⟩) (rv_SText hK hP (by decide) (by decide)) rfl hl.1 rfl (Nat.le_of_ble_eq_true rfl) dX7_readOne_245 (Nat.zero_le _) (Nat.zero_le _) (fun r42 u42 H42 locs42 hp42 hP hS => ?_)
          obtain ⟨σ42, τ42⟩ := u42
          obtain ⟨hR, f42, hq42⟩ : P_X7_readMeasure σ14 (σ0 1 9) r42 σ42 := hp42
          have hP : va_P D vwCl (gw cA ad σ42 τ42) H42 := hP
          have hF := hF.step f42 (by decide)
          have t43 : (σ42 24 1).toInt = (σ14 24 1).toInt := congrArg Int32.toInt (f42.at 24 1 (by decide))
          exact r_zret hx hb hr hK hP hS hk (by omega) dX7_readOne_248 (show P_X7_readOne_d8 σ0 a1 r42 σ42 from ⟨hR, hF, by omega⟩)
        by_cases c44 : (σ0 1 9).toInt = 28
        · refine lv_tableIn (off := 171) (tgt := 243) hx hb dX7_readOne_72 (by omega) (by omega) (by rw [c44]; rfl) (by decide) ?_
          refine lv_aload_n hx hb dX7_readOne_243 rfl (lv_at hl 1 rfl) ?_
          refine lv_iload_n hx hb dX7_readOne_244 rfl (lv_at hl 0 rfl) ?_
          refine r_cVi (k := 27) (As := [.int (σ0 1 9)]) (rest := []) ⟨hx, hb, hml, hown, hts⟩ hK hP hN hS (c_X7_readMeasure l D cA ad hI σ14 τ14 hR (σ0 1 9) (by omega)) (cwV 1 hts gX7_readOne_X7_readMeasure rfl rfl rfl (by decide +kernel) ⟨by decide, by decide⟩) (rv_SText hK hP (by decide) (by decide)) rfl hl.1 rfl (Nat.le_of_ble_eq_true rfl) dX7_readOne_245 (Nat.zero_le _) (Nat.zero_le _) (fun r45 u45 H45 locs45 hp45 hP hS => ?_)
          obtain ⟨σ45, τ45⟩ := u45
          obtain ⟨hR, f45, hq45⟩ : P_X7_readMeasure σ14 (σ0 1 9) r45 σ45 := hp45
          have hP : va_P D vwCl (gw cA ad σ45 τ45) H45 := hP
          have hF := hF.step f45 (by decide)
          have t46 : (σ45 24 1).toInt = (σ14 24 1).toInt := congrArg Int32.toInt (f45.at 24 1 (by decide))
          exact r_zret hx hb hr hK hP hS hk (by omega) dX7_readOne_248 (show P_X7_readOne_d8 σ0 a1 r45 σ45 from ⟨hR, hF, by omega⟩)
        by_cases c47 : (σ0 1 9).toInt = 29
        · refine lv_tableIn (off := 171) (tgt := 243) hx hb dX7_readOne_72 (by omega) (by omega) (by rw [c47]; rfl) (by decide) ?_
          refine lv_aload_n hx hb dX7_readOne_243 rfl (lv_at hl 1 rfl) ?_
          refine lv_iload_n hx hb dX7_readOne_244 rfl (lv_at hl 0 rfl) ?_
          refine r_cVi (k := 27) (As := [.int (σ0 1 9)]) (rest := []) ⟨hx, hb, hml, hown, hts⟩ hK hP hN hS (c_X7_readMeasure l D cA ad hI σ14 τ14 hR (σ0 1 9) (by omega)) (cwV 1 hts gX7_readOne_X7_readMeasure rfl rfl rfl (by decide +kernel) ⟨by decide, by decide⟩) (rv_SText hK hP (by decide) (by decide)) rfl hl.1 rfl (Nat.le_of_ble_eq_true rfl) dX7_readOne_245 (Nat.zero_le _) (Nat.zero_le _) (fun r48 u48 H48 locs48 hp48 hP hS => ?_)
          obtain ⟨σ48, τ48⟩ := u48
          obtain ⟨hR, f48, hq48⟩ : P_X7_readMeasure σ14 (σ0 1 9) r48 σ48 := hp48
          have hP : va_P D vwCl (gw cA ad σ48 τ48) H48 := hP
          have hF := hF.step f48 (by decide)
          have t49 : (σ48 24 1).toInt = (σ14 24 1).toInt := congrArg Int32.toInt (f48.at 24 1 (by decide))
          exact r_zret hx hb hr hK hP hS hk (by omega) dX7_readOne_248 (show P_X7_readOne_d8 σ0 a1 r48 σ48 from ⟨hR, hF, by omega⟩)
        by_cases c50 : (σ0 1 9).toInt = 30
        · refine lv_tableIn (off := 171) (tgt := 243) hx hb dX7_readOne_72 (by omega) (by omega) (by rw [c50]; rfl) (by decide) ?_
          refine lv_aload_n hx hb dX7_readOne_243 rfl (lv_at hl 1 rfl) ?_
          refine lv_iload_n hx hb dX7_readOne_244 rfl (lv_at hl 0 rfl) ?_
          refine r_cVi (k := 27) (As := [.int (σ0 1 9)]) (rest := []) ⟨hx, hb, hml, hown, hts⟩ hK hP hN hS (c_X7_readMeasure l D cA ad hI σ14 τ14 hR (σ0 1 9) (by omega)) (cwV 1 hts gX7_readOne_X7_readMeasure rfl rfl rfl (by decide +kernel) ⟨by decide, by decide⟩) (rv_SText hK hP (by decide) (by decide)) rfl hl.1 rfl (Nat.le_of_ble_eq_true rfl) dX7_readOne_245 (Nat.zero_le _) (Nat.zero_le _) (fun r51 u51 H51 locs51 hp51 hP hS => ?_)
          obtain ⟨σ51, τ51⟩ := u51
          obtain ⟨hR, f51, hq51⟩ : P_X7_readMeasure σ14 (σ0 1 9) r51 σ51 := hp51
          have hP : va_P D vwCl (gw cA ad σ51 τ51) H51 := hP
          have hF := hF.step f51 (by decide)
          have t52 : (σ51 24 1).toInt = (σ14 24 1).toInt := congrArg Int32.toInt (f51.at 24 1 (by decide))
          exact r_zret hx hb hr hK hP hS hk (by omega) dX7_readOne_248 (show P_X7_readOne_d8 σ0 a1 r51 σ51 from ⟨hR, hF, by omega⟩)
        by_cases c53 : (σ0 1 9).toInt = 31
        · refine lv_tableIn (off := 177) (tgt := 249) hx hb dX7_readOne_72 (by omega) (by omega) (by rw [c53]; rfl) (by decide) ?_
          refine lv_aload_n hx hb dX7_readOne_249 rfl (lv_at hl 1 rfl) ?_
          refine fg_7_2 (k := 27) hx hb hts in_X7_readOne_7 hown hK hP (by decide) (by decide) (hts _ lk_X7_readOne_19) dX7_readOne_250 ?_
          refine lv_iload_n hx hb dX7_readOne_253 rfl (lv_at hl 0 rfl) ?_
          refine r_bipush hx hb dX7_readOne_254 (by decide) (fun z54 ez54 => ?_)
          refine r_iconst hx hb dX7_readOne_256 (by decide) (fun z55 ez55 => ?_)
          refine r_cVi (k := 24) (As := [.int (σ0 1 9), .int z54, .int z55]) (rest := []) ⟨hx, hb, hml, hown, hts⟩ hK hP hN hS (c_X6_add l D cA ad hI σ14 τ14 hR (σ0 1 9) z54 z55 (by omega)) (cwV 3 hts gX7_readOne_X6_add rfl rfl rfl (by decide +kernel) ⟨by decide, by decide⟩) (rv_Sent hK hP (by decide) (by decide)) rfl hl.1 rfl (Nat.le_of_ble_eq_true rfl) dX7_readOne_257 (Nat.zero_le _) (Nat.zero_le _) (fun r56 u56 H56 locs56 hp56 hP hS => ?_)
          obtain ⟨σ56, τ56⟩ := u56
          obtain ⟨hR, f56, hq56⟩ : P_X6_add σ14 (σ0 1 9) z54 z55 r56 σ56 := hp56
          have hP : va_P D vwCl (gw cA ad σ56 τ56) H56 := hP
          have hF := hF.step f56 (by decide)
          have t57 : (σ56 24 1).toInt = (σ14 24 1).toInt := congrArg Int32.toInt (f56.at 24 1 (by decide))
          exact r_zret hx hb hr hK hP hS hk (by omega) dX7_readOne_260 (show P_X7_readOne_d8 σ0 a1 r56 σ56 from ⟨hR, hF, by omega⟩)
        by_cases c58 : (σ0 1 9).toInt = 32
        · refine lv_tableIn (off := 177) (tgt := 249) hx hb dX7_readOne_72 (by omega) (by omega) (by rw [c58]; rfl) (by decide) ?_
          refine lv_aload_n hx hb dX7_readOne_249 rfl (lv_at hl 1 rfl) ?_
          refine fg_7_2 (k := 27) hx hb hts in_X7_readOne_7 hown hK hP (by decide) (by decide) (hts _ lk_X7_readOne_19) dX7_readOne_250 ?_
          refine lv_iload_n hx hb dX7_readOne_253 rfl (lv_at hl 0 rfl) ?_
          refine r_bipush hx hb dX7_readOne_254 (by decide) (fun z59 ez59 => ?_)
          refine r_iconst hx hb dX7_readOne_256 (by decide) (fun z60 ez60 => ?_)
          refine r_cVi (k := 24) (As := [.int (σ0 1 9), .int z59, .int z60]) (rest := []) ⟨hx, hb, hml, hown, hts⟩ hK hP hN hS (c_X6_add l D cA ad hI σ14 τ14 hR (σ0 1 9) z59 z60 (by omega)) (cwV 3 hts gX7_readOne_X6_add rfl rfl rfl (by decide +kernel) ⟨by decide, by decide⟩) (rv_Sent hK hP (by decide) (by decide)) rfl hl.1 rfl (Nat.le_of_ble_eq_true rfl) dX7_readOne_257 (Nat.zero_le _) (Nat.zero_le _) (fun r61 u61 H61 locs61 hp61 hP hS => ?_)
          obtain ⟨σ61, τ61⟩ := u61
          obtain ⟨hR, f61, hq61⟩ : P_X6_add σ14 (σ0 1 9) z59 z60 r61 σ61 := hp61
          have hP : va_P D vwCl (gw cA ad σ61 τ61) H61 := hP
          have hF := hF.step f61 (by decide)
          have t62 : (σ61 24 1).toInt = (σ14 24 1).toInt := congrArg Int32.toInt (f61.at 24 1 (by decide))
          exact r_zret hx hb hr hK hP hS hk (by omega) dX7_readOne_260 (show P_X7_readOne_d8 σ0 a1 r61 σ61 from ⟨hR, hF, by omega⟩)
        by_cases c63 : (σ0 1 9).toInt = 33
        · refine lv_tableIn (off := 177) (tgt := 249) hx hb dX7_readOne_72 (by omega) (by omega) (by rw [c63]; rfl) (by decide) ?_
          refine lv_aload_n hx hb dX7_readOne_249 rfl (lv_at hl 1 rfl) ?_
          refine fg_7_2 (k := 27) hx hb hts in_X7_readOne_7 hown hK hP (by decide) (by decide) (hts _ lk_X7_readOne_19) dX7_readOne_250 ?_
          refine lv_iload_n hx hb dX7_readOne_253 rfl (lv_at hl 0 rfl) ?_
          refine r_bipush hx hb dX7_readOne_254 (by decide) (fun z64 ez64 => ?_)
          refine r_iconst hx hb dX7_readOne_256 (by decide) (fun z65 ez65 => ?_)
          refine r_cVi (k := 24) (As := [.int (σ0 1 9), .int z64, .int z65]) (rest := []) ⟨hx, hb, hml, hown, hts⟩ hK hP hN hS (c_X6_add l D cA ad hI σ14 τ14 hR (σ0 1 9) z64 z65 (by omega)) (cwV 3 hts gX7_readOne_X6_add rfl rfl rfl (by decide +kernel) ⟨by decide, by decide⟩) (rv_Sent hK hP (by decide) (by decide)) rfl hl.1 rfl (Nat.le_of_ble_eq_true rfl) dX7_readOne_257 (Nat.zero_le _) (Nat.zero_le _) (fun r66 u66 H66 locs66 hp66 hP hS => ?_)
          obtain ⟨σ66, τ66⟩ := u66
          obtain ⟨hR, f66, hq66⟩ : P_X6_add σ14 (σ0 1 9) z64 z65 r66 σ66 := hp66
          have hP : va_P D vwCl (gw cA ad σ66 τ66) H66 := hP
          have hF := hF.step f66 (by decide)
          have t67 : (σ66 24 1).toInt = (σ14 24 1).toInt := congrArg Int32.toInt (f66.at 24 1 (by decide))
          exact r_zret hx hb hr hK hP hS hk (by omega) dX7_readOne_260 (show P_X7_readOne_d8 σ0 a1 r66 σ66 from ⟨hR, hF, by omega⟩)
        by_cases c68 : (σ0 1 9).toInt = 34
        · refine lv_tableIn (off := 177) (tgt := 249) hx hb dX7_readOne_72 (by omega) (by omega) (by rw [c68]; rfl) (by decide) ?_
          refine lv_aload_n hx hb dX7_readOne_249 rfl (lv_at hl 1 rfl) ?_
          refine fg_7_2 (k := 27) hx hb hts in_X7_readOne_7 hown hK hP (by decide) (by decide) (hts _ lk_X7_readOne_19) dX7_readOne_250 ?_
          refine lv_iload_n hx hb dX7_readOne_253 rfl (lv_at hl 0 rfl) ?_
          refine r_bipush hx hb dX7_readOne_254 (by decide) (fun z69 ez69 => ?_)
          refine r_iconst hx hb dX7_readOne_256 (by decide) (fun z70 ez70 => ?_)
          refine r_cVi (k := 24) (As := [.int (σ0 1 9), .int z69, .int z70]) (rest := []) ⟨hx, hb, hml, hown, hts⟩ hK hP hN hS (c_X6_add l D cA ad hI σ14 τ14 hR (σ0 1 9) z69 z70 (by omega)) (cwV 3 hts gX7_readOne_X6_add rfl rfl rfl (by decide +kernel) ⟨by decide, by decide⟩) (rv_Sent hK hP (by decide) (by decide)) rfl hl.1 rfl (Nat.le_of_ble_eq_true rfl) dX7_readOne_257 (Nat.zero_le _) (Nat.zero_le _) (fun r71 u71 H71 locs71 hp71 hP hS => ?_)
          obtain ⟨σ71, τ71⟩ := u71
          obtain ⟨hR, f71, hq71⟩ : P_X6_add σ14 (σ0 1 9) z69 z70 r71 σ71 := hp71
          have hP : va_P D vwCl (gw cA ad σ71 τ71) H71 := hP
          have hF := hF.step f71 (by decide)
          have t72 : (σ71 24 1).toInt = (σ14 24 1).toInt := congrArg Int32.toInt (f71.at 24 1 (by decide))
          exact r_zret hx hb hr hK hP hS hk (by omega) dX7_readOne_260 (show P_X7_readOne_d8 σ0 a1 r71 σ71 from ⟨hR, hF, by omega⟩)
        by_cases c73 : (σ0 1 9).toInt = 35
        · refine lv_tableIn (off := 177) (tgt := 249) hx hb dX7_readOne_72 (by omega) (by omega) (by rw [c73]; rfl) (by decide) ?_
          refine lv_aload_n hx hb dX7_readOne_249 rfl (lv_at hl 1 rfl) ?_
          refine fg_7_2 (k := 27) hx hb hts in_X7_readOne_7 hown hK hP (by decide) (by decide) (hts _ lk_X7_readOne_19) dX7_readOne_250 ?_
          refine lv_iload_n hx hb dX7_readOne_253 rfl (lv_at hl 0 rfl) ?_
          refine r_bipush hx hb dX7_readOne_254 (by decide) (fun z74 ez74 => ?_)
          refine r_iconst hx hb dX7_readOne_256 (by decide) (fun z75 ez75 => ?_)
          refine r_cVi (k := 24) (As := [.int (σ0 1 9), .int z74, .int z75]) (rest := []) ⟨hx, hb, hml, hown, hts⟩ hK hP hN hS (c_X6_add l D cA ad hI σ14 τ14 hR (σ0 1 9) z74 z75 (by omega)) (cwV 3 hts gX7_readOne_X6_add rfl rfl rfl (by decide +kernel) ⟨by decide, by decide⟩) (rv_Sent hK hP (by decide) (by decide)) rfl hl.1 rfl (Nat.le_of_ble_eq_true rfl) dX7_readOne_257 (Nat.zero_le _) (Nat.zero_le _) (fun r76 u76 H76 locs76 hp76 hP hS => ?_)
          obtain ⟨σ76, τ76⟩ := u76
          obtain ⟨hR, f76, hq76⟩ : P_X6_add σ14 (σ0 1 9) z74 z75 r76 σ76 := hp76
          have hP : va_P D vwCl (gw cA ad σ76 τ76) H76 := hP
          have hF := hF.step f76 (by decide)
          have t77 : (σ76 24 1).toInt = (σ14 24 1).toInt := congrArg Int32.toInt (f76.at 24 1 (by decide))
          exact r_zret hx hb hr hK hP hS hk (by omega) dX7_readOne_260 (show P_X7_readOne_d8 σ0 a1 r76 σ76 from ⟨hR, hF, by omega⟩)
        by_cases c78 : (σ0 1 9).toInt = 36
        · refine lv_tableIn (off := 177) (tgt := 249) hx hb dX7_readOne_72 (by omega) (by omega) (by rw [c78]; rfl) (by decide) ?_
          refine lv_aload_n hx hb dX7_readOne_249 rfl (lv_at hl 1 rfl) ?_
          refine fg_7_2 (k := 27) hx hb hts in_X7_readOne_7 hown hK hP (by decide) (by decide) (hts _ lk_X7_readOne_19) dX7_readOne_250 ?_
          refine lv_iload_n hx hb dX7_readOne_253 rfl (lv_at hl 0 rfl) ?_
          refine r_bipush hx hb dX7_readOne_254 (by decide) (fun z79 ez79 => ?_)
          refine r_iconst hx hb dX7_readOne_256 (by decide) (fun z80 ez80 => ?_)
          refine r_cVi (k := 24) (As := [.int (σ0 1 9), .int z79, .int z80]) (rest := []) ⟨hx, hb, hml, hown, hts⟩ hK hP hN hS (c_X6_add l D cA ad hI σ14 τ14 hR (σ0 1 9) z79 z80 (by omega)) (cwV 3 hts gX7_readOne_X6_add rfl rfl rfl (by decide +kernel) ⟨by decide, by decide⟩) (rv_Sent hK hP (by decide) (by decide)) rfl hl.1 rfl (Nat.le_of_ble_eq_true rfl) dX7_readOne_257 (Nat.zero_le _) (Nat.zero_le _) (fun r81 u81 H81 locs81 hp81 hP hS => ?_)
          obtain ⟨σ81, τ81⟩ := u81
          obtain ⟨hR, f81, hq81⟩ : P_X6_add σ14 (σ0 1 9) z79 z80 r81 σ81 := hp81
          have hP : va_P D vwCl (gw cA ad σ81 τ81) H81 := hP
          have hF := hF.step f81 (by decide)
          have t82 : (σ81 24 1).toInt = (σ14 24 1).toInt := congrArg Int32.toInt (f81.at 24 1 (by decide))
          exact r_zret hx hb hr hK hP hS hk (by omega) dX7_readOne_260 (show P_X7_readOne_d8 σ0 a1 r81 σ81 from ⟨hR, hF, by omega⟩)
        by_cases c83 : (σ0 1 9).toInt = 37
        · refine lv_tableIn (off := 177) (tgt := 249) hx hb dX7_readOne_72 (by omega) (by omega) (by rw [c83]; rfl) (by decide) ?_
          refine lv_aload_n hx hb dX7_readOne_249 rfl (lv_at hl 1 rfl) ?_
          refine fg_7_2 (k := 27) hx hb hts in_X7_readOne_7 hown hK hP (by decide) (by decide) (hts _ lk_X7_readOne_19) dX7_readOne_250 ?_
          refine lv_iload_n hx hb dX7_readOne_253 rfl (lv_at hl 0 rfl) ?_
          refine r_bipush hx hb dX7_readOne_254 (by decide) (fun z84 ez84 => ?_)
          refine r_iconst hx hb dX7_readOne_256 (by decide) (fun z85 ez85 => ?_)
          refine r_cVi (k := 24) (As := [.int (σ0 1 9), .int z84, .int z85]) (rest := []) ⟨hx, hb, hml, hown, hts⟩ hK hP hN hS (c_X6_add l D cA ad hI σ14 τ14 hR (σ0 1 9) z84 z85 (by omega)) (cwV 3 hts gX7_readOne_X6_add rfl rfl rfl (by decide +kernel) ⟨by decide, by decide⟩) (rv_Sent hK hP (by decide) (by decide)) rfl hl.1 rfl (Nat.le_of_ble_eq_true rfl) dX7_readOne_257 (Nat.zero_le _) (Nat.zero_le _) (fun r86 u86 H86 locs86 hp86 hP hS => ?_)
          obtain ⟨σ86, τ86⟩ := u86
          obtain ⟨hR, f86, hq86⟩ : P_X6_add σ14 (σ0 1 9) z84 z85 r86 σ86 := hp86
          have hP : va_P D vwCl (gw cA ad σ86 τ86) H86 := hP
          have hF := hF.step f86 (by decide)
          have t87 : (σ86 24 1).toInt = (σ14 24 1).toInt := congrArg Int32.toInt (f86.at 24 1 (by decide))
          exact r_zret hx hb hr hK hP hS hk (by omega) dX7_readOne_260 (show P_X7_readOne_d8 σ0 a1 r86 σ86 from ⟨hR, hF, by omega⟩)
        by_cases c88 : (σ0 1 9).toInt = 38
        · refine lv_tableIn (off := 177) (tgt := 249) hx hb dX7_readOne_72 (by omega) (by omega) (by rw [c88]; rfl) (by decide) ?_
          refine lv_aload_n hx hb dX7_readOne_249 rfl (lv_at hl 1 rfl) ?_
          refine fg_7_2 (k := 27) hx hb hts in_X7_readOne_7 hown hK hP (by decide) (by decide) (hts _ lk_X7_readOne_19) dX7_readOne_250 ?_
          refine lv_iload_n hx hb dX7_readOne_253 rfl (lv_at hl 0 rfl) ?_
          refine r_bipush hx hb dX7_readOne_254 (by decide) (fun z89 ez89 => ?_)
          refine r_iconst hx hb dX7_readOne_256 (by decide) (fun z90 ez90 => ?_)
          refine r_cVi (k := 24) (As := [.int (σ0 1 9), .int z89, .int z90]) (rest := []) ⟨hx, hb, hml, hown, hts⟩ hK hP hN hS (c_X6_add l D cA ad hI σ14 τ14 hR (σ0 1 9) z89 z90 (by omega)) (cwV 3 hts gX7_readOne_X6_add rfl rfl rfl (by decide +kernel) ⟨by decide, by decide⟩) (rv_Sent hK hP (by decide) (by decide)) rfl hl.1 rfl (Nat.le_of_ble_eq_true rfl) dX7_readOne_257 (Nat.zero_le _) (Nat.zero_le _) (fun r91 u91 H91 locs91 hp91 hP hS => ?_)
          obtain ⟨σ91, τ91⟩ := u91
          obtain ⟨hR, f91, hq91⟩ : P_X6_add σ14 (σ0 1 9) z89 z90 r91 σ91 := hp91
          have hP : va_P D vwCl (gw cA ad σ91 τ91) H91 := hP
          have hF := hF.step f91 (by decide)
          have t92 : (σ91 24 1).toInt = (σ14 24 1).toInt := congrArg Int32.toInt (f91.at 24 1 (by decide))
          exact r_zret hx hb hr hK hP hS hk (by omega) dX7_readOne_260 (show P_X7_readOne_d8 σ0 a1 r91 σ91 from ⟨hR, hF, by omega⟩)
        by_cases c93 : (σ0 1 9).toInt = 39
        · refine lv_tableIn (off := 177) (tgt := 249) hx hb dX7_readOne_72 (by omega) (by omega) (by rw [c93]; rfl) (by decide) ?_
          refine lv_aload_n hx hb dX7_readOne_249 rfl (lv_at hl 1 rfl) ?_
          refine fg_7_2 (k := 27) hx hb hts in_X7_readOne_7 hown hK hP (by decide) (by decide) (hts _ lk_X7_readOne_19) dX7_readOne_250 ?_
          refine lv_iload_n hx hb dX7_readOne_253 rfl (lv_at hl 0 rfl) ?_
          refine r_bipush hx hb dX7_readOne_254 (by decide) (fun z94 ez94 => ?_)
          refine r_iconst hx hb dX7_readOne_256 (by decide) (fun z95 ez95 => ?_)
          refine r_cVi (k := 24) (As := [.int (σ0 1 9), .int z94, .int z95]) (rest := []) ⟨hx, hb, hml, hown, hts⟩ hK hP hN hS (c_X6_add l D cA ad hI σ14 τ14 hR (σ0 1 9) z94 z95 (by omega)) (cwV 3 hts gX7_readOne_X6_add rfl rfl rfl (by decide +kernel) ⟨by decide, by decide⟩) (rv_Sent hK hP (by decide) (by decide)) rfl hl.1 rfl (Nat.le_of_ble_eq_true rfl) dX7_readOne_257 (Nat.zero_le _) (Nat.zero_le _) (fun r96 u96 H96 locs96 hp96 hP hS => ?_)
          obtain ⟨σ96, τ96⟩ := u96
          obtain ⟨hR, f96, hq96⟩ : P_X6_add σ14 (σ0 1 9) z94 z95 r96 σ96 := hp96
          have hP : va_P D vwCl (gw cA ad σ96 τ96) H96 := hP
          have hF := hF.step f96 (by decide)
          have t97 : (σ96 24 1).toInt = (σ14 24 1).toInt := congrArg Int32.toInt (f96.at 24 1 (by decide))
          exact r_zret hx hb hr hK hP hS hk (by omega) dX7_readOne_260 (show P_X7_readOne_d8 σ0 a1 r96 σ96 from ⟨hR, hF, by omega⟩)
        by_cases c98 : (σ0 1 9).toInt = 40
        · refine lv_tableIn (off := 177) (tgt := 249) hx hb dX7_readOne_72 (by omega) (by omega) (by rw [c98]; rfl) (by decide) ?_
          refine lv_aload_n hx hb dX7_readOne_249 rfl (lv_at hl 1 rfl) ?_
          refine fg_7_2 (k := 27) hx hb hts in_X7_readOne_7 hown hK hP (by decide) (by decide) (hts _ lk_X7_readOne_19) dX7_readOne_250 ?_
          refine lv_iload_n hx hb dX7_readOne_253 rfl (lv_at hl 0 rfl) ?_
          refine r_bipush hx hb dX7_readOne_254 (by decide) (fun z99 ez99 => ?_)
          refine r_iconst hx hb dX7_readOne_256 (by decide) (fun z100 ez100 => ?_)
          refine r_cVi (k := 24) (As := [.int (σ0 1 9), .int z99, .int z100]) (rest := []) ⟨hx, hb, hml, hown, hts⟩ hK hP hN hS (c_X6_add l D cA ad hI σ14 τ14 hR (σ0 1 9) z99 z100 (by omega)) (cwV 3 hts gX7_readOne_X6_add rfl rfl rfl (by decide +kernel) ⟨by decide, by decide⟩) (rv_Sent hK hP (by decide) (by decide)) rfl hl.1 rfl (Nat.le_of_ble_eq_true rfl) dX7_readOne_257 (Nat.zero_le _) (Nat.zero_le _) (fun r101 u101 H101 locs101 hp101 hP hS => ?_)
          obtain ⟨σ101, τ101⟩ := u101
          obtain ⟨hR, f101, hq101⟩ : P_X6_add σ14 (σ0 1 9) z99 z100 r101 σ101 := hp101
          have hP : va_P D vwCl (gw cA ad σ101 τ101) H101 := hP
          have hF := hF.step f101 (by decide)
          have t102 : (σ101 24 1).toInt = (σ14 24 1).toInt := congrArg Int32.toInt (f101.at 24 1 (by decide))
          exact r_zret hx hb hr hK hP hS hk (by omega) dX7_readOne_260 (show P_X7_readOne_d8 σ0 a1 r101 σ101 from ⟨hR, hF, by omega⟩)
        by_cases c103 : (σ0 1 9).toInt = 41
        · refine lv_tableIn (off := 177) (tgt := 249) hx hb dX7_readOne_72 (by omega) (by omega) (by rw [c103]; rfl) (by decide) ?_
          refine lv_aload_n hx hb dX7_readOne_249 rfl (lv_at hl 1 rfl) ?_
          refine fg_7_2 (k := 27) hx hb hts in_X7_readOne_7 hown hK hP (by decide) (by decide) (hts _ lk_X7_readOne_19) dX7_readOne_250 ?_
          refine lv_iload_n hx hb dX7_readOne_253 rfl (lv_at hl 0 rfl) ?_
          refine r_bipush hx hb dX7_readOne_254 (by decide) (fun z104 ez104 => ?_)
          refine r_iconst hx hb dX7_readOne_256 (by decide) (fun z105 ez105 => ?_)
          refine r_cVi (k := 24) (As := [.int (σ0 1 9), .int z104, .int z105]) (rest := []) ⟨hx, hb, hml, hown, hts⟩ hK hP hN hS (c_X6_add l D cA ad hI σ14 τ14 hR (σ0 1 9) z104 z105 (by omega)) (cwV 3 hts gX7_readOne_X6_add rfl rfl rfl (by decide +kernel) ⟨by decide, by decide⟩) (rv_Sent hK hP (by decide) (by decide)) rfl hl.1 rfl (Nat.le_of_ble_eq_true rfl) dX7_readOne_257 (Nat.zero_le _) (Nat.zero_le _) (fun r106 u106 H106 locs106 hp106 hP hS => ?_)
          obtain ⟨σ106, τ106⟩ := u106
          obtain ⟨hR, f106, hq106⟩ : P_X6_add σ14 (σ0 1 9) z104 z105 r106 σ106 := hp106
          have hP : va_P D vwCl (gw cA ad σ106 τ106) H106 := hP
          have hF := hF.step f106 (by decide)
          have t107 : (σ106 24 1).toInt = (σ14 24 1).toInt := congrArg Int32.toInt (f106.at 24 1 (by decide))
          exact r_zret hx hb hr hK hP hS hk (by omega) dX7_readOne_260 (show P_X7_readOne_d8 σ0 a1 r106 σ106 from ⟨hR, hF, by omega⟩)
        by_cases c108 : (σ0 1 9).toInt = 42
        · refine lv_tableIn (off := 177) (tgt := 249) hx hb dX7_readOne_72 (by omega) (by omega) (by rw [c108]; rfl) (by decide) ?_
          refine lv_aload_n hx hb dX7_readOne_249 rfl (lv_at hl 1 rfl) ?_
          refine fg_7_2 (k := 27) hx hb hts in_X7_readOne_7 hown hK hP (by decide) (by decide) (hts _ lk_X7_readOne_19) dX7_readOne_250 ?_
          refine lv_iload_n hx hb dX7_readOne_253 rfl (lv_at hl 0 rfl) ?_
          refine r_bipush hx hb dX7_readOne_254 (by decide) (fun z109 ez109 => ?_)
          refine r_iconst hx hb dX7_readOne_256 (by decide) (fun z110 ez110 => ?_)
          refine r_cVi (k := 24) (As := [.int (σ0 1 9), .int z109, .int z110]) (rest := []) ⟨hx, hb, hml, hown, hts⟩ hK hP hN hS (c_X6_add l D cA ad hI σ14 τ14 hR (σ0 1 9) z109 z110 (by omega)) (cwV 3 hts gX7_readOne_X6_add rfl rfl rfl (by decide +kernel) ⟨by decide, by decide⟩) (rv_Sent hK hP (by decide) (by decide)) rfl hl.1 rfl (Nat.le_of_ble_eq_true rfl) dX7_readOne_257 (Nat.zero_le _) (Nat.zero_le _) (fun r111 u111 H111 locs111 hp111 hP hS => ?_)
          obtain ⟨σ111, τ111⟩ := u111
          obtain ⟨hR, f111, hq111⟩ : P_X6_add σ14 (σ0 1 9) z109 z110 r111 σ111 := hp111
          have hP : va_P D vwCl (gw cA ad σ111 τ111) H111 := hP
          have hF := hF.step f111 (by decide)
          have t112 : (σ111 24 1).toInt = (σ14 24 1).toInt := congrArg Int32.toInt (f111.at 24 1 (by decide))
          exact r_zret hx hb hr hK hP hS hk (by omega) dX7_readOne_260 (show P_X7_readOne_d8 σ0 a1 r111 σ111 from ⟨hR, hF, by omega⟩)
        by_cases c113 : (σ0 1 9).toInt = 43
        · refine lv_tableIn (off := 177) (tgt := 249) hx hb dX7_readOne_72 (by omega) (by omega) (by rw [c113]; rfl) (by decide) ?_
          refine lv_aload_n hx hb dX7_readOne_249 rfl (lv_at hl 1 rfl) ?_
          refine fg_7_2 (k := 27) hx hb hts in_X7_readOne_7 hown hK hP (by decide) (by decide) (hts _ lk_X7_readOne_19) dX7_readOne_250 ?_
          refine lv_iload_n hx hb dX7_readOne_253 rfl (lv_at hl 0 rfl) ?_
          refine r_bipush hx hb dX7_readOne_254 (by decide) (fun z114 ez114 => ?_)
          refine r_iconst hx hb dX7_readOne_256 (by decide) (fun z115 ez115 => ?_)
          refine r_cVi (k := 24) (As := [.int (σ0 1 9), .int z114, .int z115]) (rest := []) ⟨hx, hb, hml, hown, hts⟩ hK hP hN hS (c_X6_add l D cA ad hI σ14 τ14 hR (σ0 1 9) z114 z115 (by omega)) (cwV 3 hts gX7_readOne_X6_add rfl rfl rfl (by decide +kernel) ⟨by decide, by decide⟩) (rv_Sent hK hP (by decide) (by decide)) rfl hl.1 rfl (Nat.le_of_ble_eq_true rfl) dX7_readOne_257 (Nat.zero_le _) (Nat.zero_le _) (fun r116 u116 H116 locs116 hp116 hP hS => ?_)
          obtain ⟨σ116, τ116⟩ := u116
          obtain ⟨hR, f116, hq116⟩ : P_X6_add σ14 (σ0 1 9) z114 z115 r116 σ116 := hp116
          have hP : va_P D vwCl (gw cA ad σ116 τ116) H116 := hP
          have hF := hF.step f116 (by decide)
          have t117 : (σ116 24 1).toInt = (σ14 24 1).toInt := congrArg Int32.toInt (f116.at 24 1 (by decide))
          exact r_zret hx hb hr hK hP hS hk (by omega) dX7_readOne_260 (show P_X7_readOne_d8 σ0 a1 r116 σ116 from ⟨hR, hF, by omega⟩)
        by_cases c118 : (σ0 1 9).toInt = 44
        · refine lv_tableIn (off := 138) (tgt := 210) hx hb dX7_readOne_72 (by omega) (by omega) (by rw [c118]; rfl) (by decide) ?_
          refine lv_aload_n hx hb dX7_readOne_210 rfl (lv_at hl 1 rfl) ?_
          refine lv_iload_n hx hb dX7_readOne_211 rfl (lv_at hl 2 rfl) ?_
          refine r_iconst hx hb dX7_readOne_212 (by decide) (fun z119 ez119 => ?_)
          refine r_iadd hx hb dX7_readOne_213 (by omega) (fun z120 ez120 => ?_)
          refine r_cVi (k := 27) (As := [.int z120]) (rest := []) ⟨hx, hb, hml, hown, hts⟩ hK hP hN hS (c_X7_readCond_d9 l D cA ad hI σ14 τ14 hR z120 (by omega)) (cwV 1 hts gX7_readOne_X7_readCond rfl rfl rfl (by decide +kernel) ⟨by decide, by decide⟩) (rv_SText hK hP (by decide) (by decide)) rfl hl.1 rfl (Nat.le_of_ble_eq_true rfl) dX7_readOne_214 (Nat.zero_le _) (Nat.zero_le _) (fun r121 u121 H121 locs121 hp121 hP hS => ?_)
          obtain ⟨σ121, τ121⟩ := u121
          obtain ⟨hR, f121, hq121⟩ : P_X7_readCond_d9 σ14 z120 r121 σ121 := hp121
          have hP : va_P D vwCl (gw cA ad σ121 τ121) H121 := hP
          have hF := hF.step f121 (by decide)
          have t122 : (σ121 24 1).toInt = (σ14 24 1).toInt := congrArg Int32.toInt (f121.at 24 1 (by decide))
          refine r_if_eq (tgt := 236) hx hb dX7_readOne_217 (by decide) (fun c123 => ?_) (fun c123 => ?_)
          · refine r_iconst hx hb dX7_readOne_236 (by decide) (fun z124 ez124 => ?_)
            exact r_zret hx hb hr hK hP hS hk (by omega) dX7_readOne_237 (show P_X7_readOne_d8 σ0 a1 z124 σ121 from ⟨hR, hF, by omega⟩)
          · exfalso; omega
        refine lv_tableOut (tgt := 249) hx hb dX7_readOne_72 (by omega) (by decide) ?_
        refine lv_aload_n hx hb dX7_readOne_249 rfl (lv_at hl 1 rfl) ?_
        refine fg_7_2 (k := 27) hx hb hts in_X7_readOne_7 hown hK hP (by decide) (by decide) (hts _ lk_X7_readOne_19) dX7_readOne_250 ?_
        refine lv_iload_n hx hb dX7_readOne_253 rfl (lv_at hl 0 rfl) ?_
        refine r_bipush hx hb dX7_readOne_254 (by decide) (fun z125 ez125 => ?_)
        refine r_iconst hx hb dX7_readOne_256 (by decide) (fun z126 ez126 => ?_)
        refine r_cVi (k := 24) (As := [.int (σ0 1 9), .int z125, .int z126]) (rest := []) ⟨hx, hb, hml, hown, hts⟩ hK hP hN hS (c_X6_add l D cA ad hI σ14 τ14 hR (σ0 1 9) z125 z126 (by omega)) (cwV 3 hts gX7_readOne_X6_add rfl rfl rfl (by decide +kernel) ⟨by decide, by decide⟩) (rv_Sent hK hP (by decide) (by decide)) rfl hl.1 rfl (Nat.le_of_ble_eq_true rfl) dX7_readOne_257 (Nat.zero_le _) (Nat.zero_le _) (fun r127 u127 H127 locs127 hp127 hP hS => ?_)
        obtain ⟨σ127, τ127⟩ := u127
        obtain ⟨hR, f127, hq127⟩ : P_X6_add σ14 (σ0 1 9) z125 z126 r127 σ127 := hp127
        have hP : va_P D vwCl (gw cA ad σ127 τ127) H127 := hP
        have hF := hF.step f127 (by decide)
        have t128 : (σ127 24 1).toInt = (σ14 24 1).toInt := congrArg Int32.toInt (f127.at 24 1 (by decide))
        exact r_zret hx hb hr hK hP hS hk (by omega) dX7_readOne_260 (show P_X7_readOne_d8 σ0 a1 r127 σ127 from ⟨hR, hF, by omega⟩)
      · exfalso; omega
  · refine lv_aload_n hx hb dX7_readOne_15 rfl (lv_at hl 1 rfl) ?_
    refine fg_7_0 (k := 27) hx hb hts in_X7_readOne_7 hown hK hP (by decide) (by decide) (hts _ lk_X7_readOne_9) dX7_readOne_16 ?_
    refine r_iconst hx hb dX7_readOne_19 (by decide) (fun z129 ez129 => ?_)
    refine r_cVi (k := 1) (As := [.int z129]) (rest := []) ⟨hx, hb, hml, hown, hts⟩ hK hP hN hS (c_X8_blame l D cA ad hI σ0 τ1 hR z129 (by omega)) (cwV 1 hts gX7_readOne_X8_blame rfl rfl rfl (by decide +kernel) ⟨by decide, by decide⟩) (rv_Tape hK hP (by decide) (by decide)) rfl hl.1 rfl (Nat.le_of_ble_eq_true rfl) dX7_readOne_20 (Nat.zero_le _) (Nat.zero_le _) (fun r130 u130 H130 locs130 hp130 hP hS => ?_)
    obtain ⟨σ130, τ130⟩ := u130
    obtain ⟨hR, f130, hq130⟩ : P_X8_blame σ0 z129 r130 σ130 := hp130
    have hP : va_P D vwCl (gw cA ad σ130 τ130) H130 := hP
    have hF := hF.step f130 (by decide)
    exact r_zret hx hb hr hK hP hS hk (by omega) dX7_readOne_23 (show P_X7_readOne_d8 σ0 a1 r130 σ130 from ⟨hR, hF, by omega⟩)
