abbrev L_X11_greatestCommon : List Rc := []
abbrev LL_X11_greatestCommon : List Rc := []
def P_X11_greatestCommon (σ0 : Nat → Nat → Int32) (τ0 : Nat → Nat → Int64) (a0 : Int32) (a1 : Int32) (r : Int32) (σ : Nat → Nat → Int32) (τ : Nat → Nat → Int64) : Prop := Rg σ ∧ Fr L_X11_greatestCommon σ0 σ ∧ FrL LL_X11_greatestCommon τ0 τ ∧ (1 ≤ r.toInt)
def J_X11_greatestCommon_7 (p : Program) (l : Launch) (e : Env) (s : State) (m : MethodId) (args : Array Value) (below : List Frame) (meth : Method) (c : Code) (D : va_G) (cA : Nat → ClassId) (ad : Nat → Nat) (σ0 : Nat → Nat → Int32) (τ0 : Nat → Nat → Int64) (a0 : Int32) (a1 : Int32) (n : Nat) : Prop := ∀ (σ : Nat → Nat → Int32) (τ : Nat → Nat → Int64) (H : Heap) (locs : List Loc) (x2 : Int32) (x3 : Int32) (x4 : Int32) (ls : Array Slot), Rg σ → Fr L_X11_greatestCommon σ0 σ → FrL LL_X11_greatestCommon τ0 τ → va_P D vwCl (gw cA ad σ τ) H → va_S (AA ad) s.heap H locs → (-1 ≤ x2.toInt) → (0 ≤ x4.toInt ∧ x4.toInt ≤ 64) → lv_has ls 6 [(0, .int a0), (1, .int a1), (2, .int x2), (3, .int x3), (4, .int x4)] → 2 * (64 - x4.toInt) + 1 < (n : Int) → W p l e ({ frames := 0, cells := 0, slots := 0, locals := 0 } : Room) s m args below meth c H locs 0 0 (MQ below (va_Qi (fun (r : Int32) (u : SS) => P_X11_greatestCommon σ0 τ0 a0 a1 r u.1 u.2) (WB D cA ad) (AA ad)) args s 0 0 (AA ad)) (F0 m 7 ls [])
set_option maxHeartbeats 4000000 in
theorem B_X11_greatestCommon_7 (p : Program) (l : Launch) (e : Env) (s : State) (m : MethodId) (args : Array Value) (below : List Frame) (meth : Method) (c : Code) (D : va_G) (cA : Nat → ClassId) (ad : Nat → Nat) (σ0 : Nat → Nat → Int32) (τ0 : Nat → Nat → Int64) (a0 : Int32) (a1 : Int32) (n : Nat) (C : Cy p s m args meth c cX11_greatestCommon 6 wsX11_greatestCommon RX11 D cA ad (some .int)) (ha0 : -1 ≤ a0.toInt) (K7 : J_X11_greatestCommon_7 p l e s m args below meth c D cA ad σ0 τ0 a0 a1 n) : J_X11_greatestCommon_7 p l e s m args below meth c D cA ad σ0 τ0 a0 a1 (n + 1) := by
  obtain ⟨hx, hb, hml, hown, hts, hK, hk, hr, hI, hN⟩ := C
  intro σ τ H locs x2 x3 x4 ls hR hF hFL hP hS hc0 hc1 hl hm
  obtain rfl := Fr.nil hF
  obtain rfl := FrL.nil hFL
  refine lv_iload hx hb dX11_greatestCommon_7 (lv_at hl 4 rfl) ?_
  refine r_bipush hx hb dX11_greatestCommon_9 (by decide) (fun z1 ez1 => ?_)
  refine r_icmp_ge (tgt := 34) hx hb dX11_greatestCommon_11 (by decide) (fun c2 => ?_) (fun c2 => ?_)
  · refine lv_iload_n hx hb dX11_greatestCommon_34 rfl (lv_at hl 2 rfl) ?_
    refine r_if_le (tgt := 42) hx hb dX11_greatestCommon_35 (by decide) (fun c3 => ?_) (fun c3 => ?_)
    · refine r_iconst hx hb dX11_greatestCommon_42 (by decide) (fun z4 ez4 => ?_)
      exact r_iret hx hb hr hK hP hS hk dX11_greatestCommon_43 (show P_X11_greatestCommon σ0 τ0 a0 a1 z4 σ0 τ0 from ⟨hR, hF, hFL, by omega⟩)
    · refine lv_iload_n hx hb dX11_greatestCommon_38 rfl (lv_at hl 2 rfl) ?_
      refine lv_goto (tgt := 43) hx hb dX11_greatestCommon_39 (by decide) ?_
      exact r_iret hx hb hr hK hP hS hk dX11_greatestCommon_43 (show P_X11_greatestCommon σ0 τ0 a0 a1 x2 σ0 τ0 from ⟨hR, hF, hFL, by omega⟩)
  · refine lv_iload_n hx hb dX11_greatestCommon_14 rfl (lv_at hl 3 rfl) ?_
    refine r_if_le (tgt := 34) hx hb dX11_greatestCommon_15 (by decide) (fun c5 => ?_) (fun c5 => ?_)
    · refine lv_iload_n hx hb dX11_greatestCommon_34 rfl (lv_at hl 2 rfl) ?_
      refine r_if_le (tgt := 42) hx hb dX11_greatestCommon_35 (by decide) (fun c6 => ?_) (fun c6 => ?_)
      · refine r_iconst hx hb dX11_greatestCommon_42 (by decide) (fun z7 ez7 => ?_)
        exact r_iret hx hb hr hK hP hS hk dX11_greatestCommon_43 (show P_X11_greatestCommon σ0 τ0 a0 a1 z7 σ0 τ0 from ⟨hR, hF, hFL, by omega⟩)
      · refine lv_iload_n hx hb dX11_greatestCommon_38 rfl (lv_at hl 2 rfl) ?_
        refine lv_goto (tgt := 43) hx hb dX11_greatestCommon_39 (by decide) ?_
        exact r_iret hx hb hr hK hP hS hk dX11_greatestCommon_43 (show P_X11_greatestCommon σ0 τ0 a0 a1 x2 σ0 τ0 from ⟨hR, hF, hFL, by omega⟩)
    · refine lv_iload_n hx hb dX11_greatestCommon_18 rfl (lv_at hl 2 rfl) ?_
      refine lv_iload_n hx hb dX11_greatestCommon_19 rfl (lv_at hl 3 rfl) ?_
      refine r_irem hx hb dX11_greatestCommon_20 (by omega) (fun z8 ez8 => ?_)
      have fz8 := ti_tm (a := x2.toInt) (b := x3.toInt) (by omega)
      refine lv_istore (lv' := [(5, .int z8), (0, .int a0), (1, .int a1), (2, .int x2), (3, .int x3), (4, .int x4)]) hx hb dX11_greatestCommon_21 hl (by decide) rfl (fun ls hl => ?_)
      refine lv_iload_n hx hb dX11_greatestCommon_23 rfl (lv_at hl 4 rfl) ?_
      refine lv_istore_n (lv' := [(2, .int x3), (5, .int z8), (0, .int a0), (1, .int a1), (3, .int x3), (4, .int x4)]) hx hb dX11_greatestCommon_24 rfl hl (by decide) rfl (fun ls hl => ?_)
      refine lv_iload hx hb dX11_greatestCommon_25 (lv_at hl 1 rfl) ?_
      refine lv_istore_n (lv' := [(3, .int z8), (2, .int x3), (5, .int z8), (0, .int a0), (1, .int a1), (4, .int x4)]) hx hb dX11_greatestCommon_27 rfl hl (by decide) rfl (fun ls hl => ?_)
      refine r_iinc (k := 5) (lv1 := fun z9 => [(4, .int z9), (3, .int z8), (2, .int x3), (5, .int z8), (0, .int a0), (1, .int a1)]) hx hb dX11_greatestCommon_28 hl rfl (by decide) (fun _ => rfl) (by decide) (by omega) (fun z9 ls ez9 hl => ?_)
      refine lv_goto (tgt := 7) hx hb dX11_greatestCommon_31 (by decide) ?_
      exact K7 σ0 τ0 H locs x3 z8 z9 ls hR hF hFL hP hS (by omega) (by omega) (lv_sub hl [4, 5, 2, 1, 0] rfl) (by omega)
theorem A_X11_greatestCommon (p : Program) (l : Launch) (e : Env) (s : State) (m : MethodId) (args : Array Value) (below : List Frame) (meth : Method) (c : Code) (D : va_G) (cA : Nat → ClassId) (ad : Nat → Nat) (σ0 : Nat → Nat → Int32) (τ0 : Nat → Nat → Int64) (a0 : Int32) (a1 : Int32) (C : Cy p s m args meth c cX11_greatestCommon 6 wsX11_greatestCommon RX11 D cA ad (some .int)) (ha0 : -1 ≤ a0.toInt) : ∀ n : Nat, J_X11_greatestCommon_7 p l e s m args below meth c D cA ad σ0 τ0 a0 a1 n := by
  intro n
  induction n with
  | zero =>
    exact (by intro σ τ H locs x2 x3 x4 ls hR hF hFL hP hS hc0 hc1 hl hm; exfalso; omega)
  | succ n ih =>
    exact B_X11_greatestCommon_7 p l e s m args below meth c D cA ad σ0 τ0 a0 a1 n C ha0 ih
set_option maxHeartbeats 4000000 in
theorem c_X11_greatestCommon (l : Launch) (D : va_G) (cA : Nat → ClassId) (ad : Nat → Nat) (hI : Inj ad) (σ0 : Nat → Nat → Int32) (τ0 : Nat → Nat → Int64) (hR : Rg σ0) (a0 : Int32) (a1 : Int32) (ha0 : -1 ≤ a0.toInt) : Met l yX11_greatestCommon wsX11_greatestCommon ({ frames := 0, cells := 0, slots := 0, locals := 0 } : Room) (WQc D cA ad [.int a0, .int a1] σ0 τ0) (va_Qi (fun (r : Int32) (u : SS) => P_X11_greatestCommon σ0 τ0 a0 a1 r u.1 u.2) (WB D cA ad) (AA ad)) 0 0 (AA ad) := by
  refine Met.ofW (cc := cX11_greatestCommon) (maxL := 6) (ret := (some .int)) (by decide) rfl ?_
  intro p e s m args below meth c s₁ B hml hv
  obtain ⟨rfl, hP, hK, hN⟩ := hv
  have C : Cy p s m _ meth c cX11_greatestCommon 6 wsX11_greatestCommon RX11 D cA ad (some .int) := ⟨B.exec, B.bytes, hml, findClass_of_methodNamed B.named, atoms_spec (ws := wsX11_greatestCommon) B.pre, hK, B.notSynchronized, B.returns, hI, hN⟩
  have hl := lv_entry ([.int a0, .int a1]) (n := 6) (Nat.le_of_ble_eq_true rfl)
  rw [lg_entry_eq]
  generalize (lg_sl ([.int a0, .int a1]) ++ List.replicate (6 - (lg_sl ([.int a0, .int a1])).length) Slot.unset).toArray = ls at hl ⊢
  have hl : lv_has ls 6 [(0, .int a0), (1, .int a1)] := hl
  have hS : va_S (AA ad) s.heap s.heap [] := va_S.rf
  have hF : Fr L_X11_greatestCommon σ0 σ0 := Fr.rf
  have hFL : FrL LL_X11_greatestCommon τ0 τ0 := FrL.rf
  have hA := A_X11_greatestCommon p l e s m _ below meth c D cA ad σ0 τ0 a0 a1 C ha0 266
  have K7 := hA
  clear hA
  obtain ⟨hx, hb, _, hown, hts, _, hk, hr, _, _⟩ := C
  refine lv_iload_n hx hb dX11_greatestCommon_0 rfl (lv_at hl 0 rfl) ?_
  refine lv_istore_n (lv' := [(2, .int a0), (0, .int a0), (1, .int a1)]) hx hb dX11_greatestCommon_1 rfl hl (by decide) rfl (fun ls hl => ?_)
  refine lv_iload_n hx hb dX11_greatestCommon_2 rfl (lv_at hl 2 rfl) ?_
  refine lv_istore_n (lv' := [(3, .int a1), (2, .int a0), (0, .int a0), (1, .int a1)]) hx hb dX11_greatestCommon_3 rfl hl (by decide) rfl (fun ls hl => ?_)
  refine r_iconst hx hb dX11_greatestCommon_4 (by decide) (fun z1 ez1 => ?_)
  refine lv_istore (lv' := [(4, .int z1), (3, .int a1), (2, .int a0), (0, .int a0), (1, .int a1)]) hx hb dX11_greatestCommon_5 hl (by decide) rfl (fun ls hl => ?_)
  exact K7 σ0 τ0 s.heap [] a0 a1 z1 ls hR hF hFL hP hS (by omega) (by omega) (lv_sub hl [3, 4, 2, 1, 0] rfl) (by omega)
theorem in_X11_tellBest_11 : ∀ w ∈ u_ws RX11 TX11 19, w ∈ wsX11_tellBest := by decide +kernel
theorem lk_X11_tellBest_108 : Cond.fieldLink RX11 108 "CuckooShares" "bestMean" "[I" ∈ wsX11_tellBest := by decide +kernel
theorem lk_X11_tellBest_19 : Cond.fieldLink RX11 19 "CuckooShares" "valley" "LCuckooShares$Valley;" ∈ wsX11_tellBest := by decide +kernel
abbrev L_X11_tellBest : List Rc := [(33, 33, 0, 1)]
abbrev LL_X11_tellBest : List Rc := []
def P_X11_tellBest (σ0 : Nat → Nat → Int32) (τ0 : Nat → Nat → Int64) (a1 : Int32) (σ : Nat → Nat → Int32) (τ : Nat → Nat → Int64) : Prop := Rg σ ∧ Fr L_X11_tellBest σ0 σ ∧ FrL LL_X11_tellBest τ0 τ
set_option maxHeartbeats 4000000 in
theorem c_X11_tellBest (l : Launch) (D : va_G) (cA : Nat → ClassId) (ad : Nat → Nat) (hI : Inj ad) (σ0 : Nat → Nat → Int32) (τ0 : Nat → Nat → Int64) (hR : Rg σ0) (a1 : Int32) (ha1 : -1 ≤ a1.toInt) : Met l yX11_tellBest wsX11_tellBest ({ frames := 1, cells := 0, slots := 0, locals := 25 } : Room) (WQc D cA ad [.ref (ad 0), .int a1] σ0 τ0) (va_Qv (fun u : SS => P_X11_tellBest σ0 τ0 a1 u.1 u.2) (WB D cA ad) (AA ad)) 0 0 (AA ad) := by
  refine Met.ofW (cc := cX11_tellBest) (maxL := 4) (ret := none) (by decide) rfl ?_
  intro p e s m args below meth c s₁ B hml hv
  obtain ⟨rfl, hP, hK, hN⟩ := hv
  have C : Cy p s m _ meth c cX11_tellBest 4 wsX11_tellBest RX11 D cA ad none := ⟨B.exec, B.bytes, hml, findClass_of_methodNamed B.named, atoms_spec (ws := wsX11_tellBest) B.pre, hK, B.notSynchronized, B.returns, hI, hN⟩
  have hl := lv_entry ([.ref (ad 0), .int a1]) (n := 4) (Nat.le_of_ble_eq_true rfl)
  rw [lg_entry_eq]
  generalize (lg_sl ([.ref (ad 0), .int a1]) ++ List.replicate (4 - (lg_sl ([.ref (ad 0), .int a1])).length) Slot.unset).toArray = ls at hl ⊢
  have hl : lv_has ls 4 [(0, .ref (ad 0)), (1, .int a1)] := hl
  have hS : va_S (AA ad) s.heap s.heap [] := va_S.rf
  have hF : Fr L_X11_tellBest σ0 σ0 := Fr.rf
  have hFL : FrL LL_X11_tellBest τ0 τ0 := FrL.rf
  obtain ⟨hx, hb, _, hown, hts, _, hk, hr, _, _⟩ := C
  refine lv_aload_n hx hb dX11_tellBest_0 rfl (lv_at hl 0 rfl) ?_
  refine fg_11_1 (k := 0) hx hb hts in_X11_tellBest_11 hown hK hP (by decide) (by decide) (hts _ lk_X11_tellBest_19) dX11_tellBest_1 ?_
  refine r_cVi (k := 2) (As := []) (rest := []) ⟨hx, hb, hml, hown, hts⟩ hK hP hN hS (c_X9_chances l D cA ad hI σ0 τ0 hR) (cwV 0 hts gX11_tellBest_X9_chances rfl rfl rfl (by decide +kernel) ⟨by decide, by decide⟩) (rv_Valley hK hP (by decide) (by decide)) rfl hl.1 rfl (Nat.le_of_ble_eq_true rfl) dX11_tellBest_4 (Nat.zero_le _) (Nat.zero_le _) (fun r1 u1 H1 locs1 hp1 hP hS => ?_)
  obtain ⟨σ1, τ1⟩ := u1
  obtain ⟨hR, f1, fL1⟩ : P_X9_chances σ0 τ0 r1 σ1 τ1 := hp1
  have hP : va_P D vwCl (gw cA ad σ1 τ1) H1 := hP
  obtain rfl := FrL.nil fL1
  obtain rfl := Fr.nil f1
  refine lv_istore_n (lv' := [(2, .int r1), (0, .ref (ad 0)), (1, .int a1)]) hx hb dX11_tellBest_7 rfl hl (by decide) rfl (fun ls hl => ?_)
  refine lv_iload_n hx hb dX11_tellBest_8 rfl (lv_at hl 2 rfl) ?_
  refine lv_iload_n hx hb dX11_tellBest_9 rfl (lv_at hl 0 rfl) ?_
  refine r_cSi (As := [.int a1, .int r1]) (rest := []) ⟨hx, hb, hml, hown, hts⟩ hK hP hN hS (c_X11_greatestCommon l D cA ad hI σ0 τ0 hR a1 r1 (by omega)) (va_cwS 2 hts gX11_tellBest_X11_greatestCommon rfl rfl rfl (by decide +kernel) ⟨by decide, by decide⟩) rfl hl.1 rfl (Nat.le_of_ble_eq_true rfl) dX11_tellBest_10 (Nat.zero_le _) (Nat.zero_le _) (fun r2 u2 H2 locs2 hp2 hP hS => ?_)
  obtain ⟨σ2, τ2⟩ := u2
  obtain ⟨hR, f2, fL2, hq2⟩ : P_X11_greatestCommon σ0 τ0 a1 r1 r2 σ2 τ2 := hp2
  have hP : va_P D vwCl (gw cA ad σ2 τ2) H2 := hP
  obtain rfl := FrL.nil fL2
  obtain rfl := Fr.nil f2
  refine lv_istore_n (lv' := [(3, .int r2), (2, .int r1), (0, .ref (ad 0)), (1, .int a1)]) hx hb dX11_tellBest_13 rfl hl (by decide) rfl (fun ls hl => ?_)
  refine lv_aload_n hx hb dX11_tellBest_14 rfl (lv_at hl 2 rfl) ?_
  refine fg_11_15 (k := 0) hx hb hts in_X11_tellBest_11 hown hK hP (by decide) (by decide) (hts _ lk_X11_tellBest_108) dX11_tellBest_15 ?_
  refine r_iconst hx hb dX11_tellBest_18 (by decide) (fun z3 ez3 => ?_)
  refine lv_iload_n hx hb dX11_tellBest_19 rfl (lv_at hl 3 rfl) ?_
  refine lv_iload_n hx hb dX11_tellBest_20 rfl (lv_at hl 0 rfl) ?_
  refine r_idiv hx hb dX11_tellBest_21 (by omega) (fun z4 => ?_)
  refine as_best (k := 33) (j := 0) hx hb hK hP hI hR hS (by decide) (by decide) (by omega) (by omega) dX11_tellBest_22 (fun σ5 H5 locs5 u5 v5 hR hP hS => ?_)
  have hF := hF.puts u5 0 rfl (by decide) (by decide) (by decide) (by decide)
  refine lv_aload_n hx hb dX11_tellBest_23 rfl (lv_at hl 2 rfl) ?_
  refine fg_11_15 (k := 0) hx hb hts in_X11_tellBest_11 hown hK hP (by decide) (by decide) (hts _ lk_X11_tellBest_108) dX11_tellBest_24 ?_
  refine r_iconst hx hb dX11_tellBest_27 (by decide) (fun z6 ez6 => ?_)
  refine lv_iload_n hx hb dX11_tellBest_28 rfl (lv_at hl 1 rfl) ?_
  refine lv_iload_n hx hb dX11_tellBest_29 rfl (lv_at hl 0 rfl) ?_
  refine r_idiv hx hb dX11_tellBest_30 (by omega) (fun z7 => ?_)
  refine as_best (k := 33) (j := 1) hx hb hK hP hI hR hS (by decide) (by decide) (by omega) (by omega) dX11_tellBest_31 (fun σ8 H8 locs8 u8 v8 hR hP hS => ?_)
  have hF := hF.puts u8 0 rfl (by decide) (by decide) (by decide) (by decide)
  exact r_vret hx hb hr hK hP hS hk dX11_tellBest_32 (show P_X11_tellBest σ0 τ0 a1 σ8 τ0 from ⟨hR, hF, hFL⟩)
theorem in_X11_beside_11 : ∀ w ∈ u_ws RX11 TX11 19, w ∈ wsX11_beside := by decide +kernel
theorem in_X11_beside_9 : ∀ w ∈ u_ws RX9 TX9 14, w ∈ wsX11_beside := by decide +kernel
theorem lk_X11_beside_19 : Cond.fieldLink RX11 19 "CuckooShares" "valley" "LCuckooShares$Valley;" ∈ wsX11_beside := by decide +kernel
theorem lk_X11_beside_38 : Cond.fieldLink RX11 38 "CuckooShares" "days" "LCuckooShares$Days;" ∈ wsX11_beside := by decide +kernel
theorem lk_X11_beside_60 : Cond.fieldLink RX11 60 "CuckooShares" "camp" "LCuckooShares$Camp;" ∈ wsX11_beside := by decide +kernel
abbrev L_X11_beside : List Rc := [(363, 363, 0, 39), (360, 360, 0, 7), (361, 361, 0, 7), (362, 362, 0, 7), (33, 33, 0, 1), (365, 365, 0, 1), (366, 366, 0, 1), (367, 367, 0, 1)]
abbrev LL_X11_beside : List Rc := []
def P_X11_beside (σ0 : Nat → Nat → Int32) (τ0 : Nat → Nat → Int64) (a1 : Int32) (r : Int32) (σ : Nat → Nat → Int32) (τ : Nat → Nat → Int64) : Prop := Rg σ ∧ Fr L_X11_beside σ0 σ ∧ FrL LL_X11_beside τ0 τ ∧ (-1 ≤ r.toInt ∧ r.toInt ≤ 7)
def J_X11_beside_48 (p : Program) (l : Launch) (e : Env) (s : State) (m : MethodId) (args : Array Value) (below : List Frame) (meth : Method) (c : Code) (D : va_G) (cA : Nat → ClassId) (ad : Nat → Nat) (σ0 : Nat → Nat → Int32) (τ0 : Nat → Nat → Int64) (a1 : Int32) (n : Nat) : Prop := ∀ (σ : Nat → Nat → Int32) (τ : Nat → Nat → Int64) (H : Heap) (locs : List Loc) (x2 : Int32) (x3 : Int32) (x4 : Int32) (ls : Array Slot), Rg σ → Fr L_X11_beside σ0 σ → FrL LL_X11_beside τ0 τ → va_P D vwCl (gw cA ad σ τ) H → va_S (AA ad) s.heap H locs → (0 ≤ a1.toInt ∧ a1.toInt ≤ 7) → (-1 ≤ x2.toInt ∧ x2.toInt ≤ 7) → (-1 ≤ x3.toInt) → (0 ≤ x4.toInt ∧ x4.toInt ≤ 8) → lv_has ls 6 [(0, .ref (ad 0)), (1, .int a1), (2, .int x2), (3, .int x3), (4, .int x4)] → 2 * (8 - x4.toInt) + 1 < (n : Int) → W p l e ({ frames := 6, cells := 0, slots := 0, locals := 138 } : Room) s m args below meth c H locs 0 0 (MQ below (va_Qi (fun (r : Int32) (u : SS) => P_X11_beside σ0 τ0 a1 r u.1 u.2) (WB D cA ad) (AA ad)) args s 0 0 (AA ad)) (F0 m 48 ls [])
set_option maxHeartbeats 4000000 in
theorem B_X11_beside_48 (p : Program) (l : Launch) (e : Env) (s : State) (m : MethodId) (args : Array Value) (below : List Frame) (meth : Method) (c : Code) (D : va_G) (cA : Nat → ClassId) (ad : Nat → Nat) (σ0 : Nat → Nat → Int32) (τ0 : Nat → Nat → Int64) (a1 : Int32) (n : Nat) (C : Cy p s m args meth c cX11_beside 6 wsX11_beside RX11 D cA ad (some .int))  (K48 : J_X11_beside_48 p l e s m args below meth c D cA ad σ0 τ0 a1 n) : J_X11_beside_48 p l e s m args below meth c D cA ad σ0 τ0 a1 (n + 1) := by
  obtain ⟨hx, hb, hml, hown, hts, hK, hk, hr, hI, hN⟩ := C
  intro σ τ H locs x2 x3 x4 ls hR hF hFL hP hS hc0 hc1 hc2 hc3 hl hm
  obtain rfl := FrL.nil hFL
  refine lv_iload hx hb dX11_beside_48 (lv_at hl 4 rfl) ?_
  refine lv_aload_n hx hb dX11_beside_50 rfl (lv_at hl 0 rfl) ?_
  refine fg_11_1 (k := 0) hx hb hts in_X11_beside_11 hown hK hP (by decide) (by decide) (hts _ lk_X11_beside_19) dX11_beside_51 ?_
  refine fgN_9_4 (k := 2) hx hb hts in_X11_beside_9 hown hK hP (by decide) (by decide) (hN.use nw_11_235) dX11_beside_54 ?_
  have hr1 := rg_9_4 hR (k := 2) (by decide) (by decide)
  refine r_icmp_ge (tgt := 98) hx hb dX11_beside_57 (by decide) (fun c2 => ?_) (fun c2 => ?_)
  · refine lv_aload_n hx hb dX11_beside_98 rfl (lv_at hl 0 rfl) ?_
    refine lv_iload_n hx hb dX11_beside_99 rfl (lv_at hl 3 rfl) ?_
    refine r_cVv (k := 0) (As := [.int x3]) (rest := []) ⟨hx, hb, hml, hown, hts⟩ hK hP hN hS (c_X11_tellBest l D cA ad hI σ τ0 hR x3 (by omega)) (cwV 1 hts gX11_beside_X11_tellBest rfl rfl rfl (by decide +kernel) ⟨by decide, by decide⟩) (rv_X hK hP (by decide) (by decide)) rfl hl.1 rfl (Nat.le_of_ble_eq_true rfl) dX11_beside_100 (Nat.zero_le _) (Nat.zero_le _) (fun u3 H3 locs3 hp3 hP hS => ?_)
    obtain ⟨σ3, τ3⟩ := u3
    obtain ⟨hR, f3, fL3⟩ : P_X11_tellBest σ τ0 x3 σ3 τ3 := hp3
    have hP : va_P D vwCl (gw cA ad σ3 τ3) H3 := hP
    obtain rfl := FrL.nil fL3
    have hF := hF.step f3 (by decide)
    refine lv_iload_n hx hb dX11_beside_103 rfl (lv_at hl 2 rfl) ?_
    exact r_iret hx hb hr hK hP hS hk dX11_beside_104 (show P_X11_beside σ0 τ0 a1 x2 σ3 τ0 from ⟨hR, hF, hFL, by omega⟩)
  · refine lv_aload_n hx hb dX11_beside_60 rfl (lv_at hl 0 rfl) ?_
    refine fg_11_8 (k := 0) hx hb hts in_X11_beside_11 hown hK hP (by decide) (by decide) (hts _ lk_X11_beside_60) dX11_beside_61 ?_
    refine lv_iload_n hx hb dX11_beside_64 rfl (lv_at hl 1 rfl) ?_
    refine lv_iload hx hb dX11_beside_65 (lv_at hl 4 rfl) ?_
    refine r_cVv (k := 21) (As := [.int a1, .int x4]) (rest := []) ⟨hx, hb, hml, hown, hts⟩ hK hP hN hS (c_X1_putOnHill l D cA ad hI σ τ0 hR a1 x4 (by omega)) (cwV 2 hts gX11_beside_X1_putOnHill rfl rfl rfl (by decide +kernel) ⟨by decide, by decide⟩) (rv_Camp hK hP (by decide) (by decide)) rfl hl.1 rfl (Nat.le_of_ble_eq_true rfl) dX11_beside_67 (Nat.zero_le _) (Nat.zero_le _) (fun u4 H4 locs4 hp4 hP hS => ?_)
    obtain ⟨σ4, τ4⟩ := u4
    obtain ⟨hR, f4, fL4⟩ : P_X1_putOnHill σ τ0 a1 x4 σ4 τ4 := hp4
    have hP : va_P D vwCl (gw cA ad σ4 τ4) H4 := hP
    obtain rfl := FrL.nil fL4
    have hF := hF.step f4 (by decide)
    refine lv_aload_n hx hb dX11_beside_70 rfl (lv_at hl 0 rfl) ?_
    refine fg_11_8 (k := 0) hx hb hts in_X11_beside_11 hown hK hP (by decide) (by decide) (hts _ lk_X11_beside_60) dX11_beside_71 ?_
    refine lv_iload_n hx hb dX11_beside_74 rfl (lv_at hl 1 rfl) ?_
    refine r_cVi (k := 21) (As := [.int a1]) (rest := []) ⟨hx, hb, hml, hown, hts⟩ hK hP hN hS (c_X1_shareHeardAnew l D cA ad hI σ4 τ0 hR a1 (by omega)) (cwV 1 hts gX11_beside_X1_shareHeardAnew rfl rfl rfl (by decide +kernel) ⟨by decide, by decide⟩) (rv_Camp hK hP (by decide) (by decide)) rfl hl.1 rfl (Nat.le_of_ble_eq_true rfl) dX11_beside_75 (Nat.zero_le _) (Nat.zero_le _) (fun r5 u5 H5 locs5 hp5 hP hS => ?_)
    obtain ⟨σ5, τ5⟩ := u5
    obtain ⟨hR, f5, fL5⟩ : P_X1_shareHeardAnew σ4 τ0 a1 r5 σ5 τ5 := hp5
    have hP : va_P D vwCl (gw cA ad σ5 τ5) H5 := hP
    obtain rfl := FrL.nil fL5
    have hF := hF.step f5 (by decide)
    refine lv_istore (lv' := [(5, .int r5), (0, .ref (ad 0)), (1, .int a1), (2, .int x2), (3, .int x3), (4, .int x4)]) hx hb dX11_beside_78 hl (by decide) rfl (fun ls hl => ?_)
    refine lv_iload hx hb dX11_beside_80 (lv_at hl 0 rfl) ?_
    refine lv_iload_n hx hb dX11_beside_82 rfl (lv_at hl 4 rfl) ?_
    refine r_icmp_le (tgt := 92) hx hb dX11_beside_83 (by decide) (fun c6 => ?_) (fun c6 => ?_)
    · refine r_iinc (k := 5) (lv1 := fun z7 => [(4, .int z7), (5, .int r5), (0, .ref (ad 0)), (1, .int a1), (2, .int x2), (3, .int x3)]) hx hb dX11_beside_92 hl rfl (by decide) (fun _ => rfl) (by decide) (by omega) (fun z7 ls ez7 hl => ?_)
      refine lv_goto (tgt := 48) hx hb dX11_beside_95 (by decide) ?_
      exact K48 σ5 τ0 H5 locs5 x2 x3 z7 ls hR hF hFL hP hS (by omega) (by omega) (by omega) (by omega) (lv_sub hl [2, 3, 4, 5, 0] rfl) (by omega)
    · refine lv_iload hx hb dX11_beside_86 (lv_at hl 0 rfl) ?_
      refine lv_istore_n (lv' := [(3, .int r5), (5, .int r5), (0, .ref (ad 0)), (1, .int a1), (2, .int x2), (4, .int x4)]) hx hb dX11_beside_88 rfl hl (by decide) rfl (fun ls hl => ?_)
      refine lv_iload hx hb dX11_beside_89 (lv_at hl 5 rfl) ?_
      refine lv_istore_n (lv' := [(2, .int x4), (3, .int r5), (5, .int r5), (0, .ref (ad 0)), (1, .int a1), (4, .int x4)]) hx hb dX11_beside_91 rfl hl (by decide) rfl (fun ls hl => ?_)
      refine r_iinc (k := 5) (lv1 := fun z8 => [(4, .int z8), (2, .int x4), (3, .int r5), (5, .int r5), (0, .ref (ad 0)), (1, .int a1)]) hx hb dX11_beside_92 hl rfl (by decide) (fun _ => rfl) (by decide) (by omega) (fun z8 ls ez8 hl => ?_)
      refine lv_goto (tgt := 48) hx hb dX11_beside_95 (by decide) ?_
      exact K48 σ5 τ0 H5 locs5 x4 r5 z8 ls hR hF hFL hP hS (by omega) (by omega) (by omega) (by omega) (lv_sub hl [4, 5, 1, 2, 0] rfl) (by omega)
theorem A_X11_beside (p : Program) (l : Launch) (e : Env) (s : State) (m : MethodId) (args : Array Value) (below : List Frame) (meth : Method) (c : Code) (D : va_G) (cA : Nat → ClassId) (ad : Nat → Nat) (σ0 : Nat → Nat → Int32) (τ0 : Nat → Nat → Int64) (a1 : Int32) (C : Cy p s m args meth c cX11_beside 6 wsX11_beside RX11 D cA ad (some .int))  : ∀ n : Nat, J_X11_beside_48 p l e s m args below meth c D cA ad σ0 τ0 a1 n := by
  intro n
  induction n with
  | zero =>
    exact (by intro σ τ H locs x2 x3 x4 ls hR hF hFL hP hS hc0 hc1 hc2 hc3 hl hm; exfalso; omega)
  | succ n ih =>
    exact B_X11_beside_48 p l e s m args below meth c D cA ad σ0 τ0 a1 n C  ih
set_option maxHeartbeats 4000000 in
theorem c_X11_beside (l : Launch) (D : va_G) (cA : Nat → ClassId) (ad : Nat → Nat) (hI : Inj ad) (σ0 : Nat → Nat → Int32) (τ0 : Nat → Nat → Int64) (hR : Rg σ0) (a1 : Int32)  : Met l yX11_beside wsX11_beside ({ frames := 6, cells := 0, slots := 0, locals := 138 } : Room) (WQc D cA ad [.ref (ad 0), .int a1] σ0 τ0) (va_Qi (fun (r : Int32) (u : SS) => P_X11_beside σ0 τ0 a1 r u.1 u.2) (WB D cA ad) (AA ad)) 0 0 (AA ad) := by
  refine Met.ofW (cc := cX11_beside) (maxL := 6) (ret := (some .int)) (by decide) rfl ?_
  intro p e s m args below meth c s₁ B hml hv
  obtain ⟨rfl, hP, hK, hN⟩ := hv
  have C : Cy p s m _ meth c cX11_beside 6 wsX11_beside RX11 D cA ad (some .int) := ⟨B.exec, B.bytes, hml, findClass_of_methodNamed B.named, atoms_spec (ws := wsX11_beside) B.pre, hK, B.notSynchronized, B.returns, hI, hN⟩
  have hl := lv_entry ([.ref (ad 0), .int a1]) (n := 6) (Nat.le_of_ble_eq_true rfl)
  rw [lg_entry_eq]
  generalize (lg_sl ([.ref (ad 0), .int a1]) ++ List.replicate (6 - (lg_sl ([.ref (ad 0), .int a1])).length) Slot.unset).toArray = ls at hl ⊢
  have hl : lv_has ls 6 [(0, .ref (ad 0)), (1, .int a1)] := hl
  have hS : va_S (AA ad) s.heap s.heap [] := va_S.rf
  have hF : Fr L_X11_beside σ0 σ0 := Fr.rf
  have hFL : FrL LL_X11_beside τ0 τ0 := FrL.rf
  have hA := A_X11_beside p l e s m _ below meth c D cA ad σ0 τ0 a1 C  42
  have K48 := hA
  clear hA
  obtain ⟨hx, hb, _, hown, hts, _, hk, hr, _, _⟩ := C
  refine lv_aload_n hx hb dX11_beside_0 rfl (lv_at hl 0 rfl) ?_
  refine fg_11_1 (k := 0) hx hb hts in_X11_beside_11 hown hK hP (by decide) (by decide) (hts _ lk_X11_beside_19) dX11_beside_1 ?_
  refine lv_iload_n hx hb dX11_beside_4 rfl (lv_at hl 1 rfl) ?_
  refine r_cVi (k := 2) (As := [.int a1]) (rest := []) ⟨hx, hb, hml, hown, hts⟩ hK hP hN hS (c_X9_hasMan l D cA ad hI σ0 τ0 hR 2 a1 ⟨by omega, by omega⟩) (cwV 1 hts gX11_beside_X9_hasMan rfl rfl rfl (by decide +kernel) ⟨by decide, by decide⟩) (rv_Valley hK hP (by decide) (by decide)) rfl hl.1 rfl (Nat.le_of_ble_eq_true rfl) dX11_beside_5 (Nat.zero_le _) (Nat.zero_le _) (fun r1 u1 H1 locs1 hp1 hP hS => ?_)
  obtain ⟨σ1, τ1⟩ := u1
  obtain ⟨hR, f1, fL1, hq1, hp1_0⟩ : P_X9_hasMan σ0 τ0 2 a1 r1 σ1 τ1 := hp1
  have hP : va_P D vwCl (gw cA ad σ1 τ1) H1 := hP
  obtain rfl := FrL.nil fL1
  obtain rfl := Fr.nil f1
  refine r_if_eq (tgt := 21) hx hb dX11_beside_8 (by decide) (fun c2 => ?_) (fun c2 => ?_)
  · refine r_iconst hx hb dX11_beside_21 (by decide) (fun z3 ez3 => ?_)
    exact r_iret hx hb hr hK hP hS hk dX11_beside_22 (show P_X11_beside σ0 τ0 a1 z3 σ0 τ0 from ⟨hR, hF, hFL, by omega⟩)
  · refine lv_aload_n hx hb dX11_beside_11 rfl (lv_at hl 0 rfl) ?_
    refine fg_11_1 (k := 0) hx hb hts in_X11_beside_11 hown hK hP (by decide) (by decide) (hts _ lk_X11_beside_19) dX11_beside_12 ?_
    refine fgN_9_6 (k := 2) hx hb hts in_X11_beside_9 hown hK hP (by decide) (by decide) (hN.use nw_11_238) dX11_beside_15 ?_
    have hr4 := rg_9_6 hR (k := 2) (by decide) (by decide)
    refine r_if_ne (tgt := 23) hx hb dX11_beside_18 (by decide) (fun c5 => ?_) (fun c5 => ?_)
    · refine lv_aload_n hx hb dX11_beside_23 rfl (lv_at hl 0 rfl) ?_
      refine fg_11_8 (k := 0) hx hb hts in_X11_beside_11 hown hK hP (by decide) (by decide) (hts _ lk_X11_beside_60) dX11_beside_24 ?_
      refine lv_aload_n hx hb dX11_beside_27 rfl (lv_at hl 0 rfl) ?_
      refine fg_11_4 (k := 0) hx hb hts in_X11_beside_11 hown hK hP (by decide) (by decide) (hts _ lk_X11_beside_38) dX11_beside_28 ?_
      refine r_cVv (k := 21) (As := [.ref (ad 7)]) (rest := []) ⟨hx, hb, hml, hown, hts⟩ hK hP hN hS (c_X1_pitch l D cA ad hI σ0 τ0 hR 7 ⟨by omega, by omega⟩) (cwV 1 hts gX11_beside_X1_pitch rfl rfl rfl (by decide +kernel) ⟨by decide, by decide⟩) (rv_Camp hK hP (by decide) (by decide)) rfl hl.1 rfl (Nat.le_of_ble_eq_true rfl) dX11_beside_31 (Nat.zero_le _) (Nat.zero_le _) (fun u6 H6 locs6 hp6 hP hS => ?_)
      obtain ⟨σ6, τ6⟩ := u6
      obtain ⟨hR, f6, fL6⟩ : P_X1_pitch σ0 τ0 7 σ6 τ6 := hp6
      have hP : va_P D vwCl (gw cA ad σ6 τ6) H6 := hP
      obtain rfl := FrL.nil fL6
      have hF := hF.step f6 (by decide)
      refine lv_aload_n hx hb dX11_beside_34 rfl (lv_at hl 0 rfl) ?_
      refine fg_11_8 (k := 0) hx hb hts in_X11_beside_11 hown hK hP (by decide) (by decide) (hts _ lk_X11_beside_60) dX11_beside_35 ?_
      refine r_cVv (k := 21) (As := []) (rest := []) ⟨hx, hb, hml, hown, hts⟩ hK hP hN hS (c_X1_listenToAll l D cA ad hI σ6 τ0 hR) (cwV 0 hts gX11_beside_X1_listenToAll rfl rfl rfl (by decide +kernel) ⟨by decide, by decide⟩) (rv_Camp hK hP (by decide) (by decide)) rfl hl.1 rfl (Nat.le_of_ble_eq_true rfl) dX11_beside_38 (Nat.zero_le _) (Nat.zero_le _) (fun u7 H7 locs7 hp7 hP hS => ?_)
      obtain ⟨σ7, τ7⟩ := u7
      obtain ⟨hR, f7, fL7⟩ : P_X1_listenToAll σ6 τ0 σ7 τ7 := hp7
      have hP : va_P D vwCl (gw cA ad σ7 τ7) H7 := hP
      obtain rfl := FrL.nil fL7
      have hF := hF.step f7 (by decide)
      refine r_iconst hx hb dX11_beside_41 (by decide) (fun z8 ez8 => ?_)
      refine lv_istore_n (lv' := [(2, .int z8), (0, .ref (ad 0)), (1, .int a1)]) hx hb dX11_beside_42 rfl hl (by decide) rfl (fun ls hl => ?_)
      refine r_iconst hx hb dX11_beside_43 (by decide) (fun z9 ez9 => ?_)
      refine lv_istore_n (lv' := [(3, .int z9), (2, .int z8), (0, .ref (ad 0)), (1, .int a1)]) hx hb dX11_beside_44 rfl hl (by decide) rfl (fun ls hl => ?_)
      refine r_iconst hx hb dX11_beside_45 (by decide) (fun z10 ez10 => ?_)
      refine lv_istore (lv' := [(4, .int z10), (3, .int z9), (2, .int z8), (0, .ref (ad 0)), (1, .int a1)]) hx hb dX11_beside_46 hl (by decide) rfl (fun ls hl => ?_)
      exact K48 σ7 τ0 H7 locs7 z8 z9 z10 ls hR hF hFL hP hS (by omega) (by omega) (by omega) (by omega) (lv_sub hl [3, 4, 2, 1, 0] rfl) (by omega)
    · refine r_iconst hx hb dX11_beside_21 (by decide) (fun z11 ez11 => ?_)
      exact r_iret hx hb hr hK hP hS hk dX11_beside_22 (show P_X11_beside σ0 τ0 a1 z11 σ0 τ0 from ⟨hR, hF, hFL, by omega⟩)
theorem in_X11_hut_11 : ∀ w ∈ u_ws RX11 TX11 19, w ∈ wsX11_hut := by decide +kernel
theorem in_X11_hut_9 : ∀ w ∈ u_ws RX9 TX9 14, w ∈ wsX11_hut := by decide +kernel
theorem lk_X11_hut_19 : Cond.fieldLink RX11 19 "CuckooShares" "valley" "LCuckooShares$Valley;" ∈ wsX11_hut := by decide +kernel
theorem lk_X11_hut_38 : Cond.fieldLink RX11 38 "CuckooShares" "days" "LCuckooShares$Days;" ∈ wsX11_hut := by decide +kernel
theorem lk_X11_hut_60 : Cond.fieldLink RX11 60 "CuckooShares" "camp" "LCuckooShares$Camp;" ∈ wsX11_hut := by decide +kernel
abbrev L_X11_hut : List Rc := [(363, 363, 0, 39), (360, 360, 0, 7), (361, 361, 0, 7), (362, 362, 0, 7), (33, 33, 0, 1), (365, 365, 0, 1), (366, 366, 0, 1), (367, 367, 0, 1)]
abbrev LL_X11_hut : List Rc := []
def P_X11_hut (σ0 : Nat → Nat → Int32) (τ0 : Nat → Nat → Int64) (a1 : Int32) (r : Int32) (σ : Nat → Nat → Int32) (τ : Nat → Nat → Int64) : Prop := Rg σ ∧ Fr L_X11_hut σ0 σ ∧ FrL LL_X11_hut τ0 τ ∧ (-1 ≤ r.toInt ∧ r.toInt ≤ 16777215)
def J_X11_hut_48 (p : Program) (l : Launch) (e : Env) (s : State) (m : MethodId) (args : Array Value) (below : List Frame) (meth : Method) (c : Code) (D : va_G) (cA : Nat → ClassId) (ad : Nat → Nat) (σ0 : Nat → Nat → Int32) (τ0 : Nat → Nat → Int64) (a1 : Int32) (n : Nat) : Prop := ∀ (σ : Nat → Nat → Int32) (τ : Nat → Nat → Int64) (H : Heap) (locs : List Loc) (x2 : Int32) (x3 : Int32) (x4 : Int32) (ls : Array Slot), Rg σ → Fr L_X11_hut σ0 σ → FrL LL_X11_hut τ0 τ → va_P D vwCl (gw cA ad σ τ) H → va_S (AA ad) s.heap H locs → (0 ≤ a1.toInt ∧ a1.toInt ≤ 7) → (-1 ≤ x2.toInt ∧ x2.toInt ≤ 16777215) → (-1 ≤ x3.toInt) → (0 ≤ x4.toInt ∧ x4.toInt ≤ 21) → lv_has ls 7 [(0, .ref (ad 0)), (1, .int a1), (2, .int x2), (3, .int x3), (4, .int x4)] → 47 * (21 - x4.toInt) + 46 < (n : Int) → W p l e ({ frames := 6, cells := 0, slots := 0, locals := 138 } : Room) s m args below meth c H locs 0 0 (MQ below (va_Qi (fun (r : Int32) (u : SS) => P_X11_hut σ0 τ0 a1 r u.1 u.2) (WB D cA ad) (AA ad)) args s 0 0 (AA ad)) (F0 m 48 ls [])
def J_X11_hut_58 (p : Program) (l : Launch) (e : Env) (s : State) (m : MethodId) (args : Array Value) (below : List Frame) (meth : Method) (c : Code) (D : va_G) (cA : Nat → ClassId) (ad : Nat → Nat) (σ0 : Nat → Nat → Int32) (τ0 : Nat → Nat → Int64) (a1 : Int32) (n : Nat) : Prop := ∀ (σ : Nat → Nat → Int32) (τ : Nat → Nat → Int64) (H : Heap) (locs : List Loc) (x2 : Int32) (x3 : Int32) (x4 : Int32) (x5 : Int32) (ls : Array Slot), Rg σ → Fr L_X11_hut σ0 σ → FrL LL_X11_hut τ0 τ → va_P D vwCl (gw cA ad σ τ) H → va_S (AA ad) s.heap H locs → (0 ≤ a1.toInt ∧ a1.toInt ≤ 7) → (-1 ≤ x2.toInt ∧ x2.toInt ≤ 16777215) → (-1 ≤ x3.toInt) → (0 ≤ x4.toInt ∧ x4.toInt ≤ 20) → (0 ≤ x5.toInt ∧ x5.toInt ≤ 21) → lv_has ls 7 [(0, .ref (ad 0)), (1, .int a1), (2, .int x2), (3, .int x3), (4, .int x4), (5, .int x5)] → 47 * (21 - x4.toInt) + 2 * (21 - x5.toInt) + 1 < (n : Int) → W p l e ({ frames := 6, cells := 0, slots := 0, locals := 138 } : Room) s m args below meth c H locs 0 0 (MQ below (va_Qi (fun (r : Int32) (u : SS) => P_X11_hut σ0 τ0 a1 r u.1 u.2) (WB D cA ad) (AA ad)) args s 0 0 (AA ad)) (F0 m 58 ls [])
set_option maxHeartbeats 4000000 in
theorem B_X11_hut_48 (p : Program) (l : Launch) (e : Env) (s : State) (m : MethodId) (args : Array Value) (below : List Frame) (meth : Method) (c : Code) (D : va_G) (cA : Nat → ClassId) (ad : Nat → Nat) (σ0 : Nat → Nat → Int32) (τ0 : Nat → Nat → Int64) (a1 : Int32) (n : Nat) (C : Cy p s m args meth c cX11_hut 7 wsX11_hut RX11 D cA ad (some .int))  (K48 : J_X11_hut_48 p l e s m args below meth c D cA ad σ0 τ0 a1 n) (K58 : J_X11_hut_58 p l e s m args below meth c D cA ad σ0 τ0 a1 n) : J_X11_hut_48 p l e s m args below meth c D cA ad σ0 τ0 a1 (n + 1) := by
  obtain ⟨hx, hb, hml, hown, hts, hK, hk, hr, hI, hN⟩ := C
  intro σ τ H locs x2 x3 x4 ls hR hF hFL hP hS hc0 hc1 hc2 hc3 hl hm
  obtain rfl := FrL.nil hFL
  refine lv_iload hx hb dX11_hut_48 (lv_at hl 4 rfl) ?_
  refine r_bipush hx hb dX11_hut_50 (by decide) (fun z1 ez1 => ?_)
  refine r_icmp_gt (tgt := 118) hx hb dX11_hut_52 (by decide) (fun c2 => ?_) (fun c2 => ?_)
  · refine lv_aload_n hx hb dX11_hut_118 rfl (lv_at hl 0 rfl) ?_
    refine lv_iload_n hx hb dX11_hut_119 rfl (lv_at hl 3 rfl) ?_
    refine r_cVv (k := 0) (As := [.int x3]) (rest := []) ⟨hx, hb, hml, hown, hts⟩ hK hP hN hS (c_X11_tellBest l D cA ad hI σ τ0 hR x3 (by omega)) (cwV 1 hts gX11_hut_X11_tellBest rfl rfl rfl (by decide +kernel) ⟨by decide, by decide⟩) (rv_X hK hP (by decide) (by decide)) rfl hl.1 rfl (Nat.le_of_ble_eq_true rfl) dX11_hut_120 (Nat.zero_le _) (Nat.zero_le _) (fun u3 H3 locs3 hp3 hP hS => ?_)
    obtain ⟨σ3, τ3⟩ := u3
    obtain ⟨hR, f3, fL3⟩ : P_X11_tellBest σ τ0 x3 σ3 τ3 := hp3
    have hP : va_P D vwCl (gw cA ad σ3 τ3) H3 := hP
    obtain rfl := FrL.nil fL3
    have hF := hF.step f3 (by decide)
    refine lv_iload_n hx hb dX11_hut_123 rfl (lv_at hl 2 rfl) ?_
    exact r_iret hx hb hr hK hP hS hk dX11_hut_124 (show P_X11_hut σ0 τ0 a1 x2 σ3 τ0 from ⟨hR, hF, hFL, by omega⟩)
  · refine r_iconst hx hb dX11_hut_55 (by decide) (fun z4 ez4 => ?_)
    refine lv_istore (lv' := [(5, .int z4), (0, .ref (ad 0)), (1, .int a1), (2, .int x2), (3, .int x3), (4, .int x4)]) hx hb dX11_hut_56 hl (by decide) rfl (fun ls hl => ?_)
    exact K58 σ τ0 H locs x2 x3 x4 z4 ls hR hF hFL hP hS (by omega) (by omega) (by omega) (by omega) (by omega) (lv_sub hl [1, 2, 3, 4, 5, 0] rfl) (by omega)
set_option maxHeartbeats 4000000 in
theorem B_X11_hut_58 (p : Program) (l : Launch) (e : Env) (s : State) (m : MethodId) (args : Array Value) (below : List Frame) (meth : Method) (c : Code) (D : va_G) (cA : Nat → ClassId) (ad : Nat → Nat) (σ0 : Nat → Nat → Int32) (τ0 : Nat → Nat → Int64) (a1 : Int32) (n : Nat) (C : Cy p s m args meth c cX11_hut 7 wsX11_hut RX11 D cA ad (some .int))  (K48 : J_X11_hut_48 p l e s m args below meth c D cA ad σ0 τ0 a1 n) (K58 : J_X11_hut_58 p l e s m args below meth c D cA ad σ0 τ0 a1 n) : J_X11_hut_58 p l e s m args below meth c D cA ad σ0 τ0 a1 (n + 1) := by
  obtain ⟨hx, hb, hml, hown, hts, hK, hk, hr, hI, hN⟩ := C
  intro σ τ H locs x2 x3 x4 x5 ls hR hF hFL hP hS hc0 hc1 hc2 hc3 hc4 hl hm
  obtain rfl := FrL.nil hFL
  refine lv_iload hx hb dX11_hut_58 (lv_at hl 5 rfl) ?_
  refine r_bipush hx hb dX11_hut_60 (by decide) (fun z1 ez1 => ?_)
  refine r_icmp_gt (tgt := 112) hx hb dX11_hut_62 (by decide) (fun c2 => ?_) (fun c2 => ?_)
  · refine r_iinc (k := 4) (lv1 := fun z3 => [(4, .int z3), (0, .ref (ad 0)), (1, .int a1), (2, .int x2), (3, .int x3), (5, .int x5)]) hx hb dX11_hut_112 hl rfl (by decide) (fun _ => rfl) (by decide) (by omega) (fun z3 ls ez3 hl => ?_)
    refine lv_goto (tgt := 48) hx hb dX11_hut_115 (by decide) ?_
    exact K48 σ τ0 H locs x2 x3 z3 ls hR hF hFL hP hS (by omega) (by omega) (by omega) (by omega) (lv_sub hl [1, 2, 3, 4, 0] rfl) (by omega)
  · refine lv_aload_n hx hb dX11_hut_65 rfl (lv_at hl 0 rfl) ?_
    refine fg_11_8 (k := 0) hx hb hts in_X11_hut_11 hown hK hP (by decide) (by decide) (hts _ lk_X11_hut_60) dX11_hut_66 ?_
    refine lv_iload_n hx hb dX11_hut_69 rfl (lv_at hl 1 rfl) ?_
    refine lv_iload hx hb dX11_hut_70 (lv_at hl 5 rfl) ?_
    refine lv_iload hx hb dX11_hut_72 (lv_at hl 4 rfl) ?_
    refine r_iconst hx hb dX11_hut_74 (by decide) (fun z4 ez4 => ?_)
    refine r_cVv (k := 21) (As := [.int a1, .int x5, .int x4, .int z4]) (rest := []) ⟨hx, hb, hml, hown, hts⟩ hK hP hN hS (c_X1_put l D cA ad hI σ τ0 hR a1 x5 x4 z4 (by omega)) (cwV 4 hts gX11_hut_X1_put rfl rfl rfl (by decide +kernel) ⟨by decide, by decide⟩) (rv_Camp hK hP (by decide) (by decide)) rfl hl.1 rfl (Nat.le_of_ble_eq_true rfl) dX11_hut_75 (Nat.zero_le _) (Nat.zero_le _) (fun u5 H5 locs5 hp5 hP hS => ?_)
    obtain ⟨σ5, τ5⟩ := u5
    obtain ⟨hR, f5, fL5⟩ : P_X1_put σ τ0 a1 x5 x4 z4 σ5 τ5 := hp5
    have hP : va_P D vwCl (gw cA ad σ5 τ5) H5 := hP
    obtain rfl := FrL.nil fL5
    have hF := hF.step f5 (by decide)
    refine lv_aload_n hx hb dX11_hut_78 rfl (lv_at hl 0 rfl) ?_
    refine fg_11_8 (k := 0) hx hb hts in_X11_hut_11 hown hK hP (by decide) (by decide) (hts _ lk_X11_hut_60) dX11_hut_79 ?_
    refine lv_iload_n hx hb dX11_hut_82 rfl (lv_at hl 1 rfl) ?_
    refine r_cVi (k := 21) (As := [.int a1]) (rest := []) ⟨hx, hb, hml, hown, hts⟩ hK hP hN hS (c_X1_shareHeardAnew l D cA ad hI σ5 τ0 hR a1 (by omega)) (cwV 1 hts gX11_hut_X1_shareHeardAnew rfl rfl rfl (by decide +kernel) ⟨by decide, by decide⟩) (rv_Camp hK hP (by decide) (by decide)) rfl hl.1 rfl (Nat.le_of_ble_eq_true rfl) dX11_hut_83 (Nat.zero_le _) (Nat.zero_le _) (fun r6 u6 H6 locs6 hp6 hP hS => ?_)
    obtain ⟨σ6, τ6⟩ := u6
    obtain ⟨hR, f6, fL6⟩ : P_X1_shareHeardAnew σ5 τ0 a1 r6 σ6 τ6 := hp6
    have hP : va_P D vwCl (gw cA ad σ6 τ6) H6 := hP
    obtain rfl := FrL.nil fL6
    have hF := hF.step f6 (by decide)
    refine lv_istore (lv' := [(6, .int r6), (0, .ref (ad 0)), (1, .int a1), (2, .int x2), (3, .int x3), (4, .int x4), (5, .int x5)]) hx hb dX11_hut_86 hl (by decide) rfl (fun ls hl => ?_)
    refine lv_iload hx hb dX11_hut_88 (lv_at hl 0 rfl) ?_
    refine lv_iload_n hx hb dX11_hut_90 rfl (lv_at hl 4 rfl) ?_
    refine r_icmp_le (tgt := 106) hx hb dX11_hut_91 (by decide) (fun c7 => ?_) (fun c7 => ?_)
    · refine r_iinc (k := 6) (lv1 := fun z8 => [(5, .int z8), (6, .int r6), (0, .ref (ad 0)), (1, .int a1), (2, .int x2), (3, .int x3), (4, .int x4)]) hx hb dX11_hut_106 hl rfl (by decide) (fun _ => rfl) (by decide) (by omega) (fun z8 ls ez8 hl => ?_)
      refine lv_goto (tgt := 58) hx hb dX11_hut_109 (by decide) ?_
      exact K58 σ6 τ0 H6 locs6 x2 x3 x4 z8 ls hR hF hFL hP hS (by omega) (by omega) (by omega) (by omega) (by omega) (lv_sub hl [2, 3, 4, 5, 6, 0] rfl) (by omega)
    · refine lv_iload hx hb dX11_hut_94 (lv_at hl 0 rfl) ?_
      refine lv_istore_n (lv' := [(3, .int r6), (6, .int r6), (0, .ref (ad 0)), (1, .int a1), (2, .int x2), (4, .int x4), (5, .int x5)]) hx hb dX11_hut_96 rfl hl (by decide) rfl (fun ls hl => ?_)
      refine r_bipush hx hb dX11_hut_97 (by decide) (fun z9 ez9 => ?_)
      refine lv_iload hx hb dX11_hut_99 (lv_at hl 5 rfl) ?_
      refine r_imulL (n := 100) hx hb dX11_hut_101 (by omega) (by omega) (fun z10 ez10 => ?_)
      refine lv_iload hx hb dX11_hut_102 (lv_at hl 6 rfl) ?_
      refine r_iadd hx hb dX11_hut_104 (by omega) (fun z11 ez11 => ?_)
      refine lv_istore_n (lv' := [(2, .int z11), (3, .int r6), (6, .int r6), (0, .ref (ad 0)), (1, .int a1), (4, .int x4), (5, .int x5)]) hx hb dX11_hut_105 rfl hl (by decide) rfl (fun ls hl => ?_)
      refine r_iinc (k := 6) (lv1 := fun z12 => [(5, .int z12), (2, .int z11), (3, .int r6), (6, .int r6), (0, .ref (ad 0)), (1, .int a1), (4, .int x4)]) hx hb dX11_hut_106 hl rfl (by decide) (fun _ => rfl) (by decide) (by omega) (fun z12 ls ez12 hl => ?_)
      refine lv_goto (tgt := 58) hx hb dX11_hut_109 (by decide) ?_
      exact K58 σ6 τ0 H6 locs6 z11 r6 x4 z12 ls hR hF hFL hP hS (by omega) (by omega) (by omega) (by omega) (by omega) (lv_sub hl [4, 5, 1, 2, 6, 0] rfl) (by omega)
theorem A_X11_hut (p : Program) (l : Launch) (e : Env) (s : State) (m : MethodId) (args : Array Value) (below : List Frame) (meth : Method) (c : Code) (D : va_G) (cA : Nat → ClassId) (ad : Nat → Nat) (σ0 : Nat → Nat → Int32) (τ0 : Nat → Nat → Int64) (a1 : Int32) (C : Cy p s m args meth c cX11_hut 7 wsX11_hut RX11 D cA ad (some .int))  : ∀ n : Nat, J_X11_hut_48 p l e s m args below meth c D cA ad σ0 τ0 a1 n ∧ J_X11_hut_58 p l e s m args below meth c D cA ad σ0 τ0 a1 n := by
  intro n
  induction n with
  | zero =>
    exact ⟨(by intro σ τ H locs x2 x3 x4 ls hR hF hFL hP hS hc0 hc1 hc2 hc3 hl hm; exfalso; omega), (by intro σ τ H locs x2 x3 x4 x5 ls hR hF hFL hP hS hc0 hc1 hc2 hc3 hc4 hl hm; exfalso; omega)⟩
  | succ n ih =>
    exact ⟨B_X11_hut_48 p l e s m args below meth c D cA ad σ0 τ0 a1 n C  ih.1 ih.2, B_X11_hut_58 p l e s m args below meth c D cA ad σ0 τ0 a1 n C  ih.1 ih.2⟩
set_option maxHeartbeats 4000000 in
theorem c_X11_hut (l : Launch) (D : va_G) (cA : Nat → ClassId) (ad : Nat → Nat) (hI : Inj ad) (σ0 : Nat → Nat → Int32) (τ0 : Nat → Nat → Int64) (hR : Rg σ0) (a1 : Int32)  : Met l yX11_hut wsX11_hut ({ frames := 6, cells := 0, slots := 0, locals := 138 } : Room) (WQc D cA ad [.ref (ad 0), .int a1] σ0 τ0) (va_Qi (fun (r : Int32) (u : SS) => P_X11_hut σ0 τ0 a1 r u.1 u.2) (WB D cA ad) (AA ad)) 0 0 (AA ad) := by
  refine Met.ofW (cc := cX11_hut) (maxL := 7) (ret := (some .int)) (by decide) rfl ?_
  intro p e s m args below meth c s₁ B hml hv
  obtain ⟨rfl, hP, hK, hN⟩ := hv
  have C : Cy p s m _ meth c cX11_hut 7 wsX11_hut RX11 D cA ad (some .int) := ⟨B.exec, B.bytes, hml, findClass_of_methodNamed B.named, atoms_spec (ws := wsX11_hut) B.pre, hK, B.notSynchronized, B.returns, hI, hN⟩
  have hl := lv_entry ([.ref (ad 0), .int a1]) (n := 7) (Nat.le_of_ble_eq_true rfl)
  rw [lg_entry_eq]
  generalize (lg_sl ([.ref (ad 0), .int a1]) ++ List.replicate (7 - (lg_sl ([.ref (ad 0), .int a1])).length) Slot.unset).toArray = ls at hl ⊢
  have hl : lv_has ls 7 [(0, .ref (ad 0)), (1, .int a1)] := hl
  have hS : va_S (AA ad) s.heap s.heap [] := va_S.rf
  have hF : Fr L_X11_hut σ0 σ0 := Fr.rf
  have hFL : FrL LL_X11_hut τ0 τ0 := FrL.rf
  have hA := A_X11_hut p l e s m _ below meth c D cA ad σ0 τ0 a1 C  2163
  have K48 := hA.1
  have K58 := hA.2
  clear hA
  obtain ⟨hx, hb, _, hown, hts, _, hk, hr, _, _⟩ := C
  refine lv_aload_n hx hb dX11_hut_0 rfl (lv_at hl 0 rfl) ?_
  refine fg_11_1 (k := 0) hx hb hts in_X11_hut_11 hown hK hP (by decide) (by decide) (hts _ lk_X11_hut_19) dX11_hut_1 ?_
  refine lv_iload_n hx hb dX11_hut_4 rfl (lv_at hl 1 rfl) ?_
  refine r_cVi (k := 2) (As := [.int a1]) (rest := []) ⟨hx, hb, hml, hown, hts⟩ hK hP hN hS (c_X9_hasMan l D cA ad hI σ0 τ0 hR 2 a1 ⟨by omega, by omega⟩) (cwV 1 hts gX11_hut_X9_hasMan rfl rfl rfl (by decide +kernel) ⟨by decide, by decide⟩) (rv_Valley hK hP (by decide) (by decide)) rfl hl.1 rfl (Nat.le_of_ble_eq_true rfl) dX11_hut_5 (Nat.zero_le _) (Nat.zero_le _) (fun r1 u1 H1 locs1 hp1 hP hS => ?_)
  obtain ⟨σ1, τ1⟩ := u1
  obtain ⟨hR, f1, fL1, hq1, hp1_0⟩ : P_X9_hasMan σ0 τ0 2 a1 r1 σ1 τ1 := hp1
  have hP : va_P D vwCl (gw cA ad σ1 τ1) H1 := hP
  obtain rfl := FrL.nil fL1
  obtain rfl := Fr.nil f1
  refine r_if_eq (tgt := 21) hx hb dX11_hut_8 (by decide) (fun c2 => ?_) (fun c2 => ?_)
  · refine r_iconst hx hb dX11_hut_21 (by decide) (fun z3 ez3 => ?_)
    exact r_iret hx hb hr hK hP hS hk dX11_hut_22 (show P_X11_hut σ0 τ0 a1 z3 σ0 τ0 from ⟨hR, hF, hFL, by omega⟩)
  · refine lv_aload_n hx hb dX11_hut_11 rfl (lv_at hl 0 rfl) ?_
    refine fg_11_1 (k := 0) hx hb hts in_X11_hut_11 hown hK hP (by decide) (by decide) (hts _ lk_X11_hut_19) dX11_hut_12 ?_
    refine fgN_9_6 (k := 2) hx hb hts in_X11_hut_9 hown hK hP (by decide) (by decide) (hN.use nw_11_238) dX11_hut_15 ?_
    have hr4 := rg_9_6 hR (k := 2) (by decide) (by decide)
    refine r_if_ne (tgt := 23) hx hb dX11_hut_18 (by decide) (fun c5 => ?_) (fun c5 => ?_)
    · refine lv_aload_n hx hb dX11_hut_23 rfl (lv_at hl 0 rfl) ?_
      refine fg_11_8 (k := 0) hx hb hts in_X11_hut_11 hown hK hP (by decide) (by decide) (hts _ lk_X11_hut_60) dX11_hut_24 ?_
      refine lv_aload_n hx hb dX11_hut_27 rfl (lv_at hl 0 rfl) ?_
      refine fg_11_4 (k := 0) hx hb hts in_X11_hut_11 hown hK hP (by decide) (by decide) (hts _ lk_X11_hut_38) dX11_hut_28 ?_
      refine r_cVv (k := 21) (As := [.ref (ad 7)]) (rest := []) ⟨hx, hb, hml, hown, hts⟩ hK hP hN hS (c_X1_pitch l D cA ad hI σ0 τ0 hR 7 ⟨by omega, by omega⟩) (cwV 1 hts gX11_hut_X1_pitch rfl rfl rfl (by decide +kernel) ⟨by decide, by decide⟩) (rv_Camp hK hP (by decide) (by decide)) rfl hl.1 rfl (Nat.le_of_ble_eq_true rfl) dX11_hut_31 (Nat.zero_le _) (Nat.zero_le _) (fun u6 H6 locs6 hp6 hP hS => ?_)
      obtain ⟨σ6, τ6⟩ := u6
      obtain ⟨hR, f6, fL6⟩ : P_X1_pitch σ0 τ0 7 σ6 τ6 := hp6
      have hP : va_P D vwCl (gw cA ad σ6 τ6) H6 := hP
      obtain rfl := FrL.nil fL6
      have hF := hF.step f6 (by decide)
      refine lv_aload_n hx hb dX11_hut_34 rfl (lv_at hl 0 rfl) ?_
      refine fg_11_8 (k := 0) hx hb hts in_X11_hut_11 hown hK hP (by decide) (by decide) (hts _ lk_X11_hut_60) dX11_hut_35 ?_
      refine r_cVv (k := 21) (As := []) (rest := []) ⟨hx, hb, hml, hown, hts⟩ hK hP hN hS (c_X1_listenToAll l D cA ad hI σ6 τ0 hR) (cwV 0 hts gX11_hut_X1_listenToAll rfl rfl rfl (by decide +kernel) ⟨by decide, by decide⟩) (rv_Camp hK hP (by decide) (by decide)) rfl hl.1 rfl (Nat.le_of_ble_eq_true rfl) dX11_hut_38 (Nat.zero_le _) (Nat.zero_le _) (fun u7 H7 locs7 hp7 hP hS => ?_)
      obtain ⟨σ7, τ7⟩ := u7
      obtain ⟨hR, f7, fL7⟩ : P_X1_listenToAll σ6 τ0 σ7 τ7 := hp7
      have hP : va_P D vwCl (gw cA ad σ7 τ7) H7 := hP
      obtain rfl := FrL.nil fL7
      have hF := hF.step f7 (by decide)
      refine r_iconst hx hb dX11_hut_41 (by decide) (fun z8 ez8 => ?_)
      refine lv_istore_n (lv' := [(2, .int z8), (0, .ref (ad 0)), (1, .int a1)]) hx hb dX11_hut_42 rfl hl (by decide) rfl (fun ls hl => ?_)
      refine r_iconst hx hb dX11_hut_43 (by decide) (fun z9 ez9 => ?_)
      refine lv_istore_n (lv' := [(3, .int z9), (2, .int z8), (0, .ref (ad 0)), (1, .int a1)]) hx hb dX11_hut_44 rfl hl (by decide) rfl (fun ls hl => ?_)
      refine r_iconst hx hb dX11_hut_45 (by decide) (fun z10 ez10 => ?_)
      refine lv_istore (lv' := [(4, .int z10), (3, .int z9), (2, .int z8), (0, .ref (ad 0)), (1, .int a1)]) hx hb dX11_hut_46 hl (by decide) rfl (fun ls hl => ?_)
      exact K48 σ7 τ0 H7 locs7 z8 z9 z10 ls hR hF hFL hP hS (by omega) (by omega) (by omega) (by omega) (lv_sub hl [3, 4, 2, 1, 0] rfl) (by omega)
    · refine r_iconst hx hb dX11_hut_21 (by decide) (fun z11 ez11 => ?_)
      exact r_iret hx hb hr hK hP hS hk dX11_hut_22 (show P_X11_hut σ0 τ0 a1 z11 σ0 τ0 from ⟨hR, hF, hFL, by omega⟩)
theorem in_X11_isTold_11 : ∀ w ∈ u_ws RX11 TX11 19, w ∈ wsX11_isTold := by decide +kernel
theorem lk_X11_isTold_10 : Cond.fieldLink RX11 10 "CuckooShares" "tape" "LCuckooShares$Tape;" ∈ wsX11_isTold := by decide +kernel
theorem lk_X11_isTold_19 : Cond.fieldLink RX11 19 "CuckooShares" "valley" "LCuckooShares$Valley;" ∈ wsX11_isTold := by decide +kernel
theorem lk_X11_isTold_60 : Cond.fieldLink RX11 60 "CuckooShares" "camp" "LCuckooShares$Camp;" ∈ wsX11_isTold := by decide +kernel
abbrev L_X11_isTold : List Rc := []
abbrev LL_X11_isTold : List Rc := []
def P_X11_isTold (σ0 : Nat → Nat → Int32) (τ0 : Nat → Nat → Int64) (a1 : Int32) (a2 : Int32) (r : Int32) (σ : Nat → Nat → Int32) (τ : Nat → Nat → Int64) : Prop := Rg σ ∧ Fr L_X11_isTold σ0 σ ∧ FrL LL_X11_isTold τ0 τ ∧ (0 ≤ r.toInt ∧ r.toInt ≤ 1)
def J_X11_isTold_2 (p : Program) (l : Launch) (e : Env) (s : State) (m : MethodId) (args : Array Value) (below : List Frame) (meth : Method) (c : Code) (D : va_G) (cA : Nat → ClassId) (ad : Nat → Nat) (σ0 : Nat → Nat → Int32) (τ0 : Nat → Nat → Int64) (a1 : Int32) (a2 : Int32) (n : Nat) : Prop := ∀ (σ : Nat → Nat → Int32) (τ : Nat → Nat → Int64) (H : Heap) (locs : List Loc) (x3 : Int32) (ls : Array Slot), Rg σ → Fr L_X11_isTold σ0 σ → FrL LL_X11_isTold τ0 τ → va_P D vwCl (gw cA ad σ τ) H → va_S (AA ad) s.heap H locs → (0 ≤ x3.toInt ∧ x3.toInt ≤ 40) → lv_has ls 5 [(0, .ref (ad 0)), (1, .int a1), (2, .int a2), (3, .int x3)] → 2 * (40 - x3.toInt) + 1 < (n : Int) → W p l e ({ frames := 4, cells := 0, slots := 0, locals := 95 } : Room) s m args below meth c H locs 0 0 (MQ below (va_Qi (fun (r : Int32) (u : SS) => P_X11_isTold σ0 τ0 a1 a2 r u.1 u.2) (WB D cA ad) (AA ad)) args s 0 0 (AA ad)) (F0 m 2 ls [])
set_option maxHeartbeats 4000000 in
theorem B_X11_isTold_2 (p : Program) (l : Launch) (e : Env) (s : State) (m : MethodId) (args : Array Value) (below : List Frame) (meth : Method) (c : Code) (D : va_G) (cA : Nat → ClassId) (ad : Nat → Nat) (σ0 : Nat → Nat → Int32) (τ0 : Nat → Nat → Int64) (a1 : Int32) (a2 : Int32) (n : Nat) (C : Cy p s m args meth c cX11_isTold 5 wsX11_isTold RX11 D cA ad (some .boolean)) (ha1 : 0 ≤ a1.toInt ∧ a1.toInt ≤ 3) (ha2 : 2 ≤ a2.toInt ∧ a2.toInt ≤ 40) (K2 : J_X11_isTold_2 p l e s m args below meth c D cA ad σ0 τ0 a1 a2 n) : J_X11_isTold_2 p l e s m args below meth c D cA ad σ0 τ0 a1 a2 (n + 1) := by
  obtain ⟨hx, hb, hml, hown, hts, hK, hk, hr, hI, hN⟩ := C
  intro σ τ H locs x3 ls hR hF hFL hP hS hc0 hl hm
  obtain rfl := Fr.nil hF
  obtain rfl := FrL.nil hFL
  refine lv_iload_n hx hb dX11_isTold_2 rfl (lv_at hl 3 rfl) ?_
  refine r_iconst hx hb dX11_isTold_3 (by decide) (fun z1 ez1 => ?_)
  refine r_iadd hx hb dX11_isTold_4 (by omega) (fun z2 ez2 => ?_)
  refine lv_iload_n hx hb dX11_isTold_5 rfl (lv_at hl 2 rfl) ?_
  refine r_icmp_ge (tgt := 67) hx hb dX11_isTold_6 (by decide) (fun c3 => ?_) (fun c3 => ?_)
  · refine r_iconst hx hb dX11_isTold_67 (by decide) (fun z4 ez4 => ?_)
    exact r_zret hx hb hr hK hP hS hk (by omega) dX11_isTold_68 (show P_X11_isTold σ0 τ0 a1 a2 z4 σ0 τ0 from ⟨hR, hF, hFL, by omega⟩)
  · refine lv_aload_n hx hb dX11_isTold_9 rfl (lv_at hl 0 rfl) ?_
    refine fg_11_1 (k := 0) hx hb hts in_X11_isTold_11 hown hK hP (by decide) (by decide) (hts _ lk_X11_isTold_19) dX11_isTold_10 ?_
    refine lv_iload_n hx hb dX11_isTold_13 rfl (lv_at hl 1 rfl) ?_
    refine lv_aload_n hx hb dX11_isTold_14 rfl (lv_at hl 0 rfl) ?_
    refine fg_11_0 (k := 0) hx hb hts in_X11_isTold_11 hown hK hP (by decide) (by decide) (hts _ lk_X11_isTold_10) dX11_isTold_15 ?_
    refine lv_iload_n hx hb dX11_isTold_18 rfl (lv_at hl 3 rfl) ?_
    refine r_iconst hx hb dX11_isTold_19 (by decide) (fun z5 ez5 => ?_)
    refine r_iadd hx hb dX11_isTold_20 (by omega) (fun z6 ez6 => ?_)
    refine r_cVi (k := 1) (As := [.int z6]) (rest := [.int a1, .ref (ad 2)]) ⟨hx, hb, hml, hown, hts⟩ hK hP hN hS (c_X8_byteAt l D cA ad hI σ0 τ0 hR z6 (by omega)) (cwV 1 hts gX11_isTold_X8_byteAt rfl rfl rfl (by decide +kernel) ⟨by decide, by decide⟩) (rv_Tape hK hP (by decide) (by decide)) rfl hl.1 rfl (Nat.le_of_ble_eq_true rfl) dX11_isTold_21 (Nat.zero_le _) (Nat.zero_le _) (fun r7 u7 H7 locs7 hp7 hP hS => ?_)
    obtain ⟨σ7, τ7⟩ := u7
    obtain ⟨hR, f7, fL7, hq7, hp7_0⟩ : P_X8_byteAt σ0 τ0 z6 r7 σ7 τ7 := hp7
    have hP : va_P D vwCl (gw cA ad σ7 τ7) H7 := hP
    obtain rfl := FrL.nil fL7
    obtain rfl := Fr.nil f7
    refine r_cVi (k := 2) (As := [.int a1, .int r7]) (rest := []) ⟨hx, hb, hml, hown, hts⟩ hK hP hN hS (c_X9_callIn l D cA ad hI σ0 τ0 hR a1 r7 (by omega) (by omega)) (cwV 2 hts gX11_isTold_X9_callIn rfl rfl rfl (by decide +kernel) ⟨by decide, by decide⟩) (rv_Valley hK hP (by decide) (by decide)) rfl hl.1 rfl (Nat.le_of_ble_eq_true rfl) dX11_isTold_24 (Nat.zero_le _) (Nat.zero_le _) (fun r8 u8 H8 locs8 hp8 hP hS => ?_)
    obtain ⟨σ8, τ8⟩ := u8
    obtain ⟨hR, f8, fL8, hq8⟩ : P_X9_callIn σ0 τ0 a1 r7 r8 σ8 τ8 := hp8
    have hP : va_P D vwCl (gw cA ad σ8 τ8) H8 := hP
    obtain rfl := FrL.nil fL8
    obtain rfl := Fr.nil f8
    refine lv_istore (lv' := [(4, .int r8), (0, .ref (ad 0)), (1, .int a1), (2, .int a2), (3, .int x3)]) hx hb dX11_isTold_27 hl (by decide) rfl (fun ls hl => ?_)
    refine lv_iload hx hb dX11_isTold_29 (lv_at hl 0 rfl) ?_
    refine r_iconst hx hb dX11_isTold_31 (by decide) (fun z9 ez9 => ?_)
    refine r_icmp_eq (tgt := 59) hx hb dX11_isTold_32 (by decide) (fun c10 => ?_) (fun c10 => ?_)
    · refine r_iconst hx hb dX11_isTold_59 (by decide) (fun z11 ez11 => ?_)
      exact r_zret hx hb hr hK hP hS hk (by omega) dX11_isTold_60 (show P_X11_isTold σ0 τ0 a1 a2 z11 σ0 τ0 from ⟨hR, hF, hFL, by omega⟩)
    · refine lv_aload_n hx hb dX11_isTold_35 rfl (lv_at hl 1 rfl) ?_
      refine fg_11_8 (k := 0) hx hb hts in_X11_isTold_11 hown hK hP (by decide) (by decide) (hts _ lk_X11_isTold_60) dX11_isTold_36 ?_
      refine lv_iload_n hx hb dX11_isTold_39 rfl (lv_at hl 2 rfl) ?_
      refine lv_iload hx hb dX11_isTold_40 (lv_at hl 0 rfl) ?_
      refine r_cVi (k := 21) (As := [.int a1, .int r8]) (rest := []) ⟨hx, hb, hml, hown, hts⟩ hK hP hN hS (c_X1_hearers l D cA ad hI σ0 τ0 hR a1 r8 (by omega) (by omega)) (cwV 2 hts gX11_isTold_X1_hearers rfl rfl rfl (by decide +kernel) ⟨by decide, by decide⟩) (rv_Camp hK hP (by decide) (by decide)) rfl hl.1 rfl (Nat.le_of_ble_eq_true rfl) dX11_isTold_42 (Nat.zero_le _) (Nat.zero_le _) (fun r12 u12 H12 locs12 hp12 hP hS => ?_)
      obtain ⟨σ12, τ12⟩ := u12
      obtain ⟨hR, f12, fL12⟩ : P_X1_hearers σ0 τ0 a1 r8 r12 σ12 τ12 := hp12
      have hP : va_P D vwCl (gw cA ad σ12 τ12) H12 := hP
      obtain rfl := FrL.nil fL12
      obtain rfl := Fr.nil f12
      refine lv_aload_n hx hb dX11_isTold_45 rfl (lv_at hl 1 rfl) ?_
      refine fg_11_0 (k := 0) hx hb hts in_X11_isTold_11 hown hK hP (by decide) (by decide) (hts _ lk_X11_isTold_10) dX11_isTold_46 ?_
      refine lv_iload_n hx hb dX11_isTold_49 rfl (lv_at hl 4 rfl) ?_
      refine r_cVi (k := 1) (As := [.int x3]) (rest := [.int r12]) ⟨hx, hb, hml, hown, hts⟩ hK hP hN hS (c_X8_byteAt l D cA ad hI σ0 τ0 hR x3 (by omega)) (cwV 1 hts gX11_isTold_X8_byteAt rfl rfl rfl (by decide +kernel) ⟨by decide, by decide⟩) (rv_Tape hK hP (by decide) (by decide)) rfl hl.1 rfl (Nat.le_of_ble_eq_true rfl) dX11_isTold_50 (Nat.zero_le _) (Nat.zero_le _) (fun r13 u13 H13 locs13 hp13 hP hS => ?_)
      obtain ⟨σ13, τ13⟩ := u13
      obtain ⟨hR, f13, fL13, hq13, hp13_0⟩ : P_X8_byteAt σ0 τ0 x3 r13 σ13 τ13 := hp13
      have hP : va_P D vwCl (gw cA ad σ13 τ13) H13 := hP
      obtain rfl := FrL.nil fL13
      obtain rfl := Fr.nil f13
      refine r_ishrU hx hb dX11_isTold_53 (fun z14 => ?_)
      refine r_iconst hx hb dX11_isTold_54 (by decide) (fun z15 ez15 => ?_)
      refine r_iand (w := 1) hx hb 1 dX11_isTold_55 (by omega) (by decide) (fun z16 ez16 => ?_)
      refine r_if_ne (tgt := 61) hx hb dX11_isTold_56 (by decide) (fun c17 => ?_) (fun c17 => ?_)
      · refine r_iinc (k := 4) (lv1 := fun z18 => [(3, .int z18), (4, .int r8), (0, .ref (ad 0)), (1, .int a1), (2, .int a2)]) hx hb dX11_isTold_61 hl rfl (by decide) (fun _ => rfl) (by decide) (by omega) (fun z18 ls ez18 hl => ?_)
        refine lv_goto (tgt := 2) hx hb dX11_isTold_64 (by decide) ?_
        exact K2 σ0 τ0 H13 locs13 z18 ls hR hF hFL hP hS (by omega) (lv_sub hl [2, 3, 4, 0] rfl) (by omega)
      · refine r_iconst hx hb dX11_isTold_59 (by decide) (fun z19 ez19 => ?_)
        exact r_zret hx hb hr hK hP hS hk (by omega) dX11_isTold_60 (show P_X11_isTold σ0 τ0 a1 a2 z19 σ0 τ0 from ⟨hR, hF, hFL, by omega⟩)
theorem A_X11_isTold (p : Program) (l : Launch) (e : Env) (s : State) (m : MethodId) (args : Array Value) (below : List Frame) (meth : Method) (c : Code) (D : va_G) (cA : Nat → ClassId) (ad : Nat → Nat) (σ0 : Nat → Nat → Int32) (τ0 : Nat → Nat → Int64) (a1 : Int32) (a2 : Int32) (C : Cy p s m args meth c cX11_isTold 5 wsX11_isTold RX11 D cA ad (some .boolean)) (ha1 : 0 ≤ a1.toInt ∧ a1.toInt ≤ 3) (ha2 : 2 ≤ a2.toInt ∧ a2.toInt ≤ 40) : ∀ n : Nat, J_X11_isTold_2 p l e s m args below meth c D cA ad σ0 τ0 a1 a2 n := by
  intro n
  induction n with
  | zero =>
    exact (by intro σ τ H locs x3 ls hR hF hFL hP hS hc0 hl hm; exfalso; omega)
  | succ n ih =>
    exact B_X11_isTold_2 p l e s m args below meth c D cA ad σ0 τ0 a1 a2 n C ha1 ha2 ih
set_option maxHeartbeats 4000000 in
theorem c_X11_isTold (l : Launch) (D : va_G) (cA : Nat → ClassId) (ad : Nat → Nat) (hI : Inj ad) (σ0 : Nat → Nat → Int32) (τ0 : Nat → Nat → Int64) (hR : Rg σ0) (a1 : Int32) (a2 : Int32) (ha1 : 0 ≤ a1.toInt ∧ a1.toInt ≤ 3) (ha2 : 2 ≤ a2.toInt ∧ a2.toInt ≤ 40) : Met l yX11_isTold wsX11_isTold ({ frames := 4, cells := 0, slots := 0, locals := 95 } : Room) (WQc D cA ad [.ref (ad 0), .int a1, .int a2] σ0 τ0) (va_Qi (fun (r : Int32) (u : SS) => P_X11_isTold σ0 τ0 a1 a2 r u.1 u.2) (WB D cA ad) (AA ad)) 0 0 (AA ad) := by
  refine Met.ofW (cc := cX11_isTold) (maxL := 5) (ret := (some .boolean)) (by decide) rfl ?_
  intro p e s m args below meth c s₁ B hml hv
  obtain ⟨rfl, hP, hK, hN⟩ := hv
  have C : Cy p s m _ meth c cX11_isTold 5 wsX11_isTold RX11 D cA ad (some .boolean) := ⟨B.exec, B.bytes, hml, findClass_of_methodNamed B.named, atoms_spec (ws := wsX11_isTold) B.pre, hK, B.notSynchronized, B.returns, hI, hN⟩
  have hl := lv_entry ([.ref (ad 0), .int a1, .int a2]) (n := 5) (Nat.le_of_ble_eq_true rfl)
  rw [lg_entry_eq]
  generalize (lg_sl ([.ref (ad 0), .int a1, .int a2]) ++ List.replicate (5 - (lg_sl ([.ref (ad 0), .int a1, .int a2])).length) Slot.unset).toArray = ls at hl ⊢
  have hl : lv_has ls 5 [(0, .ref (ad 0)), (1, .int a1), (2, .int a2)] := hl
  have hS : va_S (AA ad) s.heap s.heap [] := va_S.rf
  have hF : Fr L_X11_isTold σ0 σ0 := Fr.rf
  have hFL : FrL LL_X11_isTold τ0 τ0 := FrL.rf
  have hA := A_X11_isTold p l e s m _ below meth c D cA ad σ0 τ0 a1 a2 C ha1 ha2 170
  have K2 := hA
  clear hA
  obtain ⟨hx, hb, _, hown, hts, _, hk, hr, _, _⟩ := C
  refine r_iconst hx hb dX11_isTold_0 (by decide) (fun z1 ez1 => ?_)
  refine lv_istore_n (lv' := [(3, .int z1), (0, .ref (ad 0)), (1, .int a1), (2, .int a2)]) hx hb dX11_isTold_1 rfl hl (by decide) rfl (fun ls hl => ?_)
  exact K2 σ0 τ0 s.heap [] z1 ls hR hF hFL hP hS (by omega) (lv_sub hl [1, 2, 3, 0] rfl) (by omega)
theorem in_X11_whence_11 : ∀ w ∈ u_ws RX11 TX11 19, w ∈ wsX11_whence := by decide +kernel
theorem in_X11_whence_8 : ∀ w ∈ u_ws RX8 TX8 15, w ∈ wsX11_whence := by decide +kernel
theorem in_X11_whence_9 : ∀ w ∈ u_ws RX9 TX9 14, w ∈ wsX11_whence := by decide +kernel
theorem lk_X11_whence_10 : Cond.fieldLink RX11 10 "CuckooShares" "tape" "LCuckooShares$Tape;" ∈ wsX11_whence := by decide +kernel
theorem lk_X11_whence_19 : Cond.fieldLink RX11 19 "CuckooShares" "valley" "LCuckooShares$Valley;" ∈ wsX11_whence := by decide +kernel
theorem lk_X11_whence_38 : Cond.fieldLink RX11 38 "CuckooShares" "days" "LCuckooShares$Days;" ∈ wsX11_whence := by decide +kernel
theorem lk_X11_whence_60 : Cond.fieldLink RX11 60 "CuckooShares" "camp" "LCuckooShares$Camp;" ∈ wsX11_whence := by decide +kernel
abbrev L_X11_whence : List Rc := [(1, 1, 5, 5), (360, 360, 0, 7), (361, 361, 0, 7), (362, 362, 0, 7)]
abbrev LL_X11_whence : List Rc := []
def P_X11_whence (σ0 : Nat → Nat → Int32) (τ0 : Nat → Nat → Int64)  (r : Int32) (σ : Nat → Nat → Int32) (τ : Nat → Nat → Int64) : Prop := Rg σ ∧ Fr L_X11_whence σ0 σ ∧ FrL LL_X11_whence τ0 τ ∧ ((σ 1 5).toInt = 0)
def J_X11_whence_37 (p : Program) (l : Launch) (e : Env) (s : State) (m : MethodId) (args : Array Value) (below : List Frame) (meth : Method) (c : Code) (D : va_G) (cA : Nat → ClassId) (ad : Nat → Nat) (σ0 : Nat → Nat → Int32) (τ0 : Nat → Nat → Int64)  (n : Nat) : Prop := ∀ (σ : Nat → Nat → Int32) (τ : Nat → Nat → Int64) (H : Heap) (locs : List Loc) (x1 : Int32) (x2 : Int32) (ls : Array Slot), Rg σ → Fr L_X11_whence σ0 σ → FrL LL_X11_whence τ0 τ → va_P D vwCl (gw cA ad σ τ) H → va_S (AA ad) s.heap H locs → (2 ≤ x1.toInt ∧ x1.toInt ≤ 40) → (0 ≤ x2.toInt ∧ x2.toInt ≤ 40) → (0 ≤ (σ 1 5).toInt ∧ (σ 1 5).toInt ≤ 0) → lv_has ls 4 [(0, .ref (ad 0)), (1, .int x1), (2, .int x2)] → 13 * (40 - x2.toInt) + 12 < (n : Int) → W p l e ({ frames := 5, cells := 0, slots := 0, locals := 119 } : Room) s m args below meth c H locs 0 0 (MQ below (va_Qi (fun (r : Int32) (u : SS) => P_X11_whence σ0 τ0 r u.1 u.2) (WB D cA ad) (AA ad)) args s 0 0 (AA ad)) (F0 m 37 ls [])
def J_X11_whence_100 (p : Program) (l : Launch) (e : Env) (s : State) (m : MethodId) (args : Array Value) (below : List Frame) (meth : Method) (c : Code) (D : va_G) (cA : Nat → ClassId) (ad : Nat → Nat) (σ0 : Nat → Nat → Int32) (τ0 : Nat → Nat → Int64)  (n : Nat) : Prop := ∀ (σ : Nat → Nat → Int32) (τ : Nat → Nat → Int64) (H : Heap) (locs : List Loc) (x1 : Int32) (x2 : Int32) (x3 : Int32) (ls : Array Slot), Rg σ → Fr L_X11_whence σ0 σ → FrL LL_X11_whence τ0 τ → va_P D vwCl (gw cA ad σ τ) H → va_S (AA ad) s.heap H locs → (2 ≤ x1.toInt ∧ x1.toInt ≤ 40) → (0 ≤ x3.toInt ∧ x3.toInt ≤ 4) → (0 ≤ (σ 1 5).toInt ∧ (σ 1 5).toInt ≤ 0) → lv_has ls 4 [(0, .ref (ad 0)), (1, .int x1), (2, .int x2), (3, .int x3)] → 2 * (4 - x3.toInt) + 1 < (n : Int) → W p l e ({ frames := 5, cells := 0, slots := 0, locals := 119 } : Room) s m args below meth c H locs 0 0 (MQ below (va_Qi (fun (r : Int32) (u : SS) => P_X11_whence σ0 τ0 r u.1 u.2) (WB D cA ad) (AA ad)) args s 0 0 (AA ad)) (F0 m 100 ls [])
set_option maxHeartbeats 4000000 in
theorem B_X11_whence_37 (p : Program) (l : Launch) (e : Env) (s : State) (m : MethodId) (args : Array Value) (below : List Frame) (meth : Method) (c : Code) (D : va_G) (cA : Nat → ClassId) (ad : Nat → Nat) (σ0 : Nat → Nat → Int32) (τ0 : Nat → Nat → Int64)  (n : Nat) (C : Cy p s m args meth c cX11_whence 4 wsX11_whence RX11 D cA ad (some .int))  (K37 : J_X11_whence_37 p l e s m args below meth c D cA ad σ0 τ0 n) (K100 : J_X11_whence_100 p l e s m args below meth c D cA ad σ0 τ0 n) : J_X11_whence_37 p l e s m args below meth c D cA ad σ0 τ0 (n + 1) := by
  obtain ⟨hx, hb, hml, hown, hts, hK, hk, hr, hI, hN⟩ := C
  intro σ τ H locs x1 x2 ls hR hF hFL hP hS hc0 hc1 hc2 hl hm
  obtain rfl := FrL.nil hFL
  refine lv_iload_n hx hb dX11_whence_37 rfl (lv_at hl 2 rfl) ?_
  refine r_iconst hx hb dX11_whence_38 (by decide) (fun z1 ez1 => ?_)
  refine r_iadd hx hb dX11_whence_39 (by omega) (fun z2 ez2 => ?_)
  refine lv_iload_n hx hb dX11_whence_40 rfl (lv_at hl 1 rfl) ?_
  refine r_icmp_ge (tgt := 85) hx hb dX11_whence_41 (by decide) (fun c3 => ?_) (fun c3 => ?_)
  · refine lv_aload_n hx hb dX11_whence_85 rfl (lv_at hl 0 rfl) ?_
    refine fg_11_8 (k := 0) hx hb hts in_X11_whence_11 hown hK hP (by decide) (by decide) (hts _ lk_X11_whence_60) dX11_whence_86 ?_
    refine lv_aload_n hx hb dX11_whence_89 rfl (lv_at hl 0 rfl) ?_
    refine fg_11_4 (k := 0) hx hb hts in_X11_whence_11 hown hK hP (by decide) (by decide) (hts _ lk_X11_whence_38) dX11_whence_90 ?_
    refine r_cVv (k := 21) (As := [.ref (ad 7)]) (rest := []) ⟨hx, hb, hml, hown, hts⟩ hK hP hN hS (c_X1_pitch l D cA ad hI σ τ0 hR 7 ⟨by omega, by omega⟩) (cwV 1 hts gX11_whence_X1_pitch rfl rfl rfl (by decide +kernel) ⟨by decide, by decide⟩) (rv_Camp hK hP (by decide) (by decide)) rfl hl.1 rfl (Nat.le_of_ble_eq_true rfl) dX11_whence_93 (Nat.zero_le _) (Nat.zero_le _) (fun u4 H4 locs4 hp4 hP hS => ?_)
    obtain ⟨σ4, τ4⟩ := u4
    obtain ⟨hR, f4, fL4⟩ : P_X1_pitch σ τ0 7 σ4 τ4 := hp4
    have hP : va_P D vwCl (gw cA ad σ4 τ4) H4 := hP
    obtain rfl := FrL.nil fL4
    have hF := hF.step f4 (by decide)
    have t5 : (σ4 1 5).toInt = (σ 1 5).toInt := congrArg Int32.toInt (f4.at 1 5 (by decide))
    refine r_iconst hx hb dX11_whence_96 (by decide) (fun z6 ez6 => ?_)
    refine lv_istore_n (lv' := [(2, .int z6), (0, .ref (ad 0)), (1, .int x1)]) hx hb dX11_whence_97 rfl hl (by decide) rfl (fun ls hl => ?_)
    refine r_iconst hx hb dX11_whence_98 (by decide) (fun z7 ez7 => ?_)
    refine lv_istore_n (lv' := [(3, .int z7), (2, .int z6), (0, .ref (ad 0)), (1, .int x1)]) hx hb dX11_whence_99 rfl hl (by decide) rfl (fun ls hl => ?_)
    exact K100 σ4 τ0 H4 locs4 x1 z6 z7 ls hR hF hFL hP hS (by omega) (by omega) (by omega) (lv_sub hl [2, 3, 1, 0] rfl) (by omega)
  · refine lv_aload_n hx hb dX11_whence_44 rfl (lv_at hl 0 rfl) ?_
    refine fg_11_1 (k := 0) hx hb hts in_X11_whence_11 hown hK hP (by decide) (by decide) (hts _ lk_X11_whence_19) dX11_whence_45 ?_
    refine lv_aload_n hx hb dX11_whence_48 rfl (lv_at hl 0 rfl) ?_
    refine fg_11_0 (k := 0) hx hb hts in_X11_whence_11 hown hK hP (by decide) (by decide) (hts _ lk_X11_whence_10) dX11_whence_49 ?_
    refine lv_iload_n hx hb dX11_whence_52 rfl (lv_at hl 2 rfl) ?_
    refine r_cVi (k := 1) (As := [.int x2]) (rest := [.ref (ad 2)]) ⟨hx, hb, hml, hown, hts⟩ hK hP hN hS (c_X8_byteAt l D cA ad hI σ τ0 hR x2 (by omega)) (cwV 1 hts gX11_whence_X8_byteAt rfl rfl rfl (by decide +kernel) ⟨by decide, by decide⟩) (rv_Tape hK hP (by decide) (by decide)) rfl hl.1 rfl (Nat.le_of_ble_eq_true rfl) dX11_whence_53 (Nat.zero_le _) (Nat.zero_le _) (fun r8 u8 H8 locs8 hp8 hP hS => ?_)
    obtain ⟨σ8, τ8⟩ := u8
    obtain ⟨hR, f8, fL8, hq8, hp8_0⟩ : P_X8_byteAt σ τ0 x2 r8 σ8 τ8 := hp8
    have hP : va_P D vwCl (gw cA ad σ8 τ8) H8 := hP
    obtain rfl := FrL.nil fL8
    obtain rfl := Fr.nil f8
    refine r_cVi (k := 2) (As := [.int r8]) (rest := []) ⟨hx, hb, hml, hown, hts⟩ hK hP hN hS (c_X9_hasMan l D cA ad hI σ τ0 hR 2 r8 ⟨by omega, by omega⟩) (cwV 1 hts gX11_whence_X9_hasMan rfl rfl rfl (by decide +kernel) ⟨by decide, by decide⟩) (rv_Valley hK hP (by decide) (by decide)) rfl hl.1 rfl (Nat.le_of_ble_eq_true rfl) dX11_whence_56 (Nat.zero_le _) (Nat.zero_le _) (fun r9 u9 H9 locs9 hp9 hP hS => ?_)
    obtain ⟨σ9, τ9⟩ := u9
    obtain ⟨hR, f9, fL9, hq9, hp9_0⟩ : P_X9_hasMan σ τ0 2 r8 r9 σ9 τ9 := hp9
    have hP : va_P D vwCl (gw cA ad σ9 τ9) H9 := hP
    obtain rfl := FrL.nil fL9
    obtain rfl := Fr.nil f9
    refine r_if_eq (tgt := 77) hx hb dX11_whence_59 (by decide) (fun c10 => ?_) (fun c10 => ?_)
    · refine r_iconst hx hb dX11_whence_77 (by decide) (fun z11 ez11 => ?_)
      exact r_iret hx hb hr hK hP hS hk dX11_whence_78 (show P_X11_whence σ0 τ0 z11 σ τ0 from ⟨hR, hF, hFL, by omega⟩)
    · refine lv_aload_n hx hb dX11_whence_62 rfl (lv_at hl 0 rfl) ?_
      refine fg_11_0 (k := 0) hx hb hts in_X11_whence_11 hown hK hP (by decide) (by decide) (hts _ lk_X11_whence_10) dX11_whence_63 ?_
      refine lv_iload_n hx hb dX11_whence_66 rfl (lv_at hl 2 rfl) ?_
      refine r_iconst hx hb dX11_whence_67 (by decide) (fun z12 ez12 => ?_)
      refine r_iadd hx hb dX11_whence_68 (by omega) (fun z13 ez13 => ?_)
      refine r_cVi (k := 1) (As := [.int z13]) (rest := []) ⟨hx, hb, hml, hown, hts⟩ hK hP hN hS (c_X8_byteAt l D cA ad hI σ τ0 hR z13 (by omega)) (cwV 1 hts gX11_whence_X8_byteAt rfl rfl rfl (by decide +kernel) ⟨by decide, by decide⟩) (rv_Tape hK hP (by decide) (by decide)) rfl hl.1 rfl (Nat.le_of_ble_eq_true rfl) dX11_whence_69 (Nat.zero_le _) (Nat.zero_le _) (fun r14 u14 H14 locs14 hp14 hP hS => ?_)
      obtain ⟨σ14, τ14⟩ := u14
      obtain ⟨hR, f14, fL14, hq14, hp14_0⟩ : P_X8_byteAt σ τ0 z13 r14 σ14 τ14 := hp14
      have hP : va_P D vwCl (gw cA ad σ14 τ14) H14 := hP
      obtain rfl := FrL.nil fL14
      obtain rfl := Fr.nil f14
      refine r_bipush hx hb dX11_whence_72 (by decide) (fun z15 ez15 => ?_)
      refine r_icmp_le (tgt := 79) hx hb dX11_whence_74 (by decide) (fun c16 => ?_) (fun c16 => ?_)
      · refine r_iinc (k := 2) (lv1 := fun z17 => [(2, .int z17), (0, .ref (ad 0)), (1, .int x1)]) hx hb dX11_whence_79 hl rfl (by decide) (fun _ => rfl) (by decide) (by omega) (fun z17 ls ez17 hl => ?_)
        refine lv_goto (tgt := 37) hx hb dX11_whence_82 (by decide) ?_
        exact K37 σ τ0 H14 locs14 x1 z17 ls hR hF hFL hP hS (by omega) (by omega) (by omega) (lv_sub hl [1, 2, 0] rfl) (by omega)
      · refine r_iconst hx hb dX11_whence_77 (by decide) (fun z18 ez18 => ?_)
        exact r_iret hx hb hr hK hP hS hk dX11_whence_78 (show P_X11_whence σ0 τ0 z18 σ τ0 from ⟨hR, hF, hFL, by omega⟩)
set_option maxHeartbeats 4000000 in
theorem B_X11_whence_100 (p : Program) (l : Launch) (e : Env) (s : State) (m : MethodId) (args : Array Value) (below : List Frame) (meth : Method) (c : Code) (D : va_G) (cA : Nat → ClassId) (ad : Nat → Nat) (σ0 : Nat → Nat → Int32) (τ0 : Nat → Nat → Int64)  (n : Nat) (C : Cy p s m args meth c cX11_whence 4 wsX11_whence RX11 D cA ad (some .int))  (K37 : J_X11_whence_37 p l e s m args below meth c D cA ad σ0 τ0 n) (K100 : J_X11_whence_100 p l e s m args below meth c D cA ad σ0 τ0 n) : J_X11_whence_100 p l e s m args below meth c D cA ad σ0 τ0 (n + 1) := by
  obtain ⟨hx, hb, hml, hown, hts, hK, hk, hr, hI, hN⟩ := C
  intro σ τ H locs x1 x2 x3 ls hR hF hFL hP hS hc0 hc1 hc2 hl hm
  obtain rfl := FrL.nil hFL
  refine lv_iload_n hx hb dX11_whence_100 rfl (lv_at hl 3 rfl) ?_
  refine lv_aload_n hx hb dX11_whence_101 rfl (lv_at hl 0 rfl) ?_
  refine fg_11_1 (k := 0) hx hb hts in_X11_whence_11 hown hK hP (by decide) (by decide) (hts _ lk_X11_whence_19) dX11_whence_102 ?_
  refine fgN_9_6 (k := 2) hx hb hts in_X11_whence_9 hown hK hP (by decide) (by decide) (hN.use nw_11_238) dX11_whence_105 ?_
  have hr1 := rg_9_6 hR (k := 2) (by decide) (by decide)
  refine r_icmp_ge (tgt := 132) hx hb dX11_whence_108 (by decide) (fun c2 => ?_) (fun c2 => ?_)
  · refine lv_iload_n hx hb dX11_whence_132 rfl (lv_at hl 2 rfl) ?_
    exact r_iret hx hb hr hK hP hS hk dX11_whence_133 (show P_X11_whence σ0 τ0 x2 σ τ0 from ⟨hR, hF, hFL, by omega⟩)
  · refine lv_aload_n hx hb dX11_whence_111 rfl (lv_at hl 0 rfl) ?_
    refine lv_iload_n hx hb dX11_whence_112 rfl (lv_at hl 3 rfl) ?_
    refine lv_iload_n hx hb dX11_whence_113 rfl (lv_at hl 1 rfl) ?_
    refine r_cVi (k := 0) (As := [.int x3, .int x1]) (rest := []) ⟨hx, hb, hml, hown, hts⟩ hK hP hN hS (c_X11_isTold l D cA ad hI σ τ0 hR x3 x1 (by omega) (by omega)) (cwV 2 hts gX11_whence_X11_isTold rfl rfl rfl (by decide +kernel) ⟨by decide, by decide⟩) (rv_X hK hP (by decide) (by decide)) rfl hl.1 rfl (Nat.le_of_ble_eq_true rfl) dX11_whence_114 (Nat.zero_le _) (Nat.zero_le _) (fun r3 u3 H3 locs3 hp3 hP hS => ?_)
    obtain ⟨σ3, τ3⟩ := u3
    obtain ⟨hR, f3, fL3, hq3⟩ : P_X11_isTold σ τ0 x3 x1 r3 σ3 τ3 := hp3
    have hP : va_P D vwCl (gw cA ad σ3 τ3) H3 := hP
    obtain rfl := FrL.nil fL3
    obtain rfl := Fr.nil f3
    refine r_if_eq (tgt := 126) hx hb dX11_whence_117 (by decide) (fun c4 => ?_) (fun c4 => ?_)
    · refine r_iinc (k := 3) (lv1 := fun z5 => [(3, .int z5), (0, .ref (ad 0)), (1, .int x1), (2, .int x2)]) hx hb dX11_whence_126 hl rfl (by decide) (fun _ => rfl) (by decide) (by omega) (fun z5 ls ez5 hl => ?_)
      refine lv_goto (tgt := 100) hx hb dX11_whence_129 (by decide) ?_
      exact K100 σ τ0 H3 locs3 x1 x2 z5 ls hR hF hFL hP hS (by omega) (by omega) (by omega) (lv_sub hl [1, 2, 3, 0] rfl) (by omega)
    · refine lv_iload_n hx hb dX11_whence_120 rfl (lv_at hl 2 rfl) ?_
      refine r_iconst hx hb dX11_whence_121 (by decide) (fun z6 ez6 => ?_)
      refine lv_iload_n hx hb dX11_whence_122 rfl (lv_at hl 3 rfl) ?_
      refine r_ishlU hx hb dX11_whence_123 (fun z7 => ?_)
      refine r_iorU hx hb dX11_whence_124 (fun z8 => ?_)
      refine lv_istore_n (lv' := [(2, .int z8), (0, .ref (ad 0)), (1, .int x1), (3, .int x3)]) hx hb dX11_whence_125 rfl hl (by decide) rfl (fun ls hl => ?_)
      refine r_iinc (k := 3) (lv1 := fun z9 => [(3, .int z9), (2, .int z8), (0, .ref (ad 0)), (1, .int x1)]) hx hb dX11_whence_126 hl rfl (by decide) (fun _ => rfl) (by decide) (by omega) (fun z9 ls ez9 hl => ?_)
      refine lv_goto (tgt := 100) hx hb dX11_whence_129 (by decide) ?_
      exact K100 σ τ0 H3 locs3 x1 z8 z9 ls hR hF hFL hP hS (by omega) (by omega) (by omega) (lv_sub hl [2, 3, 1, 0] rfl) (by omega)
theorem A_X11_whence (p : Program) (l : Launch) (e : Env) (s : State) (m : MethodId) (args : Array Value) (below : List Frame) (meth : Method) (c : Code) (D : va_G) (cA : Nat → ClassId) (ad : Nat → Nat) (σ0 : Nat → Nat → Int32) (τ0 : Nat → Nat → Int64)  (C : Cy p s m args meth c cX11_whence 4 wsX11_whence RX11 D cA ad (some .int))  : ∀ n : Nat, J_X11_whence_37 p l e s m args below meth c D cA ad σ0 τ0 n ∧ J_X11_whence_100 p l e s m args below meth c D cA ad σ0 τ0 n := by
  intro n
  induction n with
  | zero =>
    exact ⟨(by intro σ τ H locs x1 x2 ls hR hF hFL hP hS hc0 hc1 hc2 hl hm; exfalso; omega), (by intro σ τ H locs x1 x2 x3 ls hR hF hFL hP hS hc0 hc1 hc2 hl hm; exfalso; omega)⟩
  | succ n ih =>
    exact ⟨B_X11_whence_37 p l e s m args below meth c D cA ad σ0 τ0 n C  ih.1 ih.2, B_X11_whence_100 p l e s m args below meth c D cA ad σ0 τ0 n C  ih.1 ih.2⟩
set_option maxHeartbeats 4000000 in
theorem c_X11_whence (l : Launch) (D : va_G) (cA : Nat → ClassId) (ad : Nat → Nat) (hI : Inj ad) (σ0 : Nat → Nat → Int32) (τ0 : Nat → Nat → Int64) (hR : Rg σ0)   : Met l yX11_whence wsX11_whence ({ frames := 5, cells := 0, slots := 0, locals := 119 } : Room) (WQc D cA ad [.ref (ad 0)] σ0 τ0) (va_Qi (fun (r : Int32) (u : SS) => P_X11_whence σ0 τ0 r u.1 u.2) (WB D cA ad) (AA ad)) 0 0 (AA ad) := by
  refine Met.ofW (cc := cX11_whence) (maxL := 4) (ret := (some .int)) (by decide) rfl ?_
  intro p e s m args below meth c s₁ B hml hv
  obtain ⟨rfl, hP, hK, hN⟩ := hv
  have C : Cy p s m _ meth c cX11_whence 4 wsX11_whence RX11 D cA ad (some .int) := ⟨B.exec, B.bytes, hml, findClass_of_methodNamed B.named, atoms_spec (ws := wsX11_whence) B.pre, hK, B.notSynchronized, B.returns, hI, hN⟩
  have hl := lv_entry ([.ref (ad 0)]) (n := 4) (Nat.le_of_ble_eq_true rfl)
  rw [lg_entry_eq]
  generalize (lg_sl ([.ref (ad 0)]) ++ List.replicate (4 - (lg_sl ([.ref (ad 0)])).length) Slot.unset).toArray = ls at hl ⊢
  have hl : lv_has ls 4 [(0, .ref (ad 0))] := hl
  have hS : va_S (AA ad) s.heap s.heap [] := va_S.rf
  have hF : Fr L_X11_whence σ0 σ0 := Fr.rf
  have hFL : FrL LL_X11_whence τ0 τ0 := FrL.rf
  have hA := A_X11_whence p l e s m _ below meth c D cA ad σ0 τ0 C  1093
  have K37 := hA.1
  have K100 := hA.2
  clear hA
  obtain ⟨hx, hb, _, hown, hts, _, hk, hr, _, _⟩ := C
  refine lv_aload_n hx hb dX11_whence_0 rfl (lv_at hl 0 rfl) ?_
  refine fg_11_0 (k := 0) hx hb hts in_X11_whence_11 hown hK hP (by decide) (by decide) (hts _ lk_X11_whence_10) dX11_whence_1 ?_
  refine fgN_8_5 (k := 1) hx hb hts in_X11_whence_8 hown hK hP (by decide) (by decide) (hN.use nw_11_115) dX11_whence_4 ?_
  have hr1 := rg_8_5 hR (k := 1) (by decide) (by decide)
  refine lv_istore_n (lv' := [(1, .int (σ0 1 5)), (0, .ref (ad 0))]) hx hb dX11_whence_7 rfl hl (by decide) rfl (fun ls hl => ?_)
  refine lv_aload_n hx hb dX11_whence_8 rfl (lv_at hl 1 rfl) ?_
  refine fg_11_0 (k := 0) hx hb hts in_X11_whence_11 hown hK hP (by decide) (by decide) (hts _ lk_X11_whence_10) dX11_whence_9 ?_
  refine r_iconst hx hb dX11_whence_12 (by decide) (fun z2 ez2 => ?_)
  refine fpN_8_5 (k := 1) hx hb hts in_X11_whence_8 hown hK hP (by decide) (by decide) (hN.use nw_11_115) hI hR hS (by omega) dX11_whence_13 (fun σ3 H3 locs3 u3 v3 hR hP hS => ?_)
  have hF := hF.puts u3 0 rfl (by decide) (by decide) (by decide) (by decide)
  refine lv_iload_n hx hb dX11_whence_16 rfl (lv_at hl 0 rfl) ?_
  refine r_iconst hx hb dX11_whence_17 (by decide) (fun z4 ez4 => ?_)
  refine r_icmp_lt (tgt := 33) hx hb dX11_whence_18 (by decide) (fun c5 => ?_) (fun c5 => ?_)
  · refine r_iconst hx hb dX11_whence_33 (by decide) (fun z6 ez6 => ?_)
    exact r_iret hx hb hr hK hP hS hk dX11_whence_34 (show P_X11_whence σ0 τ0 z6 σ3 τ0 from ⟨hR, hF, hFL, by omega⟩)
  · refine lv_iload_n hx hb dX11_whence_21 rfl (lv_at hl 0 rfl) ?_
    refine r_bipush hx hb dX11_whence_22 (by decide) (fun z7 ez7 => ?_)
    refine r_icmp_gt (tgt := 33) hx hb dX11_whence_24 (by decide) (fun c8 => ?_) (fun c8 => ?_)
    · refine r_iconst hx hb dX11_whence_33 (by decide) (fun z9 ez9 => ?_)
      exact r_iret hx hb hr hK hP hS hk dX11_whence_34 (show P_X11_whence σ0 τ0 z9 σ3 τ0 from ⟨hR, hF, hFL, by omega⟩)
    · refine lv_iload_n hx hb dX11_whence_27 rfl (lv_at hl 0 rfl) ?_
      refine r_iconst hx hb dX11_whence_28 (by decide) (fun z10 ez10 => ?_)
      refine r_irem hx hb dX11_whence_29 (by omega) (fun z11 ez11 => ?_)
      have fz11 := ti_tm (a := (σ0 1 5).toInt) (b := z10.toInt) (by omega)
      refine r_if_eq (tgt := 35) hx hb dX11_whence_30 (by decide) (fun c12 => ?_) (fun c12 => ?_)
      · refine r_iconst hx hb dX11_whence_35 (by decide) (fun z13 ez13 => ?_)
        refine lv_istore_n (lv' := [(2, .int z13), (1, .int (σ0 1 5)), (0, .ref (ad 0))]) hx hb dX11_whence_36 rfl hl (by decide) rfl (fun ls hl => ?_)
        exact K37 σ3 τ0 H3 locs3 (σ0 1 5) z13 ls hR hF hFL hP hS (by omega) (by omega) (by omega) (lv_sub hl [2, 1, 0] rfl) (by omega)
      · refine r_iconst hx hb dX11_whence_33 (by decide) (fun z14 ez14 => ?_)
        exact r_iret hx hb hr hK hP hS hk dX11_whence_34 (show P_X11_whence σ0 τ0 z14 σ3 τ0 from ⟨hR, hF, hFL, by omega⟩)
theorem in_X11_enough_11 : ∀ w ∈ u_ws RX11 TX11 19, w ∈ wsX11_enough := by decide +kernel
theorem in_X11_enough_9 : ∀ w ∈ u_ws RX9 TX9 14, w ∈ wsX11_enough := by decide +kernel
theorem lk_X11_enough_19 : Cond.fieldLink RX11 19 "CuckooShares" "valley" "LCuckooShares$Valley;" ∈ wsX11_enough := by decide +kernel
theorem lk_X11_enough_60 : Cond.fieldLink RX11 60 "CuckooShares" "camp" "LCuckooShares$Camp;" ∈ wsX11_enough := by decide +kernel
abbrev L_X11_enough : List Rc := [(363, 363, 0, 39), (360, 360, 0, 7), (361, 361, 0, 7), (362, 362, 0, 7), (365, 365, 0, 1), (366, 366, 0, 1), (367, 367, 0, 1)]
abbrev LL_X11_enough : List Rc := []
def P_X11_enough (σ0 : Nat → Nat → Int32) (τ0 : Nat → Nat → Int64) (a1 : Int32) (r : Int32) (σ : Nat → Nat → Int32) (τ : Nat → Nat → Int64) : Prop := Rg σ ∧ Fr L_X11_enough σ0 σ ∧ FrL LL_X11_enough τ0 τ
def J_X11_enough_22 (p : Program) (l : Launch) (e : Env) (s : State) (m : MethodId) (args : Array Value) (below : List Frame) (meth : Method) (c : Code) (D : va_G) (cA : Nat → ClassId) (ad : Nat → Nat) (σ0 : Nat → Nat → Int32) (τ0 : Nat → Nat → Int64) (a1 : Int32) (n : Nat) : Prop := ∀ (σ : Nat → Nat → Int32) (τ : Nat → Nat → Int64) (H : Heap) (locs : List Loc) (x2 : Int32) (x3 : Int32) (ls : Array Slot), Rg σ → Fr L_X11_enough σ0 σ → FrL LL_X11_enough τ0 τ → va_P D vwCl (gw cA ad σ τ) H → va_S (AA ad) s.heap H locs → (0 ≤ a1.toInt ∧ a1.toInt ≤ 3) → (0 ≤ x3.toInt ∧ x3.toInt ≤ 8) → lv_has ls 5 [(0, .ref (ad 0)), (1, .int a1), (2, .int x2), (3, .int x3)] → 2 * (8 - x3.toInt) + 1 < (n : Int) → W p l e ({ frames := 6, cells := 0, slots := 0, locals := 138 } : Room) s m args below meth c H locs 0 0 (MQ below (va_Qi (fun (r : Int32) (u : SS) => P_X11_enough σ0 τ0 a1 r u.1 u.2) (WB D cA ad) (AA ad)) args s 0 0 (AA ad)) (F0 m 22 ls [])
set_option maxHeartbeats 4000000 in
theorem B_X11_enough_22 (p : Program) (l : Launch) (e : Env) (s : State) (m : MethodId) (args : Array Value) (below : List Frame) (meth : Method) (c : Code) (D : va_G) (cA : Nat → ClassId) (ad : Nat → Nat) (σ0 : Nat → Nat → Int32) (τ0 : Nat → Nat → Int64) (a1 : Int32) (n : Nat) (C : Cy p s m args meth c cX11_enough 5 wsX11_enough RX11 D cA ad (some .int))  (K22 : J_X11_enough_22 p l e s m args below meth c D cA ad σ0 τ0 a1 n) : J_X11_enough_22 p l e s m args below meth c D cA ad σ0 τ0 a1 (n + 1) := by
  obtain ⟨hx, hb, hml, hown, hts, hK, hk, hr, hI, hN⟩ := C
  intro σ τ H locs x2 x3 ls hR hF hFL hP hS hc0 hc1 hl hm
  obtain rfl := FrL.nil hFL
  refine lv_iload_n hx hb dX11_enough_22 rfl (lv_at hl 3 rfl) ?_
  refine lv_aload_n hx hb dX11_enough_23 rfl (lv_at hl 0 rfl) ?_
  refine fg_11_1 (k := 0) hx hb hts in_X11_enough_11 hown hK hP (by decide) (by decide) (hts _ lk_X11_enough_19) dX11_enough_24 ?_
  refine fgN_9_5 (k := 2) hx hb hts in_X11_enough_9 hown hK hP (by decide) (by decide) (hN.use nw_11_167) dX11_enough_27 ?_
  have hr1 := rg_9_5 hR (k := 2) (by decide) (by decide)
  refine r_icmp_ge (tgt := 84) hx hb dX11_enough_30 (by decide) (fun c2 => ?_) (fun c2 => ?_)
  · refine lv_iload_n hx hb dX11_enough_84 rfl (lv_at hl 2 rfl) ?_
    exact r_iret hx hb hr hK hP hS hk dX11_enough_85 (show P_X11_enough σ0 τ0 a1 x2 σ τ0 from ⟨hR, hF, hFL⟩)
  · refine lv_aload_n hx hb dX11_enough_33 rfl (lv_at hl 0 rfl) ?_
    refine fg_11_1 (k := 0) hx hb hts in_X11_enough_11 hown hK hP (by decide) (by decide) (hts _ lk_X11_enough_19) dX11_enough_34 ?_
    refine fgN_9_10 (k := 2) hx hb hts in_X11_enough_9 hown hK hP (by decide) (by decide) (hN.use nw_11_186) dX11_enough_37 ?_
    refine lv_iload_n hx hb dX11_enough_40 rfl (lv_at hl 3 rfl) ?_
    obtain ⟨j3, ej3⟩ : ∃ j : Nat, x3.toInt = (j : Int) := ⟨_, ti_nat (by omega)⟩
    refine ad_manA (k := 52) (j := j3) hx hb hK hP (by decide) (by decide) ej3 (by omega) dX11_enough_41 ?_
    refine r_iconst hx hb dX11_enough_42 (by decide) (fun z4 ez4 => ?_)
    refine ad_manR (k := 100 + j3) (j := 5) hx hb hK hP (by omega) (by omega) (by omega) (by omega) dX11_enough_43 ?_
    refine lv_istore (lv' := [(4, .int (σ (100 + j3) 5)), (0, .ref (ad 0)), (1, .int a1), (2, .int x2), (3, .int x3)]) hx hb dX11_enough_44 hl (by decide) rfl (fun ls hl => ?_)
    refine lv_iload hx hb dX11_enough_46 (lv_at hl 0 rfl) ?_
    refine r_iconst hx hb dX11_enough_48 (by decide) (fun z5 ez5 => ?_)
    refine r_icmp_eq (tgt := 78) hx hb dX11_enough_49 (by decide) (fun c6 => ?_) (fun c6 => ?_)
    · refine r_iinc (k := 4) (lv1 := fun z7 => [(3, .int z7), (4, .int (σ (100 + j3) 5)), (0, .ref (ad 0)), (1, .int a1), (2, .int x2)]) hx hb dX11_enough_78 hl rfl (by decide) (fun _ => rfl) (by decide) (by omega) (fun z7 ls ez7 hl => ?_)
      refine lv_goto (tgt := 22) hx hb dX11_enough_81 (by decide) ?_
      exact K22 σ τ0 H locs x2 z7 ls hR hF hFL hP hS (by omega) (by omega) (lv_sub hl [2, 3, 4, 0] rfl) (by omega)
    · refine lv_aload_n hx hb dX11_enough_52 rfl (lv_at hl 1 rfl) ?_
      refine fg_11_8 (k := 0) hx hb hts in_X11_enough_11 hown hK hP (by decide) (by decide) (hts _ lk_X11_enough_60) dX11_enough_53 ?_
      refine lv_iload_n hx hb dX11_enough_56 rfl (lv_at hl 4 rfl) ?_
      refine lv_aload_n hx hb dX11_enough_57 rfl (lv_at hl 1 rfl) ?_
      refine fg_11_1 (k := 0) hx hb hts in_X11_enough_11 hown hK hP (by decide) (by decide) (hts _ lk_X11_enough_19) dX11_enough_58 ?_
      refine fgN_9_1 (k := 2) hx hb hts in_X11_enough_9 hown hK hP (by decide) (by decide) (hN.use nw_11_245) dX11_enough_61 ?_
      refine r_cVi (k := 21) (As := [.int x3, .int (σ 2 1)]) (rest := []) ⟨hx, hb, hml, hown, hts⟩ hK hP hN hS (c_X1_portion l D cA ad hI σ τ0 hR x3 (σ 2 1) (by omega)) (cwV 2 hts gX11_enough_X1_portion rfl rfl rfl (by decide +kernel) ⟨by decide, by decide⟩) (rv_Camp hK hP (by decide) (by decide)) rfl hl.1 rfl (Nat.le_of_ble_eq_true rfl) dX11_enough_64 (Nat.zero_le _) (Nat.zero_le _) (fun r8 u8 H8 locs8 hp8 hP hS => ?_)
      obtain ⟨σ8, τ8⟩ := u8
      obtain ⟨hR, f8, fL8⟩ : P_X1_portion σ τ0 x3 (σ 2 1) r8 σ8 τ8 := hp8
      have hP : va_P D vwCl (gw cA ad σ8 τ8) H8 := hP
      obtain rfl := FrL.nil fL8
      obtain rfl := Fr.nil f8
      refine lv_iload hx hb dX11_enough_67 (lv_at hl 0 rfl) ?_
      refine r_icmp_lt (tgt := 78) hx hb dX11_enough_69 (by decide) (fun c9 => ?_) (fun c9 => ?_)
      · refine r_iinc (k := 4) (lv1 := fun z10 => [(3, .int z10), (4, .int (σ (100 + j3) 5)), (0, .ref (ad 0)), (1, .int a1), (2, .int x2)]) hx hb dX11_enough_78 hl rfl (by decide) (fun _ => rfl) (by decide) (by omega) (fun z10 ls ez10 hl => ?_)
        refine lv_goto (tgt := 22) hx hb dX11_enough_81 (by decide) ?_
        exact K22 σ τ0 H8 locs8 x2 z10 ls hR hF hFL hP hS (by omega) (by omega) (lv_sub hl [2, 3, 4, 0] rfl) (by omega)
      · refine lv_iload_n hx hb dX11_enough_72 rfl (lv_at hl 3 rfl) ?_
        refine r_iconst hx hb dX11_enough_73 (by decide) (fun z11 ez11 => ?_)
        refine lv_iload_n hx hb dX11_enough_74 rfl (lv_at hl 4 rfl) ?_
        refine r_ishlU hx hb dX11_enough_75 (fun z12 => ?_)
        refine r_iorU hx hb dX11_enough_76 (fun z13 => ?_)
        refine lv_istore_n (lv' := [(2, .int z13), (4, .int (σ (100 + j3) 5)), (0, .ref (ad 0)), (1, .int a1), (3, .int x3)]) hx hb dX11_enough_77 rfl hl (by decide) rfl (fun ls hl => ?_)
        refine r_iinc (k := 4) (lv1 := fun z14 => [(3, .int z14), (2, .int z13), (4, .int (σ (100 + j3) 5)), (0, .ref (ad 0)), (1, .int a1)]) hx hb dX11_enough_78 hl rfl (by decide) (fun _ => rfl) (by decide) (by omega) (fun z14 ls ez14 hl => ?_)
        refine lv_goto (tgt := 22) hx hb dX11_enough_81 (by decide) ?_
        exact K22 σ τ0 H8 locs8 z13 z14 ls hR hF hFL hP hS (by omega) (by omega) (lv_sub hl [3, 4, 1, 0] rfl) (by omega)
theorem A_X11_enough (p : Program) (l : Launch) (e : Env) (s : State) (m : MethodId) (args : Array Value) (below : List Frame) (meth : Method) (c : Code) (D : va_G) (cA : Nat → ClassId) (ad : Nat → Nat) (σ0 : Nat → Nat → Int32) (τ0 : Nat → Nat → Int64) (a1 : Int32) (C : Cy p s m args meth c cX11_enough 5 wsX11_enough RX11 D cA ad (some .int))  : ∀ n : Nat, J_X11_enough_22 p l e s m args below meth c D cA ad σ0 τ0 a1 n := by
  intro n
  induction n with
  | zero =>
    exact (by intro σ τ H locs x2 x3 ls hR hF hFL hP hS hc0 hc1 hl hm; exfalso; omega)
  | succ n ih =>
    exact B_X11_enough_22 p l e s m args below meth c D cA ad σ0 τ0 a1 n C  ih
set_option maxHeartbeats 4000000 in
theorem c_X11_enough (l : Launch) (D : va_G) (cA : Nat → ClassId) (ad : Nat → Nat) (hI : Inj ad) (σ0 : Nat → Nat → Int32) (τ0 : Nat → Nat → Int64) (hR : Rg σ0) (a1 : Int32)  : Met l yX11_enough wsX11_enough ({ frames := 6, cells := 0, slots := 0, locals := 138 } : Room) (WQc D cA ad [.ref (ad 0), .int a1] σ0 τ0) (va_Qi (fun (r : Int32) (u : SS) => P_X11_enough σ0 τ0 a1 r u.1 u.2) (WB D cA ad) (AA ad)) 0 0 (AA ad) := by
  refine Met.ofW (cc := cX11_enough) (maxL := 5) (ret := (some .int)) (by decide) rfl ?_
  intro p e s m args below meth c s₁ B hml hv
  obtain ⟨rfl, hP, hK, hN⟩ := hv
  have C : Cy p s m _ meth c cX11_enough 5 wsX11_enough RX11 D cA ad (some .int) := ⟨B.exec, B.bytes, hml, findClass_of_methodNamed B.named, atoms_spec (ws := wsX11_enough) B.pre, hK, B.notSynchronized, B.returns, hI, hN⟩
  have hl := lv_entry ([.ref (ad 0), .int a1]) (n := 5) (Nat.le_of_ble_eq_true rfl)
  rw [lg_entry_eq]
  generalize (lg_sl ([.ref (ad 0), .int a1]) ++ List.replicate (5 - (lg_sl ([.ref (ad 0), .int a1])).length) Slot.unset).toArray = ls at hl ⊢
  have hl : lv_has ls 5 [(0, .ref (ad 0)), (1, .int a1)] := hl
  have hS : va_S (AA ad) s.heap s.heap [] := va_S.rf
  have hF : Fr L_X11_enough σ0 σ0 := Fr.rf
  have hFL : FrL LL_X11_enough τ0 τ0 := FrL.rf
  have hA := A_X11_enough p l e s m _ below meth c D cA ad σ0 τ0 a1 C  42
  have K22 := hA
  clear hA
  obtain ⟨hx, hb, _, hown, hts, _, hk, hr, _, _⟩ := C
  refine lv_aload_n hx hb dX11_enough_0 rfl (lv_at hl 0 rfl) ?_
  refine fg_11_1 (k := 0) hx hb hts in_X11_enough_11 hown hK hP (by decide) (by decide) (hts _ lk_X11_enough_19) dX11_enough_1 ?_
  refine lv_iload_n hx hb dX11_enough_4 rfl (lv_at hl 1 rfl) ?_
  refine r_cVi (k := 2) (As := [.int a1]) (rest := []) ⟨hx, hb, hml, hown, hts⟩ hK hP hN hS (c_X9_hasFlight l D cA ad hI σ0 τ0 hR 2 a1 ⟨by omega, by omega⟩) (cwV 1 hts gX11_enough_X9_hasFlight rfl rfl rfl (by decide +kernel) ⟨by decide, by decide⟩) (rv_Valley hK hP (by decide) (by decide)) rfl hl.1 rfl (Nat.le_of_ble_eq_true rfl) dX11_enough_5 (Nat.zero_le _) (Nat.zero_le _) (fun r1 u1 H1 locs1 hp1 hP hS => ?_)
  obtain ⟨σ1, τ1⟩ := u1
  obtain ⟨hR, f1, fL1, hq1, hp1_0, hp1_1⟩ : P_X9_hasFlight σ0 τ0 2 a1 r1 σ1 τ1 := hp1
  have hP : va_P D vwCl (gw cA ad σ1 τ1) H1 := hP
  obtain rfl := FrL.nil fL1
  obtain rfl := Fr.nil f1
  refine r_if_ne (tgt := 13) hx hb dX11_enough_8 (by decide) (fun c2 => ?_) (fun c2 => ?_)
  · refine lv_aload_n hx hb dX11_enough_13 rfl (lv_at hl 0 rfl) ?_
    refine lv_iload_n hx hb dX11_enough_14 rfl (lv_at hl 1 rfl) ?_
    refine r_cVv (k := 0) (As := [.int a1]) (rest := []) ⟨hx, hb, hml, hown, hts⟩ hK hP hN hS (c_X11_countHonest l D cA ad hI σ0 τ0 hR a1 (by omega)) (cwV 1 hts gX11_enough_X11_countHonest rfl rfl rfl (by decide +kernel) ⟨by decide, by decide⟩) (rv_X hK hP (by decide) (by decide)) rfl hl.1 rfl (Nat.le_of_ble_eq_true rfl) dX11_enough_15 (Nat.zero_le _) (Nat.zero_le _) (fun u3 H3 locs3 hp3 hP hS => ?_)
    obtain ⟨σ3, τ3⟩ := u3
    obtain ⟨hR, f3, fL3⟩ : P_X11_countHonest σ0 τ0 a1 σ3 τ3 := hp3
    have hP : va_P D vwCl (gw cA ad σ3 τ3) H3 := hP
    obtain rfl := FrL.nil fL3
    have hF := hF.step f3 (by decide)
    refine r_iconst hx hb dX11_enough_18 (by decide) (fun z4 ez4 => ?_)
    refine lv_istore_n (lv' := [(2, .int z4), (0, .ref (ad 0)), (1, .int a1)]) hx hb dX11_enough_19 rfl hl (by decide) rfl (fun ls hl => ?_)
    refine r_iconst hx hb dX11_enough_20 (by decide) (fun z5 ez5 => ?_)
    refine lv_istore_n (lv' := [(3, .int z5), (2, .int z4), (0, .ref (ad 0)), (1, .int a1)]) hx hb dX11_enough_21 rfl hl (by decide) rfl (fun ls hl => ?_)
    exact K22 σ3 τ0 H3 locs3 z4 z5 ls hR hF hFL hP hS (by omega) (by omega) (lv_sub hl [2, 3, 1, 0] rfl) (by omega)
  · refine r_iconst hx hb dX11_enough_11 (by decide) (fun z6 ez6 => ?_)
    exact r_iret hx hb hr hK hP hS hk dX11_enough_12 (show P_X11_enough σ0 τ0 a1 z6 σ0 τ0 from ⟨hR, hF, hFL⟩)
theorem in_X11_least_11 : ∀ w ∈ u_ws RX11 TX11 19, w ∈ wsX11_least := by decide +kernel
theorem in_X11_least_9 : ∀ w ∈ u_ws RX9 TX9 14, w ∈ wsX11_least := by decide +kernel
theorem lk_X11_least_19 : Cond.fieldLink RX11 19 "CuckooShares" "valley" "LCuckooShares$Valley;" ∈ wsX11_least := by decide +kernel
theorem lk_X11_least_352 : Cond.methodLink RX11 352 Lib.Math.max.name ∈ wsX11_least := by decide +kernel
theorem lk_X11_least_60 : Cond.fieldLink RX11 60 "CuckooShares" "camp" "LCuckooShares$Camp;" ∈ wsX11_least := by decide +kernel
theorem mi_X11_least : Cond.initialized "java/lang/Math" ∈ wsX11_least := by decide +kernel
theorem ms_X11_least_max : Cond.static Lib.Math.max.name ∈ wsX11_least := by decide +kernel
theorem mc_X11_least_max : Cond.code Lib.Math.max.name Lib.Math.max.code 2 (some .int) ∈ wsX11_least := by decide +kernel
abbrev L_X11_least : List Rc := [(363, 363, 0, 39), (360, 360, 0, 7), (361, 361, 0, 7), (362, 362, 0, 7), (365, 365, 0, 1), (366, 366, 0, 1), (367, 367, 0, 1)]
abbrev LL_X11_least : List Rc := []
def P_X11_least (σ0 : Nat → Nat → Int32) (τ0 : Nat → Nat → Int64) (a1 : Int32) (r : Int32) (σ : Nat → Nat → Int32) (τ : Nat → Nat → Int64) : Prop := Rg σ ∧ Fr L_X11_least σ0 σ ∧ FrL LL_X11_least τ0 τ ∧ (-1 ≤ r.toInt ∧ r.toInt ≤ 999)
def J_X11_least_39 (p : Program) (l : Launch) (e : Env) (s : State) (m : MethodId) (args : Array Value) (below : List Frame) (meth : Method) (c : Code) (D : va_G) (cA : Nat → ClassId) (ad : Nat → Nat) (σ0 : Nat → Nat → Int32) (τ0 : Nat → Nat → Int64) (a1 : Int32) (n : Nat) : Prop := ∀ (σ : Nat → Nat → Int32) (τ : Nat → Nat → Int64) (H : Heap) (locs : List Loc) (x2 : Int32) (x3 : Int32) (x4 : Int32) (ls : Array Slot), Rg σ → Fr L_X11_least σ0 σ → FrL LL_X11_least τ0 τ → va_P D vwCl (gw cA ad σ τ) H → va_S (AA ad) s.heap H locs → (0 ≤ a1.toInt ∧ a1.toInt ≤ 3) → (-1 ≤ x3.toInt) → (0 ≤ x4.toInt ∧ x4.toInt ≤ 8) → lv_has ls 5 [(0, .ref (ad 0)), (1, .int a1), (2, .int x2), (3, .int x3), (4, .int x4)] → 2 * (8 - x4.toInt) + 1 < (n : Int) → W p l e ({ frames := 6, cells := 0, slots := 0, locals := 138 } : Room) s m args below meth c H locs 0 0 (MQ below (va_Qi (fun (r : Int32) (u : SS) => P_X11_least σ0 τ0 a1 r u.1 u.2) (WB D cA ad) (AA ad)) args s 0 0 (AA ad)) (F0 m 39 ls [])
set_option maxHeartbeats 4000000 in
theorem B_X11_least_39 (p : Program) (l : Launch) (e : Env) (s : State) (m : MethodId) (args : Array Value) (below : List Frame) (meth : Method) (c : Code) (D : va_G) (cA : Nat → ClassId) (ad : Nat → Nat) (σ0 : Nat → Nat → Int32) (τ0 : Nat → Nat → Int64) (a1 : Int32) (n : Nat) (C : Cy p s m args meth c cX11_least 5 wsX11_least RX11 D cA ad (some .int))  (K39 : J_X11_least_39 p l e s m args below meth c D cA ad σ0 τ0 a1 n) : J_X11_least_39 p l e s m args below meth c D cA ad σ0 τ0 a1 (n + 1) := by
  obtain ⟨hx, hb, hml, hown, hts, hK, hk, hr, hI, hN⟩ := C
  intro σ τ H locs x2 x3 x4 ls hR hF hFL hP hS hc0 hc1 hc2 hl hm
  obtain rfl := FrL.nil hFL
  refine lv_iload hx hb dX11_least_39 (lv_at hl 4 rfl) ?_
  refine lv_aload_n hx hb dX11_least_41 rfl (lv_at hl 0 rfl) ?_
  refine fg_11_1 (k := 0) hx hb hts in_X11_least_11 hown hK hP (by decide) (by decide) (hts _ lk_X11_least_19) dX11_least_42 ?_
  refine fgN_9_5 (k := 2) hx hb hts in_X11_least_9 hown hK hP (by decide) (by decide) (hN.use nw_11_167) dX11_least_45 ?_
  have hr1 := rg_9_5 hR (k := 2) (by decide) (by decide)
  refine r_icmp_ge (tgt := 97) hx hb dX11_least_48 (by decide) (fun c2 => ?_) (fun c2 => ?_)
  · refine lv_iload_n hx hb dX11_least_97 rfl (lv_at hl 3 rfl) ?_
    refine r_sipush hx hb dX11_least_98 (by decide) (fun z3 ez3 => ?_)
    refine r_icmp_le (tgt := 108) hx hb dX11_least_101 (by decide) (fun c4 => ?_) (fun c4 => ?_)
    · refine lv_iload_n hx hb dX11_least_108 rfl (lv_at hl 3 rfl) ?_
      exact r_iret hx hb hr hK hP hS hk dX11_least_109 (show P_X11_least σ0 τ0 a1 x3 σ τ0 from ⟨hR, hF, hFL, by omega⟩)
    · refine r_iconst hx hb dX11_least_104 (by decide) (fun z5 ez5 => ?_)
      refine lv_goto (tgt := 109) hx hb dX11_least_105 (by decide) ?_
      exact r_iret hx hb hr hK hP hS hk dX11_least_109 (show P_X11_least σ0 τ0 a1 z5 σ τ0 from ⟨hR, hF, hFL, by omega⟩)
  · refine lv_iload_n hx hb dX11_least_51 rfl (lv_at hl 2 rfl) ?_
    refine lv_iload hx hb dX11_least_52 (lv_at hl 4 rfl) ?_
    refine r_ishrU hx hb dX11_least_54 (fun z6 => ?_)
    refine r_iconst hx hb dX11_least_55 (by decide) (fun z7 ez7 => ?_)
    refine r_iand (w := 1) hx hb 1 dX11_least_56 (by omega) (by decide) (fun z8 ez8 => ?_)
    refine r_iconst hx hb dX11_least_57 (by decide) (fun z9 ez9 => ?_)
    refine r_icmp_ne (tgt := 91) hx hb dX11_least_58 (by decide) (fun c10 => ?_) (fun c10 => ?_)
    · refine r_iinc (k := 4) (lv1 := fun z11 => [(4, .int z11), (0, .ref (ad 0)), (1, .int a1), (2, .int x2), (3, .int x3)]) hx hb dX11_least_91 hl rfl (by decide) (fun _ => rfl) (by decide) (by omega) (fun z11 ls ez11 hl => ?_)
      refine lv_goto (tgt := 39) hx hb dX11_least_94 (by decide) ?_
      exact K39 σ τ0 H locs x2 x3 z11 ls hR hF hFL hP hS (by omega) (by omega) (by omega) (lv_sub hl [1, 2, 3, 4, 0] rfl) (by omega)
    · refine lv_iload_n hx hb dX11_least_61 rfl (lv_at hl 3 rfl) ?_
      refine lv_aload_n hx hb dX11_least_62 rfl (lv_at hl 0 rfl) ?_
      refine fg_11_8 (k := 0) hx hb hts in_X11_least_11 hown hK hP (by decide) (by decide) (hts _ lk_X11_least_60) dX11_least_63 ?_
      refine lv_iload hx hb dX11_least_66 (lv_at hl 4 rfl) ?_
      refine lv_aload_n hx hb dX11_least_68 rfl (lv_at hl 0 rfl) ?_
      refine fg_11_1 (k := 0) hx hb hts in_X11_least_11 hown hK hP (by decide) (by decide) (hts _ lk_X11_least_19) dX11_least_69 ?_
      refine fgN_9_10 (k := 2) hx hb hts in_X11_least_9 hown hK hP (by decide) (by decide) (hN.use nw_11_186) dX11_least_72 ?_
      refine lv_iload hx hb dX11_least_75 (lv_at hl 4 rfl) ?_
      obtain ⟨j12, ej12⟩ : ∃ j : Nat, x4.toInt = (j : Int) := ⟨_, ti_nat (by omega)⟩
      refine ad_manA (k := 52) (j := j12) hx hb hK hP (by decide) (by decide) ej12 (by omega) dX11_least_77 ?_
      refine r_iconst hx hb dX11_least_78 (by decide) (fun z13 ez13 => ?_)
      refine ad_manR (k := 100 + j12) (j := 5) hx hb hK hP (by omega) (by omega) (by omega) (by omega) dX11_least_79 ?_
      refine r_iconst hx hb dX11_least_80 (by decide) (fun z14 ez14 => ?_)
      refine r_mmax hx hb (by rw [hml]; exact hl.1.symm) hown (hts _ lk_X11_least_352) (hts _ ms_X11_least_max) (hts _ mi_X11_least) (hts _ mc_X11_least_max) (by decide) (Nat.le_of_ble_eq_true rfl) (Nat.zero_le _) (Nat.zero_le _) dX11_least_81 (fun z16 ez16 => ?_)
      refine r_cVi (k := 21) (As := [.int x4, .int z16]) (rest := [.int x3]) ⟨hx, hb, hml, hown, hts⟩ hK hP hN hS (c_X1_wheatFor l D cA ad hI σ τ0 hR x4 z16 (by omega) (by omega)) (cwV 2 hts gX11_least_X1_wheatFor rfl rfl rfl (by decide +kernel) ⟨by decide, by decide⟩) (rv_Camp hK hP (by decide) (by decide)) rfl hl.1 rfl (Nat.le_of_ble_eq_true rfl) dX11_least_84 (Nat.zero_le _) (Nat.zero_le _) (fun r17 u17 H17 locs17 hp17 hP hS => ?_)
      obtain ⟨σ17, τ17⟩ := u17
      obtain ⟨hR, f17, fL17⟩ : P_X1_wheatFor σ τ0 x4 z16 r17 σ17 τ17 := hp17
      have hP : va_P D vwCl (gw cA ad σ17 τ17) H17 := hP
      obtain rfl := FrL.nil fL17
      obtain rfl := Fr.nil f17
      refine r_mmax hx hb (by rw [hml]; exact hl.1.symm) hown (hts _ lk_X11_least_352) (hts _ ms_X11_least_max) (hts _ mi_X11_least) (hts _ mc_X11_least_max) (by decide) (Nat.le_of_ble_eq_true rfl) (Nat.zero_le _) (Nat.zero_le _) dX11_least_87 (fun z19 ez19 => ?_)
      refine lv_istore_n (lv' := [(3, .int z19), (0, .ref (ad 0)), (1, .int a1), (2, .int x2), (4, .int x4)]) hx hb dX11_least_90 rfl hl (by decide) rfl (fun ls hl => ?_)
      refine r_iinc (k := 4) (lv1 := fun z20 => [(4, .int z20), (3, .int z19), (0, .ref (ad 0)), (1, .int a1), (2, .int x2)]) hx hb dX11_least_91 hl rfl (by decide) (fun _ => rfl) (by decide) (by omega) (fun z20 ls ez20 hl => ?_)
      refine lv_goto (tgt := 39) hx hb dX11_least_94 (by decide) ?_
      exact K39 σ τ0 H17 locs17 x2 z19 z20 ls hR hF hFL hP hS (by omega) (by omega) (by omega) (lv_sub hl [2, 3, 4, 1, 0] rfl) (by omega)
theorem A_X11_least (p : Program) (l : Launch) (e : Env) (s : State) (m : MethodId) (args : Array Value) (below : List Frame) (meth : Method) (c : Code) (D : va_G) (cA : Nat → ClassId) (ad : Nat → Nat) (σ0 : Nat → Nat → Int32) (τ0 : Nat → Nat → Int64) (a1 : Int32) (C : Cy p s m args meth c cX11_least 5 wsX11_least RX11 D cA ad (some .int))  : ∀ n : Nat, J_X11_least_39 p l e s m args below meth c D cA ad σ0 τ0 a1 n := by
  intro n
  induction n with
  | zero =>
    exact (by intro σ τ H locs x2 x3 x4 ls hR hF hFL hP hS hc0 hc1 hc2 hl hm; exfalso; omega)
  | succ n ih =>
    exact B_X11_least_39 p l e s m args below meth c D cA ad σ0 τ0 a1 n C  ih
set_option maxHeartbeats 4000000 in
theorem c_X11_least (l : Launch) (D : va_G) (cA : Nat → ClassId) (ad : Nat → Nat) (hI : Inj ad) (σ0 : Nat → Nat → Int32) (τ0 : Nat → Nat → Int64) (hR : Rg σ0) (a1 : Int32)  : Met l yX11_least wsX11_least ({ frames := 6, cells := 0, slots := 0, locals := 138 } : Room) (WQc D cA ad [.ref (ad 0), .int a1] σ0 τ0) (va_Qi (fun (r : Int32) (u : SS) => P_X11_least σ0 τ0 a1 r u.1 u.2) (WB D cA ad) (AA ad)) 0 0 (AA ad) := by
  refine Met.ofW (cc := cX11_least) (maxL := 5) (ret := (some .int)) (by decide) rfl ?_
  intro p e s m args below meth c s₁ B hml hv
  obtain ⟨rfl, hP, hK, hN⟩ := hv
  have C : Cy p s m _ meth c cX11_least 5 wsX11_least RX11 D cA ad (some .int) := ⟨B.exec, B.bytes, hml, findClass_of_methodNamed B.named, atoms_spec (ws := wsX11_least) B.pre, hK, B.notSynchronized, B.returns, hI, hN⟩
  have hl := lv_entry ([.ref (ad 0), .int a1]) (n := 5) (Nat.le_of_ble_eq_true rfl)
  rw [lg_entry_eq]
  generalize (lg_sl ([.ref (ad 0), .int a1]) ++ List.replicate (5 - (lg_sl ([.ref (ad 0), .int a1])).length) Slot.unset).toArray = ls at hl ⊢
  have hl : lv_has ls 5 [(0, .ref (ad 0)), (1, .int a1)] := hl
  have hS : va_S (AA ad) s.heap s.heap [] := va_S.rf
  have hF : Fr L_X11_least σ0 σ0 := Fr.rf
  have hFL : FrL LL_X11_least τ0 τ0 := FrL.rf
  have hA := A_X11_least p l e s m _ below meth c D cA ad σ0 τ0 a1 C  42
  have K39 := hA
  clear hA
  obtain ⟨hx, hb, _, hown, hts, _, hk, hr, _, _⟩ := C
  refine lv_aload_n hx hb dX11_least_0 rfl (lv_at hl 0 rfl) ?_
  refine fg_11_1 (k := 0) hx hb hts in_X11_least_11 hown hK hP (by decide) (by decide) (hts _ lk_X11_least_19) dX11_least_1 ?_
  refine lv_iload_n hx hb dX11_least_4 rfl (lv_at hl 1 rfl) ?_
  refine r_cVi (k := 2) (As := [.int a1]) (rest := []) ⟨hx, hb, hml, hown, hts⟩ hK hP hN hS (c_X9_hasFlight l D cA ad hI σ0 τ0 hR 2 a1 ⟨by omega, by omega⟩) (cwV 1 hts gX11_least_X9_hasFlight rfl rfl rfl (by decide +kernel) ⟨by decide, by decide⟩) (rv_Valley hK hP (by decide) (by decide)) rfl hl.1 rfl (Nat.le_of_ble_eq_true rfl) dX11_least_5 (Nat.zero_le _) (Nat.zero_le _) (fun r1 u1 H1 locs1 hp1 hP hS => ?_)
  obtain ⟨σ1, τ1⟩ := u1
  obtain ⟨hR, f1, fL1, hq1, hp1_0, hp1_1⟩ : P_X9_hasFlight σ0 τ0 2 a1 r1 σ1 τ1 := hp1
  have hP : va_P D vwCl (gw cA ad σ1 τ1) H1 := hP
  obtain rfl := FrL.nil fL1
  obtain rfl := Fr.nil f1
  refine r_if_ne (tgt := 13) hx hb dX11_least_8 (by decide) (fun c2 => ?_) (fun c2 => ?_)
  · refine lv_aload_n hx hb dX11_least_13 rfl (lv_at hl 0 rfl) ?_
    refine lv_iload_n hx hb dX11_least_14 rfl (lv_at hl 1 rfl) ?_
    refine r_cVv (k := 0) (As := [.int a1]) (rest := []) ⟨hx, hb, hml, hown, hts⟩ hK hP hN hS (c_X11_countHonest l D cA ad hI σ0 τ0 hR a1 (by omega)) (cwV 1 hts gX11_least_X11_countHonest rfl rfl rfl (by decide +kernel) ⟨by decide, by decide⟩) (rv_X hK hP (by decide) (by decide)) rfl hl.1 rfl (Nat.le_of_ble_eq_true rfl) dX11_least_15 (Nat.zero_le _) (Nat.zero_le _) (fun u3 H3 locs3 hp3 hP hS => ?_)
    obtain ⟨σ3, τ3⟩ := u3
    obtain ⟨hR, f3, fL3⟩ : P_X11_countHonest σ0 τ0 a1 σ3 τ3 := hp3
    have hP : va_P D vwCl (gw cA ad σ3 τ3) H3 := hP
    obtain rfl := FrL.nil fL3
    have hF := hF.step f3 (by decide)
    refine lv_aload_n hx hb dX11_least_18 rfl (lv_at hl 0 rfl) ?_
    refine fg_11_8 (k := 0) hx hb hts in_X11_least_11 hown hK hP (by decide) (by decide) (hts _ lk_X11_least_60) dX11_least_19 ?_
    refine r_cVi (k := 21) (As := []) (rest := []) ⟨hx, hb, hml, hown, hts⟩ hK hP hN hS (c_X1_allSharers l D cA ad hI σ3 τ0 hR) (cwV 0 hts gX11_least_X1_allSharers rfl rfl rfl (by decide +kernel) ⟨by decide, by decide⟩) (rv_Camp hK hP (by decide) (by decide)) rfl hl.1 rfl (Nat.le_of_ble_eq_true rfl) dX11_least_22 (Nat.zero_le _) (Nat.zero_le _) (fun r4 u4 H4 locs4 hp4 hP hS => ?_)
    obtain ⟨σ4, τ4⟩ := u4
    obtain ⟨hR, f4, fL4⟩ : P_X1_allSharers σ3 τ0 r4 σ4 τ4 := hp4
    have hP : va_P D vwCl (gw cA ad σ4 τ4) H4 := hP
    obtain rfl := FrL.nil fL4
    obtain rfl := Fr.nil f4
    refine lv_istore_n (lv' := [(2, .int r4), (0, .ref (ad 0)), (1, .int a1)]) hx hb dX11_least_25 rfl hl (by decide) rfl (fun ls hl => ?_)
    refine lv_iload_n hx hb dX11_least_26 rfl (lv_at hl 0 rfl) ?_
    refine r_if_ne (tgt := 34) hx hb dX11_least_27 (by decide) (fun c5 => ?_) (fun c5 => ?_)
    · refine r_iconst hx hb dX11_least_34 (by decide) (fun z6 ez6 => ?_)
      refine lv_istore_n (lv' := [(3, .int z6), (2, .int r4), (0, .ref (ad 0)), (1, .int a1)]) hx hb dX11_least_35 rfl hl (by decide) rfl (fun ls hl => ?_)
      refine r_iconst hx hb dX11_least_36 (by decide) (fun z7 ez7 => ?_)
      refine lv_istore (lv' := [(4, .int z7), (3, .int z6), (2, .int r4), (0, .ref (ad 0)), (1, .int a1)]) hx hb dX11_least_37 hl (by decide) rfl (fun ls hl => ?_)
      exact K39 σ3 τ0 H4 locs4 r4 z6 z7 ls hR hF hFL hP hS (by omega) (by omega) (by omega) (lv_sub hl [3, 4, 2, 1, 0] rfl) (by omega)
    · refine r_iconst hx hb dX11_least_30 (by decide) (fun z8 ez8 => ?_)
      refine lv_goto (tgt := 35) hx hb dX11_least_31 (by decide) ?_
      refine lv_istore_n (lv' := [(3, .int z8), (2, .int r4), (0, .ref (ad 0)), (1, .int a1)]) hx hb dX11_least_35 rfl hl (by decide) rfl (fun ls hl => ?_)
      refine r_iconst hx hb dX11_least_36 (by decide) (fun z9 ez9 => ?_)
      refine lv_istore (lv' := [(4, .int z9), (3, .int z8), (2, .int r4), (0, .ref (ad 0)), (1, .int a1)]) hx hb dX11_least_37 hl (by decide) rfl (fun ls hl => ?_)
      exact K39 σ3 τ0 H4 locs4 r4 z8 z9 ls hR hF hFL hP hS (by omega) (by omega) (by omega) (lv_sub hl [3, 4, 2, 1, 0] rfl) (by omega)
  · refine r_iconst hx hb dX11_least_11 (by decide) (fun z10 ez10 => ?_)
    exact r_iret hx hb hr hK hP hS hk dX11_least_12 (show P_X11_least σ0 τ0 a1 z10 σ0 τ0 from ⟨hR, hF, hFL, by omega⟩)
theorem in_X11_poor_1 : ∀ w ∈ u_ws RX1 TX1 9, w ∈ wsX11_poor := by decide +kernel
theorem in_X11_poor_11 : ∀ w ∈ u_ws RX11 TX11 19, w ∈ wsX11_poor := by decide +kernel
theorem in_X11_poor_9 : ∀ w ∈ u_ws RX9 TX9 14, w ∈ wsX11_poor := by decide +kernel
theorem lk_X11_poor_19 : Cond.fieldLink RX11 19 "CuckooShares" "valley" "LCuckooShares$Valley;" ∈ wsX11_poor := by decide +kernel
theorem lk_X11_poor_38 : Cond.fieldLink RX11 38 "CuckooShares" "days" "LCuckooShares$Days;" ∈ wsX11_poor := by decide +kernel
theorem lk_X11_poor_60 : Cond.fieldLink RX11 60 "CuckooShares" "camp" "LCuckooShares$Camp;" ∈ wsX11_poor := by decide +kernel
abbrev L_X11_poor : List Rc := [(363, 363, 0, 39), (360, 360, 0, 7), (361, 361, 0, 7), (362, 362, 0, 7)]
abbrev LL_X11_poor : List Rc := []
def P_X11_poor (σ0 : Nat → Nat → Int32) (τ0 : Nat → Nat → Int64)  (r : Int32) (σ : Nat → Nat → Int32) (τ : Nat → Nat → Int64) : Prop := Rg σ ∧ Fr L_X11_poor σ0 σ ∧ FrL LL_X11_poor τ0 τ
def J_X11_poor_22 (p : Program) (l : Launch) (e : Env) (s : State) (m : MethodId) (args : Array Value) (below : List Frame) (meth : Method) (c : Code) (D : va_G) (cA : Nat → ClassId) (ad : Nat → Nat) (σ0 : Nat → Nat → Int32) (τ0 : Nat → Nat → Int64)  (n : Nat) : Prop := ∀ (σ : Nat → Nat → Int32) (τ : Nat → Nat → Int64) (H : Heap) (locs : List Loc) (x1 : Int32) (x2 : Int32) (ls : Array Slot), Rg σ → Fr L_X11_poor σ0 σ → FrL LL_X11_poor τ0 τ → va_P D vwCl (gw cA ad σ τ) H → va_S (AA ad) s.heap H locs → (0 ≤ x2.toInt ∧ x2.toInt ≤ 4) → lv_has ls 4 [(0, .ref (ad 0)), (1, .int x1), (2, .int x2)] → 25 * (4 - x2.toInt) + 24 < (n : Int) → W p l e ({ frames := 6, cells := 0, slots := 0, locals := 138 } : Room) s m args below meth c H locs 0 0 (MQ below (va_Qi (fun (r : Int32) (u : SS) => P_X11_poor σ0 τ0 r u.1 u.2) (WB D cA ad) (AA ad)) args s 0 0 (AA ad)) (F0 m 22 ls [])
def J_X11_poor_35 (p : Program) (l : Launch) (e : Env) (s : State) (m : MethodId) (args : Array Value) (below : List Frame) (meth : Method) (c : Code) (D : va_G) (cA : Nat → ClassId) (ad : Nat → Nat) (σ0 : Nat → Nat → Int32) (τ0 : Nat → Nat → Int64)  (n : Nat) : Prop := ∀ (σ : Nat → Nat → Int32) (τ : Nat → Nat → Int64) (H : Heap) (locs : List Loc) (x1 : Int32) (x2 : Int32) (x3 : Int32) (ls : Array Slot), Rg σ → Fr L_X11_poor σ0 σ → FrL LL_X11_poor τ0 τ → va_P D vwCl (gw cA ad σ τ) H → va_S (AA ad) s.heap H locs → (0 ≤ x2.toInt ∧ x2.toInt ≤ 3) → (0 ≤ x3.toInt ∧ x3.toInt ≤ 10) → lv_has ls 4 [(0, .ref (ad 0)), (1, .int x1), (2, .int x2), (3, .int x3)] → 2 * (10 - x3.toInt) + 25 * (4 - x2.toInt) + 1 < (n : Int) → W p l e ({ frames := 6, cells := 0, slots := 0, locals := 138 } : Room) s m args below meth c H locs 0 0 (MQ below (va_Qi (fun (r : Int32) (u : SS) => P_X11_poor σ0 τ0 r u.1 u.2) (WB D cA ad) (AA ad)) args s 0 0 (AA ad)) (F0 m 35 ls [])
set_option maxHeartbeats 4000000 in
theorem B_X11_poor_22 (p : Program) (l : Launch) (e : Env) (s : State) (m : MethodId) (args : Array Value) (below : List Frame) (meth : Method) (c : Code) (D : va_G) (cA : Nat → ClassId) (ad : Nat → Nat) (σ0 : Nat → Nat → Int32) (τ0 : Nat → Nat → Int64)  (n : Nat) (C : Cy p s m args meth c cX11_poor 4 wsX11_poor RX11 D cA ad (some .int))  (K22 : J_X11_poor_22 p l e s m args below meth c D cA ad σ0 τ0 n) (K35 : J_X11_poor_35 p l e s m args below meth c D cA ad σ0 τ0 n) : J_X11_poor_22 p l e s m args below meth c D cA ad σ0 τ0 (n + 1) := by
  obtain ⟨hx, hb, hml, hown, hts, hK, hk, hr, hI, hN⟩ := C
  intro σ τ H locs x1 x2 ls hR hF hFL hP hS hc0 hl hm
  obtain rfl := FrL.nil hFL
  refine lv_iload_n hx hb dX11_poor_22 rfl (lv_at hl 2 rfl) ?_
  refine lv_aload_n hx hb dX11_poor_23 rfl (lv_at hl 0 rfl) ?_
  refine fg_11_1 (k := 0) hx hb hts in_X11_poor_11 hown hK hP (by decide) (by decide) (hts _ lk_X11_poor_19) dX11_poor_24 ?_
  refine fgN_9_6 (k := 2) hx hb hts in_X11_poor_9 hown hK hP (by decide) (by decide) (hN.use nw_11_238) dX11_poor_27 ?_
  have hr1 := rg_9_6 hR (k := 2) (by decide) (by decide)
  refine r_icmp_ge (tgt := 79) hx hb dX11_poor_30 (by decide) (fun c2 => ?_) (fun c2 => ?_)
  · refine lv_aload_n hx hb dX11_poor_79 rfl (lv_at hl 0 rfl) ?_
    refine fg_11_1 (k := 0) hx hb hts in_X11_poor_11 hown hK hP (by decide) (by decide) (hts _ lk_X11_poor_19) dX11_poor_80 ?_
    refine r_cVi (k := 2) (As := []) (rest := []) ⟨hx, hb, hml, hown, hts⟩ hK hP hN hS (c_X9_allMen l D cA ad hI σ τ0 hR) (cwV 0 hts gX11_poor_X9_allMen rfl rfl rfl (by decide +kernel) ⟨by decide, by decide⟩) (rv_Valley hK hP (by decide) (by decide)) rfl hl.1 rfl (Nat.le_of_ble_eq_true rfl) dX11_poor_83 (Nat.zero_le _) (Nat.zero_le _) (fun r3 u3 H3 locs3 hp3 hP hS => ?_)
    obtain ⟨σ3, τ3⟩ := u3
    obtain ⟨hR, f3, fL3⟩ : P_X9_allMen σ τ0 r3 σ3 τ3 := hp3
    have hP : va_P D vwCl (gw cA ad σ3 τ3) H3 := hP
    obtain rfl := FrL.nil fL3
    obtain rfl := Fr.nil f3
    refine lv_iload_n hx hb dX11_poor_86 rfl (lv_at hl 1 rfl) ?_
    refine r_iconst hx hb dX11_poor_87 (by decide) (fun z4 ez4 => ?_)
    refine r_ixorU hx hb dX11_poor_88 (fun z5 => ?_)
    refine r_iandU hx hb dX11_poor_89 (fun z6 => ?_)
    exact r_iret hx hb hr hK hP hS hk dX11_poor_90 (show P_X11_poor σ0 τ0 z6 σ τ0 from ⟨hR, hF, hFL⟩)
  · refine r_iconst hx hb dX11_poor_33 (by decide) (fun z7 ez7 => ?_)
    refine lv_istore_n (lv' := [(3, .int z7), (0, .ref (ad 0)), (1, .int x1), (2, .int x2)]) hx hb dX11_poor_34 rfl hl (by decide) rfl (fun ls hl => ?_)
    exact K35 σ τ0 H locs x1 x2 z7 ls hR hF hFL hP hS (by omega) (by omega) (lv_sub hl [1, 2, 3, 0] rfl) (by omega)
set_option maxHeartbeats 4000000 in
theorem B_X11_poor_35 (p : Program) (l : Launch) (e : Env) (s : State) (m : MethodId) (args : Array Value) (below : List Frame) (meth : Method) (c : Code) (D : va_G) (cA : Nat → ClassId) (ad : Nat → Nat) (σ0 : Nat → Nat → Int32) (τ0 : Nat → Nat → Int64)  (n : Nat) (C : Cy p s m args meth c cX11_poor 4 wsX11_poor RX11 D cA ad (some .int))  (K22 : J_X11_poor_22 p l e s m args below meth c D cA ad σ0 τ0 n) (K35 : J_X11_poor_35 p l e s m args below meth c D cA ad σ0 τ0 n) : J_X11_poor_35 p l e s m args below meth c D cA ad σ0 τ0 (n + 1) := by
  obtain ⟨hx, hb, hml, hown, hts, hK, hk, hr, hI, hN⟩ := C
  intro σ τ H locs x1 x2 x3 ls hR hF hFL hP hS hc0 hc1 hl hm
  obtain rfl := FrL.nil hFL
  refine lv_iload_n hx hb dX11_poor_35 rfl (lv_at hl 3 rfl) ?_
  refine lv_aload_n hx hb dX11_poor_36 rfl (lv_at hl 0 rfl) ?_
  refine fg_11_1 (k := 0) hx hb hts in_X11_poor_11 hown hK hP (by decide) (by decide) (hts _ lk_X11_poor_19) dX11_poor_37 ?_
  refine fgN_9_11 (k := 2) hx hb hts in_X11_poor_9 hown hK hP (by decide) (by decide) (hN.use nw_11_203) dX11_poor_40 ?_
  refine lv_iload_n hx hb dX11_poor_43 rfl (lv_at hl 2 rfl) ?_
  obtain ⟨j1, ej1⟩ : ∃ j : Nat, x2.toInt = (j : Int) := ⟨_, ti_nat (by omega)⟩
  refine ad_flightA (k := 56) (j := j1) hx hb hK hP (by decide) (by decide) ej1 (by omega) dX11_poor_44 ?_
  refine r_iconst hx hb dX11_poor_45 (by decide) (fun z2 ez2 => ?_)
  refine ad_flightR (k := 132 + j1) (j := 2) hx hb hK hP (by omega) (by omega) (by omega) (by omega) dX11_poor_46 ?_
  have hr3 := ra_flightR_0 hR (k := 132 + j1) (j := 2) (by omega) (by omega) (by decide) (by decide)
  refine r_icmp_ge (tgt := 73) hx hb dX11_poor_47 (by decide) (fun c4 => ?_) (fun c4 => ?_)
  · refine r_iinc (k := 2) (lv1 := fun z5 => [(2, .int z5), (0, .ref (ad 0)), (1, .int x1), (3, .int x3)]) hx hb dX11_poor_73 hl rfl (by decide) (fun _ => rfl) (by decide) (by omega) (fun z5 ls ez5 hl => ?_)
    refine lv_goto (tgt := 22) hx hb dX11_poor_76 (by decide) ?_
    exact K22 σ τ0 H locs x1 z5 ls hR hF hFL hP hS (by omega) (lv_sub hl [1, 2, 0] rfl) (by omega)
  · refine lv_iload_n hx hb dX11_poor_50 rfl (lv_at hl 1 rfl) ?_
    refine lv_aload_n hx hb dX11_poor_51 rfl (lv_at hl 0 rfl) ?_
    refine fg_11_8 (k := 0) hx hb hts in_X11_poor_11 hown hK hP (by decide) (by decide) (hts _ lk_X11_poor_60) dX11_poor_52 ?_
    refine fgN_1_4 (k := 21) hx hb hts in_X11_poor_1 hown hK hP (by decide) (by decide) (hN.use nw_11_360) dX11_poor_55 ?_
    refine lv_iload_n hx hb dX11_poor_58 rfl (lv_at hl 2 rfl) ?_
    refine r_bipush hx hb dX11_poor_59 (by decide) (fun z6 ez6 => ?_)
    refine r_imulR (n := 10) hx hb dX11_poor_61 (by omega) (by omega) (fun z7 ez7 => ?_)
    refine lv_iload_n hx hb dX11_poor_62 rfl (lv_at hl 3 rfl) ?_
    refine r_iadd hx hb dX11_poor_63 (by omega) (fun z8 ez8 => ?_)
    obtain ⟨j9, ej9⟩ : ∃ j : Nat, z8.toInt = (j : Int) := ⟨_, ti_nat (by omega)⟩
    refine ad_heard (k := 363) (j := j9) hx hb hK hP (by decide) (by decide) ej9 (by omega) dX11_poor_64 ?_
    refine r_iorU hx hb dX11_poor_65 (fun z10 => ?_)
    refine lv_istore_n (lv' := [(1, .int z10), (0, .ref (ad 0)), (2, .int x2), (3, .int x3)]) hx hb dX11_poor_66 rfl hl (by decide) rfl (fun ls hl => ?_)
    refine r_iinc (k := 3) (lv1 := fun z11 => [(3, .int z11), (1, .int z10), (0, .ref (ad 0)), (2, .int x2)]) hx hb dX11_poor_67 hl rfl (by decide) (fun _ => rfl) (by decide) (by omega) (fun z11 ls ez11 hl => ?_)
    refine lv_goto (tgt := 35) hx hb dX11_poor_70 (by decide) ?_
    exact K35 σ τ0 H locs z10 x2 z11 ls hR hF hFL hP hS (by omega) (by omega) (lv_sub hl [2, 1, 3, 0] rfl) (by omega)
theorem A_X11_poor (p : Program) (l : Launch) (e : Env) (s : State) (m : MethodId) (args : Array Value) (below : List Frame) (meth : Method) (c : Code) (D : va_G) (cA : Nat → ClassId) (ad : Nat → Nat) (σ0 : Nat → Nat → Int32) (τ0 : Nat → Nat → Int64)  (C : Cy p s m args meth c cX11_poor 4 wsX11_poor RX11 D cA ad (some .int))  : ∀ n : Nat, J_X11_poor_22 p l e s m args below meth c D cA ad σ0 τ0 n ∧ J_X11_poor_35 p l e s m args below meth c D cA ad σ0 τ0 n := by
  intro n
  induction n with
  | zero =>
    exact ⟨(by intro σ τ H locs x1 x2 ls hR hF hFL hP hS hc0 hl hm; exfalso; omega), (by intro σ τ H locs x1 x2 x3 ls hR hF hFL hP hS hc0 hc1 hl hm; exfalso; omega)⟩
  | succ n ih =>
    exact ⟨B_X11_poor_22 p l e s m args below meth c D cA ad σ0 τ0 n C  ih.1 ih.2, B_X11_poor_35 p l e s m args below meth c D cA ad σ0 τ0 n C  ih.1 ih.2⟩
set_option maxHeartbeats 4000000 in
theorem c_X11_poor (l : Launch) (D : va_G) (cA : Nat → ClassId) (ad : Nat → Nat) (hI : Inj ad) (σ0 : Nat → Nat → Int32) (τ0 : Nat → Nat → Int64) (hR : Rg σ0)   : Met l yX11_poor wsX11_poor ({ frames := 6, cells := 0, slots := 0, locals := 138 } : Room) (WQc D cA ad [.ref (ad 0)] σ0 τ0) (va_Qi (fun (r : Int32) (u : SS) => P_X11_poor σ0 τ0 r u.1 u.2) (WB D cA ad) (AA ad)) 0 0 (AA ad) := by
  refine Met.ofW (cc := cX11_poor) (maxL := 4) (ret := (some .int)) (by decide) rfl ?_
  intro p e s m args below meth c s₁ B hml hv
  obtain ⟨rfl, hP, hK, hN⟩ := hv
  have C : Cy p s m _ meth c cX11_poor 4 wsX11_poor RX11 D cA ad (some .int) := ⟨B.exec, B.bytes, hml, findClass_of_methodNamed B.named, atoms_spec (ws := wsX11_poor) B.pre, hK, B.notSynchronized, B.returns, hI, hN⟩
  have hl := lv_entry ([.ref (ad 0)]) (n := 4) (Nat.le_of_ble_eq_true rfl)
  rw [lg_entry_eq]
  generalize (lg_sl ([.ref (ad 0)]) ++ List.replicate (4 - (lg_sl ([.ref (ad 0)])).length) Slot.unset).toArray = ls at hl ⊢
  have hl : lv_has ls 4 [(0, .ref (ad 0))] := hl
  have hS : va_S (AA ad) s.heap s.heap [] := va_S.rf
  have hF : Fr L_X11_poor σ0 σ0 := Fr.rf
  have hFL : FrL LL_X11_poor τ0 τ0 := FrL.rf
  have hA := A_X11_poor p l e s m _ below meth c D cA ad σ0 τ0 C  301
  have K22 := hA.1
  have K35 := hA.2
  clear hA
  obtain ⟨hx, hb, _, hown, hts, _, hk, hr, _, _⟩ := C
  refine lv_aload_n hx hb dX11_poor_0 rfl (lv_at hl 0 rfl) ?_
  refine fg_11_8 (k := 0) hx hb hts in_X11_poor_11 hown hK hP (by decide) (by decide) (hts _ lk_X11_poor_60) dX11_poor_1 ?_
  refine lv_aload_n hx hb dX11_poor_4 rfl (lv_at hl 0 rfl) ?_
  refine fg_11_4 (k := 0) hx hb hts in_X11_poor_11 hown hK hP (by decide) (by decide) (hts _ lk_X11_poor_38) dX11_poor_5 ?_
  refine r_cVv (k := 21) (As := [.ref (ad 7)]) (rest := []) ⟨hx, hb, hml, hown, hts⟩ hK hP hN hS (c_X1_pitch l D cA ad hI σ0 τ0 hR 7 ⟨by omega, by omega⟩) (cwV 1 hts gX11_poor_X1_pitch rfl rfl rfl (by decide +kernel) ⟨by decide, by decide⟩) (rv_Camp hK hP (by decide) (by decide)) rfl hl.1 rfl (Nat.le_of_ble_eq_true rfl) dX11_poor_8 (Nat.zero_le _) (Nat.zero_le _) (fun u1 H1 locs1 hp1 hP hS => ?_)
  obtain ⟨σ1, τ1⟩ := u1
  obtain ⟨hR, f1, fL1⟩ : P_X1_pitch σ0 τ0 7 σ1 τ1 := hp1
  have hP : va_P D vwCl (gw cA ad σ1 τ1) H1 := hP
  obtain rfl := FrL.nil fL1
  have hF := hF.step f1 (by decide)
  refine lv_aload_n hx hb dX11_poor_11 rfl (lv_at hl 0 rfl) ?_
  refine fg_11_8 (k := 0) hx hb hts in_X11_poor_11 hown hK hP (by decide) (by decide) (hts _ lk_X11_poor_60) dX11_poor_12 ?_
  refine r_cVv (k := 21) (As := []) (rest := []) ⟨hx, hb, hml, hown, hts⟩ hK hP hN hS (c_X1_listenToAll l D cA ad hI σ1 τ0 hR) (cwV 0 hts gX11_poor_X1_listenToAll rfl rfl rfl (by decide +kernel) ⟨by decide, by decide⟩) (rv_Camp hK hP (by decide) (by decide)) rfl hl.1 rfl (Nat.le_of_ble_eq_true rfl) dX11_poor_15 (Nat.zero_le _) (Nat.zero_le _) (fun u2 H2 locs2 hp2 hP hS => ?_)
  obtain ⟨σ2, τ2⟩ := u2
  obtain ⟨hR, f2, fL2⟩ : P_X1_listenToAll σ1 τ0 σ2 τ2 := hp2
  have hP : va_P D vwCl (gw cA ad σ2 τ2) H2 := hP
  obtain rfl := FrL.nil fL2
  have hF := hF.step f2 (by decide)
  refine r_iconst hx hb dX11_poor_18 (by decide) (fun z3 ez3 => ?_)
  refine lv_istore_n (lv' := [(1, .int z3), (0, .ref (ad 0))]) hx hb dX11_poor_19 rfl hl (by decide) rfl (fun ls hl => ?_)
  refine r_iconst hx hb dX11_poor_20 (by decide) (fun z4 ez4 => ?_)
  refine lv_istore_n (lv' := [(2, .int z4), (1, .int z3), (0, .ref (ad 0))]) hx hb dX11_poor_21 rfl hl (by decide) rfl (fun ls hl => ?_)
  exact K22 σ2 τ0 H2 locs2 z3 z4 ls hR hF hFL hP hS (by omega) (lv_sub hl [2, 1, 0] rfl) (by omega)
theorem in_X11_crowded_11 : ∀ w ∈ u_ws RX11 TX11 19, w ∈ wsX11_crowded := by decide +kernel
theorem in_X11_crowded_9 : ∀ w ∈ u_ws RX9 TX9 14, w ∈ wsX11_crowded := by decide +kernel
theorem lk_X11_crowded_19 : Cond.fieldLink RX11 19 "CuckooShares" "valley" "LCuckooShares$Valley;" ∈ wsX11_crowded := by decide +kernel
theorem lk_X11_crowded_38 : Cond.fieldLink RX11 38 "CuckooShares" "days" "LCuckooShares$Days;" ∈ wsX11_crowded := by decide +kernel
theorem lk_X11_crowded_60 : Cond.fieldLink RX11 60 "CuckooShares" "camp" "LCuckooShares$Camp;" ∈ wsX11_crowded := by decide +kernel
abbrev L_X11_crowded : List Rc := [(363, 363, 0, 39), (360, 360, 0, 7), (361, 361, 0, 7), (362, 362, 0, 7), (365, 365, 0, 1), (366, 366, 0, 1), (367, 367, 0, 1)]
abbrev LL_X11_crowded : List Rc := []
def P_X11_crowded (σ0 : Nat → Nat → Int32) (τ0 : Nat → Nat → Int64)  (r : Int32) (σ : Nat → Nat → Int32) (τ : Nat → Nat → Int64) : Prop := Rg σ ∧ Fr L_X11_crowded σ0 σ ∧ FrL LL_X11_crowded τ0 τ ∧ (-1 ≤ r.toInt ∧ r.toInt ≤ 3)
def J_X11_crowded_17 (p : Program) (l : Launch) (e : Env) (s : State) (m : MethodId) (args : Array Value) (below : List Frame) (meth : Method) (c : Code) (D : va_G) (cA : Nat → ClassId) (ad : Nat → Nat) (σ0 : Nat → Nat → Int32) (τ0 : Nat → Nat → Int64)  (n : Nat) : Prop := ∀ (σ : Nat → Nat → Int32) (τ : Nat → Nat → Int64) (H : Heap) (locs : List Loc) (x1 : Int32) (x2 : Int32) (x3 : Int32) (ls : Array Slot), Rg σ → Fr L_X11_crowded σ0 σ → FrL LL_X11_crowded τ0 τ → va_P D vwCl (gw cA ad σ τ) H → va_S (AA ad) s.heap H locs → (-1 ≤ x1.toInt ∧ x1.toInt ≤ 3) → (-1 ≤ x2.toInt ∧ x2.toInt ≤ 63) → (0 ≤ x3.toInt ∧ x3.toInt ≤ 4) → lv_has ls 5 [(0, .ref (ad 0)), (1, .int x1), (2, .int x2), (3, .int x3)] → 2 * (4 - x3.toInt) + 1 < (n : Int) → W p l e ({ frames := 5, cells := 0, slots := 0, locals := 117 } : Room) s m args below meth c H locs 0 0 (MQ below (va_Qi (fun (r : Int32) (u : SS) => P_X11_crowded σ0 τ0 r u.1 u.2) (WB D cA ad) (AA ad)) args s 0 0 (AA ad)) (F0 m 17 ls [])
set_option maxHeartbeats 4000000 in
theorem B_X11_crowded_17 (p : Program) (l : Launch) (e : Env) (s : State) (m : MethodId) (args : Array Value) (below : List Frame) (meth : Method) (c : Code) (D : va_G) (cA : Nat → ClassId) (ad : Nat → Nat) (σ0 : Nat → Nat → Int32) (τ0 : Nat → Nat → Int64)  (n : Nat) (C : Cy p s m args meth c cX11_crowded 5 wsX11_crowded RX11 D cA ad (some .int))  (K17 : J_X11_crowded_17 p l e s m args below meth c D cA ad σ0 τ0 n) : J_X11_crowded_17 p l e s m args below meth c D cA ad σ0 τ0 (n + 1) := by
  obtain ⟨hx, hb, hml, hown, hts, hK, hk, hr, hI, hN⟩ := C
  intro σ τ H locs x1 x2 x3 ls hR hF hFL hP hS hc0 hc1 hc2 hl hm
  obtain rfl := FrL.nil hFL
  refine lv_iload_n hx hb dX11_crowded_17 rfl (lv_at hl 3 rfl) ?_
  refine lv_aload_n hx hb dX11_crowded_18 rfl (lv_at hl 0 rfl) ?_
  refine fg_11_1 (k := 0) hx hb hts in_X11_crowded_11 hown hK hP (by decide) (by decide) (hts _ lk_X11_crowded_19) dX11_crowded_19 ?_
  refine fgN_9_6 (k := 2) hx hb hts in_X11_crowded_9 hown hK hP (by decide) (by decide) (hN.use nw_11_238) dX11_crowded_22 ?_
  have hr1 := rg_9_6 hR (k := 2) (by decide) (by decide)
  refine r_icmp_ge (tgt := 73) hx hb dX11_crowded_25 (by decide) (fun c2 => ?_) (fun c2 => ?_)
  · refine lv_iload_n hx hb dX11_crowded_73 rfl (lv_at hl 1 rfl) ?_
    exact r_iret hx hb hr hK hP hS hk dX11_crowded_74 (show P_X11_crowded σ0 τ0 x1 σ τ0 from ⟨hR, hF, hFL, by omega⟩)
  · refine lv_aload_n hx hb dX11_crowded_28 rfl (lv_at hl 0 rfl) ?_
    refine fg_11_8 (k := 0) hx hb hts in_X11_crowded_11 hown hK hP (by decide) (by decide) (hts _ lk_X11_crowded_60) dX11_crowded_29 ?_
    refine lv_iload_n hx hb dX11_crowded_32 rfl (lv_at hl 3 rfl) ?_
    refine r_cVv (k := 21) (As := [.int x3]) (rest := []) ⟨hx, hb, hml, hown, hts⟩ hK hP hN hS (c_X1_listen l D cA ad hI σ τ0 hR x3 (by omega)) (cwV 1 hts gX11_crowded_X1_listen rfl rfl rfl (by decide +kernel) ⟨by decide, by decide⟩) (rv_Camp hK hP (by decide) (by decide)) rfl hl.1 rfl (Nat.le_of_ble_eq_true rfl) dX11_crowded_33 (Nat.zero_le _) (Nat.zero_le _) (fun u3 H3 locs3 hp3 hP hS => ?_)
    obtain ⟨σ3, τ3⟩ := u3
    obtain ⟨hR, f3, fL3⟩ : P_X1_listen σ τ0 x3 σ3 τ3 := hp3
    have hP : va_P D vwCl (gw cA ad σ3 τ3) H3 := hP
    obtain rfl := FrL.nil fL3
    have hF := hF.step f3 (by decide)
    refine lv_aload_n hx hb dX11_crowded_36 rfl (lv_at hl 0 rfl) ?_
    refine fg_11_8 (k := 0) hx hb hts in_X11_crowded_11 hown hK hP (by decide) (by decide) (hts _ lk_X11_crowded_60) dX11_crowded_37 ?_
    refine lv_iload_n hx hb dX11_crowded_40 rfl (lv_at hl 3 rfl) ?_
    refine r_cVv (k := 21) (As := [.int x3]) (rest := []) ⟨hx, hb, hml, hown, hts⟩ hK hP hN hS (c_X1_countHonest l D cA ad hI σ3 τ0 hR x3 (by omega)) (cwV 1 hts gX11_crowded_X1_countHonest rfl rfl rfl (by decide +kernel) ⟨by decide, by decide⟩) (rv_Camp hK hP (by decide) (by decide)) rfl hl.1 rfl (Nat.le_of_ble_eq_true rfl) dX11_crowded_41 (Nat.zero_le _) (Nat.zero_le _) (fun u4 H4 locs4 hp4 hP hS => ?_)
    obtain ⟨σ4, τ4⟩ := u4
    obtain ⟨hR, f4, fL4⟩ : P_X1_countHonest σ3 τ0 x3 σ4 τ4 := hp4
    have hP : va_P D vwCl (gw cA ad σ4 τ4) H4 := hP
    obtain rfl := FrL.nil fL4
    have hF := hF.step f4 (by decide)
    refine lv_aload_n hx hb dX11_crowded_44 rfl (lv_at hl 0 rfl) ?_
    refine fg_11_8 (k := 0) hx hb hts in_X11_crowded_11 hown hK hP (by decide) (by decide) (hts _ lk_X11_crowded_60) dX11_crowded_45 ?_
    refine r_cVi (k := 21) (As := []) (rest := []) ⟨hx, hb, hml, hown, hts⟩ hK hP hN hS (c_X1_allSharers l D cA ad hI σ4 τ0 hR) (cwV 0 hts gX11_crowded_X1_allSharers rfl rfl rfl (by decide +kernel) ⟨by decide, by decide⟩) (rv_Camp hK hP (by decide) (by decide)) rfl hl.1 rfl (Nat.le_of_ble_eq_true rfl) dX11_crowded_48 (Nat.zero_le _) (Nat.zero_le _) (fun r5 u5 H5 locs5 hp5 hP hS => ?_)
    obtain ⟨σ5, τ5⟩ := u5
    obtain ⟨hR, f5, fL5⟩ : P_X1_allSharers σ4 τ0 r5 σ5 τ5 := hp5
    have hP : va_P D vwCl (gw cA ad σ5 τ5) H5 := hP
    obtain rfl := FrL.nil fL5
    obtain rfl := Fr.nil f5
    refine r_cSi (As := [.int r5]) (rest := []) ⟨hx, hb, hml, hown, hts⟩ hK hP hN hS (c_J6_bitCount_0f7a4 l D cA ad hI σ4 τ0 hR r5) (va_cwS 1 hts gX11_crowded_J6_bitCount_0f7a4 rfl rfl rfl (by decide +kernel) ⟨by decide, by decide⟩) rfl hl.1 rfl (Nat.le_of_ble_eq_true rfl) dX11_crowded_51 (Nat.zero_le _) (Nat.zero_le _) (fun r6 u6 H6 locs6 hp6 hP hS => ?_)
    obtain ⟨σ6, τ6⟩ := u6
    obtain ⟨hR, f6, fL6, hq6⟩ : P_J6_bitCount_0f7a4 σ4 τ0 r5 r6 σ6 τ6 := hp6
    have hP : va_P D vwCl (gw cA ad σ6 τ6) H6 := hP
    obtain rfl := FrL.nil fL6
    obtain rfl := Fr.nil f6
    refine lv_istore (lv' := [(4, .int r6), (0, .ref (ad 0)), (1, .int x1), (2, .int x2), (3, .int x3)]) hx hb dX11_crowded_54 hl (by decide) rfl (fun ls hl => ?_)
    refine lv_iload hx hb dX11_crowded_56 (lv_at hl 0 rfl) ?_
    refine lv_iload_n hx hb dX11_crowded_58 rfl (lv_at hl 3 rfl) ?_
    refine r_icmp_le (tgt := 67) hx hb dX11_crowded_59 (by decide) (fun c7 => ?_) (fun c7 => ?_)
    · refine r_iinc (k := 4) (lv1 := fun z8 => [(3, .int z8), (4, .int r6), (0, .ref (ad 0)), (1, .int x1), (2, .int x2)]) hx hb dX11_crowded_67 hl rfl (by decide) (fun _ => rfl) (by decide) (by omega) (fun z8 ls ez8 hl => ?_)
      refine lv_goto (tgt := 17) hx hb dX11_crowded_70 (by decide) ?_
      exact K17 σ4 τ0 H6 locs6 x1 x2 z8 ls hR hF hFL hP hS (by omega) (by omega) (by omega) (lv_sub hl [2, 3, 4, 0] rfl) (by omega)
    · refine lv_iload hx hb dX11_crowded_62 (lv_at hl 0 rfl) ?_
      refine lv_istore_n (lv' := [(2, .int r6), (4, .int r6), (0, .ref (ad 0)), (1, .int x1), (3, .int x3)]) hx hb dX11_crowded_64 rfl hl (by decide) rfl (fun ls hl => ?_)
      refine lv_iload_n hx hb dX11_crowded_65 rfl (lv_at hl 4 rfl) ?_
      refine lv_istore_n (lv' := [(1, .int x3), (2, .int r6), (4, .int r6), (0, .ref (ad 0)), (3, .int x3)]) hx hb dX11_crowded_66 rfl hl (by decide) rfl (fun ls hl => ?_)
      refine r_iinc (k := 4) (lv1 := fun z9 => [(3, .int z9), (1, .int x3), (2, .int r6), (4, .int r6), (0, .ref (ad 0))]) hx hb dX11_crowded_67 hl rfl (by decide) (fun _ => rfl) (by decide) (by omega) (fun z9 ls ez9 hl => ?_)
      refine lv_goto (tgt := 17) hx hb dX11_crowded_70 (by decide) ?_
      exact K17 σ4 τ0 H6 locs6 x3 r6 z9 ls hR hF hFL hP hS (by omega) (by omega) (by omega) (lv_sub hl [4, 1, 2, 0] rfl) (by omega)
theorem A_X11_crowded (p : Program) (l : Launch) (e : Env) (s : State) (m : MethodId) (args : Array Value) (below : List Frame) (meth : Method) (c : Code) (D : va_G) (cA : Nat → ClassId) (ad : Nat → Nat) (σ0 : Nat → Nat → Int32) (τ0 : Nat → Nat → Int64)  (C : Cy p s m args meth c cX11_crowded 5 wsX11_crowded RX11 D cA ad (some .int))  : ∀ n : Nat, J_X11_crowded_17 p l e s m args below meth c D cA ad σ0 τ0 n := by
  intro n
  induction n with
  | zero =>
    exact (by intro σ τ H locs x1 x2 x3 ls hR hF hFL hP hS hc0 hc1 hc2 hl hm; exfalso; omega)
  | succ n ih =>
    exact B_X11_crowded_17 p l e s m args below meth c D cA ad σ0 τ0 n C  ih
set_option maxHeartbeats 4000000 in
theorem c_X11_crowded (l : Launch) (D : va_G) (cA : Nat → ClassId) (ad : Nat → Nat) (hI : Inj ad) (σ0 : Nat → Nat → Int32) (τ0 : Nat → Nat → Int64) (hR : Rg σ0)   : Met l yX11_crowded wsX11_crowded ({ frames := 5, cells := 0, slots := 0, locals := 117 } : Room) (WQc D cA ad [.ref (ad 0)] σ0 τ0) (va_Qi (fun (r : Int32) (u : SS) => P_X11_crowded σ0 τ0 r u.1 u.2) (WB D cA ad) (AA ad)) 0 0 (AA ad) := by
  refine Met.ofW (cc := cX11_crowded) (maxL := 5) (ret := (some .int)) (by decide) rfl ?_
  intro p e s m args below meth c s₁ B hml hv
  obtain ⟨rfl, hP, hK, hN⟩ := hv
  have C : Cy p s m _ meth c cX11_crowded 5 wsX11_crowded RX11 D cA ad (some .int) := ⟨B.exec, B.bytes, hml, findClass_of_methodNamed B.named, atoms_spec (ws := wsX11_crowded) B.pre, hK, B.notSynchronized, B.returns, hI, hN⟩
  have hl := lv_entry ([.ref (ad 0)]) (n := 5) (Nat.le_of_ble_eq_true rfl)
  rw [lg_entry_eq]
  generalize (lg_sl ([.ref (ad 0)]) ++ List.replicate (5 - (lg_sl ([.ref (ad 0)])).length) Slot.unset).toArray = ls at hl ⊢
  have hl : lv_has ls 5 [(0, .ref (ad 0))] := hl
  have hS : va_S (AA ad) s.heap s.heap [] := va_S.rf
  have hF : Fr L_X11_crowded σ0 σ0 := Fr.rf
  have hFL : FrL LL_X11_crowded τ0 τ0 := FrL.rf
  have hA := A_X11_crowded p l e s m _ below meth c D cA ad σ0 τ0 C  26
  have K17 := hA
  clear hA
  obtain ⟨hx, hb, _, hown, hts, _, hk, hr, _, _⟩ := C
  refine lv_aload_n hx hb dX11_crowded_0 rfl (lv_at hl 0 rfl) ?_
  refine fg_11_8 (k := 0) hx hb hts in_X11_crowded_11 hown hK hP (by decide) (by decide) (hts _ lk_X11_crowded_60) dX11_crowded_1 ?_
  refine lv_aload_n hx hb dX11_crowded_4 rfl (lv_at hl 0 rfl) ?_
  refine fg_11_4 (k := 0) hx hb hts in_X11_crowded_11 hown hK hP (by decide) (by decide) (hts _ lk_X11_crowded_38) dX11_crowded_5 ?_
  refine r_cVv (k := 21) (As := [.ref (ad 7)]) (rest := []) ⟨hx, hb, hml, hown, hts⟩ hK hP hN hS (c_X1_pitch l D cA ad hI σ0 τ0 hR 7 ⟨by omega, by omega⟩) (cwV 1 hts gX11_crowded_X1_pitch rfl rfl rfl (by decide +kernel) ⟨by decide, by decide⟩) (rv_Camp hK hP (by decide) (by decide)) rfl hl.1 rfl (Nat.le_of_ble_eq_true rfl) dX11_crowded_8 (Nat.zero_le _) (Nat.zero_le _) (fun u1 H1 locs1 hp1 hP hS => ?_)
  obtain ⟨σ1, τ1⟩ := u1
  obtain ⟨hR, f1, fL1⟩ : P_X1_pitch σ0 τ0 7 σ1 τ1 := hp1
  have hP : va_P D vwCl (gw cA ad σ1 τ1) H1 := hP
  obtain rfl := FrL.nil fL1
  have hF := hF.step f1 (by decide)
  refine r_iconst hx hb dX11_crowded_11 (by decide) (fun z2 ez2 => ?_)
  refine lv_istore_n (lv' := [(1, .int z2), (0, .ref (ad 0))]) hx hb dX11_crowded_12 rfl hl (by decide) rfl (fun ls hl => ?_)
  refine r_iconst hx hb dX11_crowded_13 (by decide) (fun z3 ez3 => ?_)
  refine lv_istore_n (lv' := [(2, .int z3), (1, .int z2), (0, .ref (ad 0))]) hx hb dX11_crowded_14 rfl hl (by decide) rfl (fun ls hl => ?_)
  refine r_iconst hx hb dX11_crowded_15 (by decide) (fun z4 ez4 => ?_)
  refine lv_istore_n (lv' := [(3, .int z4), (2, .int z3), (1, .int z2), (0, .ref (ad 0))]) hx hb dX11_crowded_16 rfl hl (by decide) rfl (fun ls hl => ?_)
  exact K17 σ1 τ0 H1 locs1 z2 z3 z4 ls hR hF hFL hP hS (by omega) (by omega) (by omega) (lv_sub hl [3, 2, 1, 0] rfl) (by omega)
theorem in_X11_swaps_11 : ∀ w ∈ u_ws RX11 TX11 19, w ∈ wsX11_swaps := by decide +kernel
theorem in_X11_swaps_9 : ∀ w ∈ u_ws RX9 TX9 14, w ∈ wsX11_swaps := by decide +kernel
theorem lk_X11_swaps_19 : Cond.fieldLink RX11 19 "CuckooShares" "valley" "LCuckooShares$Valley;" ∈ wsX11_swaps := by decide +kernel
theorem lk_X11_swaps_38 : Cond.fieldLink RX11 38 "CuckooShares" "days" "LCuckooShares$Days;" ∈ wsX11_swaps := by decide +kernel
theorem lk_X11_swaps_60 : Cond.fieldLink RX11 60 "CuckooShares" "camp" "LCuckooShares$Camp;" ∈ wsX11_swaps := by decide +kernel
abbrev L_X11_swaps : List Rc := [(363, 363, 0, 39), (360, 360, 0, 7), (361, 361, 0, 7), (362, 362, 0, 7), (364, 364, 0, 7), (365, 365, 0, 1), (366, 366, 0, 1), (367, 367, 0, 1)]
abbrev LL_X11_swaps : List Rc := []
def P_X11_swaps (σ0 : Nat → Nat → Int32) (τ0 : Nat → Nat → Int64) (a1 : Int32) (r : Int32) (σ : Nat → Nat → Int32) (τ : Nat → Nat → Int64) : Prop := Rg σ ∧ Fr L_X11_swaps σ0 σ ∧ FrL LL_X11_swaps τ0 τ
def J_X11_swaps_46 (p : Program) (l : Launch) (e : Env) (s : State) (m : MethodId) (args : Array Value) (below : List Frame) (meth : Method) (c : Code) (D : va_G) (cA : Nat → ClassId) (ad : Nat → Nat) (σ0 : Nat → Nat → Int32) (τ0 : Nat → Nat → Int64) (a1 : Int32) (n : Nat) : Prop := ∀ (σ : Nat → Nat → Int32) (τ : Nat → Nat → Int64) (H : Heap) (locs : List Loc) (x2 : Int32) (x3 : Int32) (ls : Array Slot), Rg σ → Fr L_X11_swaps σ0 σ → FrL LL_X11_swaps τ0 τ → va_P D vwCl (gw cA ad σ τ) H → va_S (AA ad) s.heap H locs → (-1 ≤ a1.toInt) → (0 ≤ x3.toInt ∧ x3.toInt ≤ 8) → lv_has ls 5 [(0, .ref (ad 0)), (1, .int a1), (2, .int x2), (3, .int x3)] → 19 * (8 - x3.toInt) + 18 < (n : Int) → W p l e ({ frames := 6, cells := 0, slots := 0, locals := 144 } : Room) s m args below meth c H locs 0 0 (MQ below (va_Qi (fun (r : Int32) (u : SS) => P_X11_swaps σ0 τ0 a1 r u.1 u.2) (WB D cA ad) (AA ad)) args s 0 0 (AA ad)) (F0 m 46 ls [])
def J_X11_swaps_62 (p : Program) (l : Launch) (e : Env) (s : State) (m : MethodId) (args : Array Value) (below : List Frame) (meth : Method) (c : Code) (D : va_G) (cA : Nat → ClassId) (ad : Nat → Nat) (σ0 : Nat → Nat → Int32) (τ0 : Nat → Nat → Int64) (a1 : Int32) (n : Nat) : Prop := ∀ (σ : Nat → Nat → Int32) (τ : Nat → Nat → Int64) (H : Heap) (locs : List Loc) (x2 : Int32) (x3 : Int32) (x4 : Int32) (ls : Array Slot), Rg σ → Fr L_X11_swaps σ0 σ → FrL LL_X11_swaps τ0 τ → va_P D vwCl (gw cA ad σ τ) H → va_S (AA ad) s.heap H locs → (-1 ≤ a1.toInt) → (0 ≤ x3.toInt ∧ x3.toInt ≤ 7) → (1 ≤ x4.toInt ∧ x4.toInt ≤ 8) → (1 ≤ (σ 2 5).toInt ∧ (σ 2 5).toInt ≤ 8) → lv_has ls 5 [(0, .ref (ad 0)), (1, .int a1), (2, .int x2), (3, .int x3), (4, .int x4)] → 19 * (8 - x3.toInt) + 2 * (8 - x4.toInt) + 1 < (n : Int) → W p l e ({ frames := 6, cells := 0, slots := 0, locals := 144 } : Room) s m args below meth c H locs 0 0 (MQ below (va_Qi (fun (r : Int32) (u : SS) => P_X11_swaps σ0 τ0 a1 r u.1 u.2) (WB D cA ad) (AA ad)) args s 0 0 (AA ad)) (F0 m 62 ls [])
set_option maxHeartbeats 4000000 in
theorem B_X11_swaps_46 (p : Program) (l : Launch) (e : Env) (s : State) (m : MethodId) (args : Array Value) (below : List Frame) (meth : Method) (c : Code) (D : va_G) (cA : Nat → ClassId) (ad : Nat → Nat) (σ0 : Nat → Nat → Int32) (τ0 : Nat → Nat → Int64) (a1 : Int32) (n : Nat) (C : Cy p s m args meth c cX11_swaps 5 wsX11_swaps RX11 D cA ad (some .int))  (K46 : J_X11_swaps_46 p l e s m args below meth c D cA ad σ0 τ0 a1 n) (K62 : J_X11_swaps_62 p l e s m args below meth c D cA ad σ0 τ0 a1 n) : J_X11_swaps_46 p l e s m args below meth c D cA ad σ0 τ0 a1 (n + 1) := by
  obtain ⟨hx, hb, hml, hown, hts, hK, hk, hr, hI, hN⟩ := C
  intro σ τ H locs x2 x3 ls hR hF hFL hP hS hc0 hc1 hl hm
  obtain rfl := FrL.nil hFL
  refine lv_iload_n hx hb dX11_swaps_46 rfl (lv_at hl 3 rfl) ?_
  refine lv_aload_n hx hb dX11_swaps_47 rfl (lv_at hl 0 rfl) ?_
  refine fg_11_1 (k := 0) hx hb hts in_X11_swaps_11 hown hK hP (by decide) (by decide) (hts _ lk_X11_swaps_19) dX11_swaps_48 ?_
  refine fgN_9_5 (k := 2) hx hb hts in_X11_swaps_9 hown hK hP (by decide) (by decide) (hN.use nw_11_167) dX11_swaps_51 ?_
  have hr1 := rg_9_5 hR (k := 2) (by decide) (by decide)
  refine r_icmp_ge (tgt := 119) hx hb dX11_swaps_54 (by decide) (fun c2 => ?_) (fun c2 => ?_)
  · refine lv_iload_n hx hb dX11_swaps_119 rfl (lv_at hl 1 rfl) ?_
    refine r_iconst hx hb dX11_swaps_120 (by decide) (fun z3 ez3 => ?_)
    refine r_icmp_ne (tgt := 128) hx hb dX11_swaps_121 (by decide) (fun c4 => ?_) (fun c4 => ?_)
    · refine r_iconst hx hb dX11_swaps_128 (by decide) (fun z5 ez5 => ?_)
      exact r_iret hx hb hr hK hP hS hk dX11_swaps_129 (show P_X11_swaps σ0 τ0 a1 z5 σ τ0 from ⟨hR, hF, hFL⟩)
    · refine lv_iload_n hx hb dX11_swaps_124 rfl (lv_at hl 2 rfl) ?_
      refine lv_goto (tgt := 129) hx hb dX11_swaps_125 (by decide) ?_
      exact r_iret hx hb hr hK hP hS hk dX11_swaps_129 (show P_X11_swaps σ0 τ0 a1 x2 σ τ0 from ⟨hR, hF, hFL⟩)
  · refine lv_iload_n hx hb dX11_swaps_57 rfl (lv_at hl 3 rfl) ?_
    refine r_iconst hx hb dX11_swaps_58 (by decide) (fun z6 ez6 => ?_)
    refine r_iadd hx hb dX11_swaps_59 (by omega) (fun z7 ez7 => ?_)
    refine lv_istore (lv' := [(4, .int z7), (0, .ref (ad 0)), (1, .int a1), (2, .int x2), (3, .int x3)]) hx hb dX11_swaps_60 hl (by decide) rfl (fun ls hl => ?_)
    exact K62 σ τ0 H locs x2 x3 z7 ls hR hF hFL hP hS (by omega) (by omega) (by omega) (by omega) (lv_sub hl [1, 2, 3, 4, 0] rfl) (by omega)
set_option maxHeartbeats 4000000 in
theorem B_X11_swaps_62 (p : Program) (l : Launch) (e : Env) (s : State) (m : MethodId) (args : Array Value) (below : List Frame) (meth : Method) (c : Code) (D : va_G) (cA : Nat → ClassId) (ad : Nat → Nat) (σ0 : Nat → Nat → Int32) (τ0 : Nat → Nat → Int64) (a1 : Int32) (n : Nat) (C : Cy p s m args meth c cX11_swaps 5 wsX11_swaps RX11 D cA ad (some .int))  (K46 : J_X11_swaps_46 p l e s m args below meth c D cA ad σ0 τ0 a1 n) (K62 : J_X11_swaps_62 p l e s m args below meth c D cA ad σ0 τ0 a1 n) : J_X11_swaps_62 p l e s m args below meth c D cA ad σ0 τ0 a1 (n + 1) := by
  obtain ⟨hx, hb, hml, hown, hts, hK, hk, hr, hI, hN⟩ := C
  intro σ τ H locs x2 x3 x4 ls hR hF hFL hP hS hc0 hc1 hc2 hc3 hl hm
  obtain rfl := FrL.nil hFL
  refine lv_iload hx hb dX11_swaps_62 (lv_at hl 4 rfl) ?_
  refine lv_aload_n hx hb dX11_swaps_64 rfl (lv_at hl 0 rfl) ?_
  refine fg_11_1 (k := 0) hx hb hts in_X11_swaps_11 hown hK hP (by decide) (by decide) (hts _ lk_X11_swaps_19) dX11_swaps_65 ?_
  refine fgN_9_5 (k := 2) hx hb hts in_X11_swaps_9 hown hK hP (by decide) (by decide) (hN.use nw_11_167) dX11_swaps_68 ?_
  refine r_icmp_ge (tgt := 113) hx hb dX11_swaps_71 (by decide) (fun c1 => ?_) (fun c1 => ?_)
  · refine r_iinc (k := 3) (lv1 := fun z2 => [(3, .int z2), (0, .ref (ad 0)), (1, .int a1), (2, .int x2), (4, .int x4)]) hx hb dX11_swaps_113 hl rfl (by decide) (fun _ => rfl) (by decide) (by omega) (fun z2 ls ez2 hl => ?_)
    refine lv_goto (tgt := 46) hx hb dX11_swaps_116 (by decide) ?_
    exact K46 σ τ0 H locs x2 z2 ls hR hF hFL hP hS (by omega) (by omega) (lv_sub hl [1, 2, 3, 0] rfl) (by omega)
  · refine lv_aload_n hx hb dX11_swaps_74 rfl (lv_at hl 0 rfl) ?_
    refine fg_11_8 (k := 0) hx hb hts in_X11_swaps_11 hown hK hP (by decide) (by decide) (hts _ lk_X11_swaps_60) dX11_swaps_75 ?_
    refine lv_iload_n hx hb dX11_swaps_78 rfl (lv_at hl 3 rfl) ?_
    refine lv_iload hx hb dX11_swaps_79 (lv_at hl 4 rfl) ?_
    refine lv_aload_n hx hb dX11_swaps_81 rfl (lv_at hl 0 rfl) ?_
    refine fg_11_4 (k := 0) hx hb hts in_X11_swaps_11 hown hK hP (by decide) (by decide) (hts _ lk_X11_swaps_38) dX11_swaps_82 ?_
    refine r_cVi (k := 21) (As := [.int x3, .int x4, .ref (ad 7)]) (rest := []) ⟨hx, hb, hml, hown, hts⟩ hK hP hN hS (c_X1_bothGain l D cA ad hI σ τ0 hR x3 x4 (by omega) (by omega)) (cwV 3 hts gX11_swaps_X1_bothGain rfl rfl rfl (by decide +kernel) ⟨by decide, by decide⟩) (rv_Camp hK hP (by decide) (by decide)) rfl hl.1 rfl (Nat.le_of_ble_eq_true rfl) dX11_swaps_85 (Nat.zero_le _) (Nat.zero_le _) (fun r3 u3 H3 locs3 hp3 hP hS => ?_)
    obtain ⟨σ3, τ3⟩ := u3
    obtain ⟨hR, f3, fL3, hq3⟩ : P_X1_bothGain σ τ0 x3 x4 r3 σ3 τ3 := hp3
    have hP : va_P D vwCl (gw cA ad σ3 τ3) H3 := hP
    obtain rfl := FrL.nil fL3
    have hF := hF.step f3 (by decide)
    have t4 : (σ3 2 5).toInt = (σ 2 5).toInt := congrArg Int32.toInt (f3.at 2 5 (by decide))
    refine r_if_eq (tgt := 107) hx hb dX11_swaps_88 (by decide) (fun c5 => ?_) (fun c5 => ?_)
    · refine r_iinc (k := 4) (lv1 := fun z6 => [(4, .int z6), (0, .ref (ad 0)), (1, .int a1), (2, .int x2), (3, .int x3)]) hx hb dX11_swaps_107 hl rfl (by decide) (fun _ => rfl) (by decide) (by omega) (fun z6 ls ez6 hl => ?_)
      refine lv_goto (tgt := 62) hx hb dX11_swaps_110 (by decide) ?_
      exact K62 σ3 τ0 H3 locs3 x2 x3 z6 ls hR hF hFL hP hS (by omega) (by omega) (by omega) (by omega) (lv_sub hl [1, 2, 3, 4, 0] rfl) (by omega)
    · refine lv_iload_n hx hb dX11_swaps_91 rfl (lv_at hl 2 rfl) ?_
      refine lv_iload_n hx hb dX11_swaps_92 rfl (lv_at hl 1 rfl) ?_
      refine r_icmp_ne (tgt := 104) hx hb dX11_swaps_93 (by decide) (fun c7 => ?_) (fun c7 => ?_)
      · refine r_iincU (k := 2) (lv1 := fun z8 => [(2, .int z8), (0, .ref (ad 0)), (1, .int a1), (3, .int x3), (4, .int x4)]) hx hb dX11_swaps_104 hl rfl (by decide) (fun _ => rfl) (fun z8 ls hl => ?_)
        refine r_iinc (k := 4) (lv1 := fun z9 => [(4, .int z9), (2, .int z8), (0, .ref (ad 0)), (1, .int a1), (3, .int x3)]) hx hb dX11_swaps_107 hl rfl (by decide) (fun _ => rfl) (by decide) (by omega) (fun z9 ls ez9 hl => ?_)
        refine lv_goto (tgt := 62) hx hb dX11_swaps_110 (by decide) ?_
        exact K62 σ3 τ0 H3 locs3 z8 x3 z9 ls hR hF hFL hP hS (by omega) (by omega) (by omega) (by omega) (lv_sub hl [2, 3, 1, 4, 0] rfl) (by omega)
      · refine r_bipush hx hb dX11_swaps_96 (by decide) (fun z10 ez10 => ?_)
        refine lv_iload_n hx hb dX11_swaps_98 rfl (lv_at hl 3 rfl) ?_
        refine r_imulL (n := 10) hx hb dX11_swaps_99 (by omega) (by omega) (fun z11 ez11 => ?_)
        refine lv_iload hx hb dX11_swaps_100 (lv_at hl 4 rfl) ?_
        refine r_iadd hx hb dX11_swaps_102 (by omega) (fun z12 ez12 => ?_)
        exact r_iret hx hb hr hK hP hS hk dX11_swaps_103 (show P_X11_swaps σ0 τ0 a1 z12 σ3 τ0 from ⟨hR, hF, hFL⟩)
theorem A_X11_swaps (p : Program) (l : Launch) (e : Env) (s : State) (m : MethodId) (args : Array Value) (below : List Frame) (meth : Method) (c : Code) (D : va_G) (cA : Nat → ClassId) (ad : Nat → Nat) (σ0 : Nat → Nat → Int32) (τ0 : Nat → Nat → Int64) (a1 : Int32) (C : Cy p s m args meth c cX11_swaps 5 wsX11_swaps RX11 D cA ad (some .int))  : ∀ n : Nat, J_X11_swaps_46 p l e s m args below meth c D cA ad σ0 τ0 a1 n ∧ J_X11_swaps_62 p l e s m args below meth c D cA ad σ0 τ0 a1 n := by
  intro n
  induction n with
  | zero =>
    exact ⟨(by intro σ τ H locs x2 x3 ls hR hF hFL hP hS hc0 hc1 hl hm; exfalso; omega), (by intro σ τ H locs x2 x3 x4 ls hR hF hFL hP hS hc0 hc1 hc2 hc3 hl hm; exfalso; omega)⟩
  | succ n ih =>
    exact ⟨B_X11_swaps_46 p l e s m args below meth c D cA ad σ0 τ0 a1 n C  ih.1 ih.2, B_X11_swaps_62 p l e s m args below meth c D cA ad σ0 τ0 a1 n C  ih.1 ih.2⟩
set_option maxHeartbeats 4000000 in
theorem c_X11_swaps (l : Launch) (D : va_G) (cA : Nat → ClassId) (ad : Nat → Nat) (hI : Inj ad) (σ0 : Nat → Nat → Int32) (τ0 : Nat → Nat → Int64) (hR : Rg σ0) (a1 : Int32)  : Met l yX11_swaps wsX11_swaps ({ frames := 6, cells := 0, slots := 0, locals := 144 } : Room) (WQc D cA ad [.ref (ad 0), .int a1] σ0 τ0) (va_Qi (fun (r : Int32) (u : SS) => P_X11_swaps σ0 τ0 a1 r u.1 u.2) (WB D cA ad) (AA ad)) 0 0 (AA ad) := by
  refine Met.ofW (cc := cX11_swaps) (maxL := 5) (ret := (some .int)) (by decide) rfl ?_
  intro p e s m args below meth c s₁ B hml hv
  obtain ⟨rfl, hP, hK, hN⟩ := hv
  have C : Cy p s m _ meth c cX11_swaps 5 wsX11_swaps RX11 D cA ad (some .int) := ⟨B.exec, B.bytes, hml, findClass_of_methodNamed B.named, atoms_spec (ws := wsX11_swaps) B.pre, hK, B.notSynchronized, B.returns, hI, hN⟩
  have hl := lv_entry ([.ref (ad 0), .int a1]) (n := 5) (Nat.le_of_ble_eq_true rfl)
  rw [lg_entry_eq]
  generalize (lg_sl ([.ref (ad 0), .int a1]) ++ List.replicate (5 - (lg_sl ([.ref (ad 0), .int a1])).length) Slot.unset).toArray = ls at hl ⊢
  have hl : lv_has ls 5 [(0, .ref (ad 0)), (1, .int a1)] := hl
  have hS : va_S (AA ad) s.heap s.heap [] := va_S.rf
  have hF : Fr L_X11_swaps σ0 σ0 := Fr.rf
  have hFL : FrL LL_X11_swaps τ0 τ0 := FrL.rf
  have hA := A_X11_swaps p l e s m _ below meth c D cA ad σ0 τ0 a1 C  381
  have K46 := hA.1
  have K62 := hA.2
  clear hA
  obtain ⟨hx, hb, _, hown, hts, _, hk, hr, _, _⟩ := C
  refine lv_aload_n hx hb dX11_swaps_0 rfl (lv_at hl 0 rfl) ?_
  refine fg_11_1 (k := 0) hx hb hts in_X11_swaps_11 hown hK hP (by decide) (by decide) (hts _ lk_X11_swaps_19) dX11_swaps_1 ?_
  refine fgN_9_6 (k := 2) hx hb hts in_X11_swaps_9 hown hK hP (by decide) (by decide) (hN.use nw_11_238) dX11_swaps_4 ?_
  have hr1 := rg_9_6 hR (k := 2) (by decide) (by decide)
  refine r_if_eq (tgt := 15) hx hb dX11_swaps_7 (by decide) (fun c2 => ?_) (fun c2 => ?_)
  · refine r_iconst hx hb dX11_swaps_15 (by decide) (fun z3 ez3 => ?_)
    exact r_iret hx hb hr hK hP hS hk dX11_swaps_16 (show P_X11_swaps σ0 τ0 a1 z3 σ0 τ0 from ⟨hR, hF, hFL⟩)
  · refine lv_iload_n hx hb dX11_swaps_10 rfl (lv_at hl 1 rfl) ?_
    refine r_iconst hx hb dX11_swaps_11 (by decide) (fun z4 ez4 => ?_)
    refine r_icmp_ge (tgt := 17) hx hb dX11_swaps_12 (by decide) (fun c5 => ?_) (fun c5 => ?_)
    · refine lv_aload_n hx hb dX11_swaps_17 rfl (lv_at hl 0 rfl) ?_
      refine fg_11_8 (k := 0) hx hb hts in_X11_swaps_11 hown hK hP (by decide) (by decide) (hts _ lk_X11_swaps_60) dX11_swaps_18 ?_
      refine lv_aload_n hx hb dX11_swaps_21 rfl (lv_at hl 0 rfl) ?_
      refine fg_11_4 (k := 0) hx hb hts in_X11_swaps_11 hown hK hP (by decide) (by decide) (hts _ lk_X11_swaps_38) dX11_swaps_22 ?_
      refine r_cVv (k := 21) (As := [.ref (ad 7)]) (rest := []) ⟨hx, hb, hml, hown, hts⟩ hK hP hN hS (c_X1_pitch l D cA ad hI σ0 τ0 hR 7 ⟨by omega, by omega⟩) (cwV 1 hts gX11_swaps_X1_pitch rfl rfl rfl (by decide +kernel) ⟨by decide, by decide⟩) (rv_Camp hK hP (by decide) (by decide)) rfl hl.1 rfl (Nat.le_of_ble_eq_true rfl) dX11_swaps_25 (Nat.zero_le _) (Nat.zero_le _) (fun u6 H6 locs6 hp6 hP hS => ?_)
      obtain ⟨σ6, τ6⟩ := u6
      obtain ⟨hR, f6, fL6⟩ : P_X1_pitch σ0 τ0 7 σ6 τ6 := hp6
      have hP : va_P D vwCl (gw cA ad σ6 τ6) H6 := hP
      obtain rfl := FrL.nil fL6
      have hF := hF.step f6 (by decide)
      refine lv_aload_n hx hb dX11_swaps_28 rfl (lv_at hl 0 rfl) ?_
      refine fg_11_8 (k := 0) hx hb hts in_X11_swaps_11 hown hK hP (by decide) (by decide) (hts _ lk_X11_swaps_60) dX11_swaps_29 ?_
      refine r_cVv (k := 21) (As := []) (rest := []) ⟨hx, hb, hml, hown, hts⟩ hK hP hN hS (c_X1_listenToAll l D cA ad hI σ6 τ0 hR) (cwV 0 hts gX11_swaps_X1_listenToAll rfl rfl rfl (by decide +kernel) ⟨by decide, by decide⟩) (rv_Camp hK hP (by decide) (by decide)) rfl hl.1 rfl (Nat.le_of_ble_eq_true rfl) dX11_swaps_32 (Nat.zero_le _) (Nat.zero_le _) (fun u7 H7 locs7 hp7 hP hS => ?_)
      obtain ⟨σ7, τ7⟩ := u7
      obtain ⟨hR, f7, fL7⟩ : P_X1_listenToAll σ6 τ0 σ7 τ7 := hp7
      have hP : va_P D vwCl (gw cA ad σ7 τ7) H7 := hP
      obtain rfl := FrL.nil fL7
      have hF := hF.step f7 (by decide)
      refine lv_aload_n hx hb dX11_swaps_35 rfl (lv_at hl 0 rfl) ?_
      refine fg_11_8 (k := 0) hx hb hts in_X11_swaps_11 hown hK hP (by decide) (by decide) (hts _ lk_X11_swaps_60) dX11_swaps_36 ?_
      refine r_cVv (k := 21) (As := []) (rest := []) ⟨hx, hb, hml, hown, hts⟩ hK hP hN hS (c_X1_noteShares l D cA ad hI σ7 τ0 hR) (cwV 0 hts gX11_swaps_X1_noteShares rfl rfl rfl (by decide +kernel) ⟨by decide, by decide⟩) (rv_Camp hK hP (by decide) (by decide)) rfl hl.1 rfl (Nat.le_of_ble_eq_true rfl) dX11_swaps_39 (Nat.zero_le _) (Nat.zero_le _) (fun u8 H8 locs8 hp8 hP hS => ?_)
      obtain ⟨σ8, τ8⟩ := u8
      obtain ⟨hR, f8, fL8⟩ : P_X1_noteShares σ7 τ0 σ8 τ8 := hp8
      have hP : va_P D vwCl (gw cA ad σ8 τ8) H8 := hP
      obtain rfl := FrL.nil fL8
      have hF := hF.step f8 (by decide)
      refine r_iconst hx hb dX11_swaps_42 (by decide) (fun z9 ez9 => ?_)
      refine lv_istore_n (lv' := [(2, .int z9), (0, .ref (ad 0)), (1, .int a1)]) hx hb dX11_swaps_43 rfl hl (by decide) rfl (fun ls hl => ?_)
      refine r_iconst hx hb dX11_swaps_44 (by decide) (fun z10 ez10 => ?_)
      refine lv_istore_n (lv' := [(3, .int z10), (2, .int z9), (0, .ref (ad 0)), (1, .int a1)]) hx hb dX11_swaps_45 rfl hl (by decide) rfl (fun ls hl => ?_)
      exact K46 σ8 τ0 H8 locs8 z9 z10 ls hR hF hFL hP hS (by omega) (by omega) (lv_sub hl [2, 3, 1, 0] rfl) (by omega)
    · refine r_iconst hx hb dX11_swaps_15 (by decide) (fun z11 ez11 => ?_)
      exact r_iret hx hb hr hK hP hS hk dX11_swaps_16 (show P_X11_swaps σ0 τ0 a1 z11 σ0 τ0 from ⟨hR, hF, hFL⟩)
theorem in_X11_drawn_11 : ∀ w ∈ u_ws RX11 TX11 19, w ∈ wsX11_drawn := by decide +kernel
theorem in_X11_drawn_9 : ∀ w ∈ u_ws RX9 TX9 14, w ∈ wsX11_drawn := by decide +kernel
theorem lk_X11_drawn_19 : Cond.fieldLink RX11 19 "CuckooShares" "valley" "LCuckooShares$Valley;" ∈ wsX11_drawn := by decide +kernel
theorem lk_X11_drawn_38 : Cond.fieldLink RX11 38 "CuckooShares" "days" "LCuckooShares$Days;" ∈ wsX11_drawn := by decide +kernel
theorem lk_X11_drawn_42 : Cond.fieldLink RX11 42 "CuckooShares" "before" "LCuckooShares$Days;" ∈ wsX11_drawn := by decide +kernel
theorem lk_X11_drawn_51 : Cond.fieldLink RX11 51 "CuckooShares" "history" "LCuckooShares$History;" ∈ wsX11_drawn := by decide +kernel
theorem lk_X11_drawn_69 : Cond.fieldLink RX11 69 "CuckooShares" "acts" "LCuckooShares$Acts;" ∈ wsX11_drawn := by decide +kernel
abbrev L_X11_drawn : List Rc := [(22, 22, 2, 2), (360, 360, 0, 7), (361, 361, 0, 7), (362, 362, 0, 7), (363, 363, 0, 39), (20, 20, 1, 2), (365, 365, 0, 1), (366, 366, 0, 1), (367, 367, 0, 1), (7, 19, 0, 2), (308, 320, 0, 8), (321, 333, 0, 8), (334, 346, 0, 8), (347, 359, 0, 8)]
abbrev LL_X11_drawn : List Rc := []
def P_X11_drawn (σ0 : Nat → Nat → Int32) (τ0 : Nat → Nat → Int64) (a1 : Int32) (a2 : Int32) (r : Int32) (σ : Nat → Nat → Int32) (τ : Nat → Nat → Int64) : Prop := Rg σ ∧ Fr L_X11_drawn σ0 σ ∧ FrL LL_X11_drawn τ0 τ ∧ (-1 ≤ r.toInt ∧ r.toInt ≤ 40)
set_option maxHeartbeats 4000000 in
theorem c_X11_drawn (l : Launch) (D : va_G) (cA : Nat → ClassId) (ad : Nat → Nat) (hI : Inj ad) (σ0 : Nat → Nat → Int32) (τ0 : Nat → Nat → Int64) (hR : Rg σ0) (a1 : Int32) (a2 : Int32)  : Met l yX11_drawn wsX11_drawn ({ frames := 7, cells := 0, slots := 0, locals := 163 } : Room) (WQc D cA ad [.ref (ad 0), .int a1, .int a2] σ0 τ0) (va_Qi (fun (r : Int32) (u : SS) => P_X11_drawn σ0 τ0 a1 a2 r u.1 u.2) (WB D cA ad) (AA ad)) 0 0 (AA ad) := by
  refine Met.ofW (cc := cX11_drawn) (maxL := 4) (ret := (some .int)) (by decide) rfl ?_
  intro p e s m args below meth c s₁ B hml hv
  obtain ⟨rfl, hP, hK, hN⟩ := hv
  have C : Cy p s m _ meth c cX11_drawn 4 wsX11_drawn RX11 D cA ad (some .int) := ⟨B.exec, B.bytes, hml, findClass_of_methodNamed B.named, atoms_spec (ws := wsX11_drawn) B.pre, hK, B.notSynchronized, B.returns, hI, hN⟩
  have hl := lv_entry ([.ref (ad 0), .int a1, .int a2]) (n := 4) (Nat.le_of_ble_eq_true rfl)
  rw [lg_entry_eq]
  generalize (lg_sl ([.ref (ad 0), .int a1, .int a2]) ++ List.replicate (4 - (lg_sl ([.ref (ad 0), .int a1, .int a2])).length) Slot.unset).toArray = ls at hl ⊢
  have hl : lv_has ls 4 [(0, .ref (ad 0)), (1, .int a1), (2, .int a2)] := hl
  have hS : va_S (AA ad) s.heap s.heap [] := va_S.rf
  have hF : Fr L_X11_drawn σ0 σ0 := Fr.rf
  have hFL : FrL LL_X11_drawn τ0 τ0 := FrL.rf
  obtain ⟨hx, hb, _, hown, hts, _, hk, hr, _, _⟩ := C
  refine lv_iload_n hx hb dX11_drawn_0 rfl (lv_at hl 1 rfl) ?_
  refine r_iconst hx hb dX11_drawn_1 (by decide) (fun z1 ez1 => ?_)
  refine r_icmp_lt (tgt := 31) hx hb dX11_drawn_2 (by decide) (fun c2 => ?_) (fun c2 => ?_)
  · refine r_iconst hx hb dX11_drawn_31 (by decide) (fun z3 ez3 => ?_)
    exact r_iret hx hb hr hK hP hS hk dX11_drawn_32 (show P_X11_drawn σ0 τ0 a1 a2 z3 σ0 τ0 from ⟨hR, hF, hFL, by omega⟩)
  · refine lv_iload_n hx hb dX11_drawn_5 rfl (lv_at hl 1 rfl) ?_
    refine r_bipush hx hb dX11_drawn_6 (by decide) (fun z4 ez4 => ?_)
    refine r_icmp_gt (tgt := 31) hx hb dX11_drawn_8 (by decide) (fun c5 => ?_) (fun c5 => ?_)
    · refine r_iconst hx hb dX11_drawn_31 (by decide) (fun z6 ez6 => ?_)
      exact r_iret hx hb hr hK hP hS hk dX11_drawn_32 (show P_X11_drawn σ0 τ0 a1 a2 z6 σ0 τ0 from ⟨hR, hF, hFL, by omega⟩)
    · refine lv_aload_n hx hb dX11_drawn_11 rfl (lv_at hl 0 rfl) ?_
      refine fg_11_1 (k := 0) hx hb hts in_X11_drawn_11 hown hK hP (by decide) (by decide) (hts _ lk_X11_drawn_19) dX11_drawn_12 ?_
      refine fgN_9_4 (k := 2) hx hb hts in_X11_drawn_9 hown hK hP (by decide) (by decide) (hN.use nw_11_235) dX11_drawn_15 ?_
      have hr7 := rg_9_4 hR (k := 2) (by decide) (by decide)
      refine r_if_eq (tgt := 31) hx hb dX11_drawn_18 (by decide) (fun c8 => ?_) (fun c8 => ?_)
      · refine r_iconst hx hb dX11_drawn_31 (by decide) (fun z9 ez9 => ?_)
        exact r_iret hx hb hr hK hP hS hk dX11_drawn_32 (show P_X11_drawn σ0 τ0 a1 a2 z9 σ0 τ0 from ⟨hR, hF, hFL, by omega⟩)
      · refine lv_aload_n hx hb dX11_drawn_21 rfl (lv_at hl 0 rfl) ?_
        refine fg_11_1 (k := 0) hx hb hts in_X11_drawn_11 hown hK hP (by decide) (by decide) (hts _ lk_X11_drawn_19) dX11_drawn_22 ?_
        refine fgN_9_6 (k := 2) hx hb hts in_X11_drawn_9 hown hK hP (by decide) (by decide) (hN.use nw_11_238) dX11_drawn_25 ?_
        have hr10 := rg_9_6 hR (k := 2) (by decide) (by decide)
        refine r_if_ne (tgt := 33) hx hb dX11_drawn_28 (by decide) (fun c11 => ?_) (fun c11 => ?_)
        · refine lv_aload_n hx hb dX11_drawn_33 rfl (lv_at hl 0 rfl) ?_
          refine fg_11_5 (k := 0) hx hb hts in_X11_drawn_11 hown hK hP (by decide) (by decide) (hts _ lk_X11_drawn_42) dX11_drawn_34 ?_
          refine lv_aload_n hx hb dX11_drawn_37 rfl (lv_at hl 0 rfl) ?_
          refine fg_11_4 (k := 0) hx hb hts in_X11_drawn_11 hown hK hP (by decide) (by decide) (hts _ lk_X11_drawn_38) dX11_drawn_38 ?_
          refine r_cVv (k := 8) (As := [.ref (ad 7)]) (rest := []) ⟨hx, hb, hml, hown, hts⟩ hK hP hN hS (c_X2_copyFrom l D cA ad hI σ0 τ0 hR 8 7 ⟨by omega, by omega⟩ ⟨by omega, by omega⟩) (cwV 1 hts gX11_drawn_X2_copyFrom rfl rfl rfl (by decide +kernel) ⟨by decide, by decide⟩) (rv_Days hK hP (by decide) (by decide)) rfl hl.1 rfl (Nat.le_of_ble_eq_true rfl) dX11_drawn_41 (Nat.zero_le _) (Nat.zero_le _) (fun u12 H12 locs12 hp12 hP hS => ?_)
          obtain ⟨σ12, τ12⟩ := u12
          obtain ⟨hR, f12, fL12⟩ : P_X2_copyFrom σ0 τ0 8 7 σ12 τ12 := hp12
          have hP : va_P D vwCl (gw cA ad σ12 τ12) H12 := hP
          obtain rfl := FrL.nil fL12
          have hF := hF.step f12 (by decide)
          refine lv_aload_n hx hb dX11_drawn_44 rfl (lv_at hl 0 rfl) ?_
          refine fg_11_9 (k := 0) hx hb hts in_X11_drawn_11 hown hK hP (by decide) (by decide) (hts _ lk_X11_drawn_69) dX11_drawn_45 ?_
          refine lv_aload_n hx hb dX11_drawn_48 rfl (lv_at hl 0 rfl) ?_
          refine fg_11_4 (k := 0) hx hb hts in_X11_drawn_11 hown hK hP (by decide) (by decide) (hts _ lk_X11_drawn_38) dX11_drawn_49 ?_
          refine lv_iload_n hx hb dX11_drawn_52 rfl (lv_at hl 1 rfl) ?_
          refine lv_iload_n hx hb dX11_drawn_53 rfl (lv_at hl 2 rfl) ?_
          refine r_cVi (k := 22) (As := [.ref (ad 7), .int a1, .int a2]) (rest := []) ⟨hx, hb, hml, hown, hts⟩ hK hP hN hS (c_X0_drawYears l D cA ad hI σ12 τ0 hR 7 a1 a2 ⟨by omega, by omega⟩ (by omega)) (cwV 3 hts gX11_drawn_X0_drawYears rfl rfl rfl (by decide +kernel) ⟨by decide, by decide⟩) (rv_Acts hK hP (by decide) (by decide)) rfl hl.1 rfl (Nat.le_of_ble_eq_true rfl) dX11_drawn_54 (Nat.zero_le _) (Nat.zero_le _) (fun r13 u13 H13 locs13 hp13 hP hS => ?_)
          obtain ⟨σ13, τ13⟩ := u13
          obtain ⟨hR, f13, fL13, hq13⟩ : P_X0_drawYears σ12 τ0 7 a1 a2 r13 σ13 τ13 := hp13
          have hP : va_P D vwCl (gw cA ad σ13 τ13) H13 := hP
          obtain rfl := FrL.nil fL13
          have hF := hF.step f13 (by decide)
          refine lv_istore_n (lv' := [(3, .int r13), (0, .ref (ad 0)), (1, .int a1), (2, .int a2)]) hx hb dX11_drawn_57 rfl hl (by decide) rfl (fun ls hl => ?_)
          refine lv_iload_n hx hb dX11_drawn_58 rfl (lv_at hl 0 rfl) ?_
          refine r_if_le (tgt := 73) hx hb dX11_drawn_59 (by decide) (fun c14 => ?_) (fun c14 => ?_)
          · refine lv_iload_n hx hb dX11_drawn_73 rfl (lv_at hl 0 rfl) ?_
            exact r_iret hx hb hr hK hP hS hk dX11_drawn_74 (show P_X11_drawn σ0 τ0 a1 a2 r13 σ13 τ0 from ⟨hR, hF, hFL, by omega⟩)
          · refine lv_aload_n hx hb dX11_drawn_62 rfl (lv_at hl 1 rfl) ?_
            refine fg_11_7 (k := 0) hx hb hts in_X11_drawn_11 hown hK hP (by decide) (by decide) (hts _ lk_X11_drawn_51) dX11_drawn_63 ?_
            refine lv_aload_n hx hb dX11_drawn_66 rfl (lv_at hl 1 rfl) ?_
            refine fg_11_5 (k := 0) hx hb hts in_X11_drawn_11 hown hK hP (by decide) (by decide) (hts _ lk_X11_drawn_42) dX11_drawn_67 ?_
            refine r_cVv (k := 20) (As := [.ref (ad 8)]) (rest := []) ⟨hx, hb, hml, hown, hts⟩ hK hP hN hS (c_X3_push l D cA ad hI σ13 τ0 hR 8 ⟨by omega, by omega⟩) (cwV 1 hts gX11_drawn_X3_push rfl rfl rfl (by decide +kernel) ⟨by decide, by decide⟩) (rv_Hist hK hP (by decide) (by decide)) rfl hl.1 rfl (Nat.le_of_ble_eq_true rfl) dX11_drawn_70 (Nat.zero_le _) (Nat.zero_le _) (fun u15 H15 locs15 hp15 hP hS => ?_)
            obtain ⟨σ15, τ15⟩ := u15
            obtain ⟨hR, f15, fL15⟩ : P_X3_push σ13 τ0 8 σ15 τ15 := hp15
            have hP : va_P D vwCl (gw cA ad σ15 τ15) H15 := hP
            obtain rfl := FrL.nil fL15
            have hF := hF.step f15 (by decide)
            refine lv_iload_n hx hb dX11_drawn_73 rfl (lv_at hl 0 rfl) ?_
            exact r_iret hx hb hr hK hP hS hk dX11_drawn_74 (show P_X11_drawn σ0 τ0 a1 a2 r13 σ15 τ0 from ⟨hR, hF, hFL, by omega⟩)
        · refine r_iconst hx hb dX11_drawn_31 (by decide) (fun z16 ez16 => ?_)
          exact r_iret hx hb hr hK hP hS hk dX11_drawn_32 (show P_X11_drawn σ0 τ0 a1 a2 z16 σ0 τ0 from ⟨hR, hF, hFL, by omega⟩)
theorem in_X11_odds_11 : ∀ w ∈ u_ws RX11 TX11 19, w ∈ wsX11_odds := by decide +kernel
theorem in_X11_odds_2 : ∀ w ∈ u_ws RX2 TX2 7, w ∈ wsX11_odds := by decide +kernel
theorem in_X11_odds_9 : ∀ w ∈ u_ws RX9 TX9 14, w ∈ wsX11_odds := by decide +kernel
theorem lk_X11_odds_19 : Cond.fieldLink RX11 19 "CuckooShares" "valley" "LCuckooShares$Valley;" ∈ wsX11_odds := by decide +kernel
theorem lk_X11_odds_38 : Cond.fieldLink RX11 38 "CuckooShares" "days" "LCuckooShares$Days;" ∈ wsX11_odds := by decide +kernel
theorem lk_X11_odds_45 : Cond.fieldLink RX11 45 "CuckooShares" "trial" "LCuckooShares$Days;" ∈ wsX11_odds := by decide +kernel
theorem lk_X11_odds_69 : Cond.fieldLink RX11 69 "CuckooShares" "acts" "LCuckooShares$Acts;" ∈ wsX11_odds := by decide +kernel
abbrev L_X11_odds : List Rc := [(22, 22, 2, 2), (360, 360, 0, 7), (361, 361, 0, 7), (362, 362, 0, 7), (363, 363, 0, 39), (365, 365, 0, 1), (366, 366, 0, 1), (367, 367, 0, 1), (7, 19, 0, 2), (308, 320, 0, 8), (321, 333, 0, 8), (334, 346, 0, 8), (347, 359, 0, 8)]
abbrev LL_X11_odds : List Rc := []
def P_X11_odds (σ0 : Nat → Nat → Int32) (τ0 : Nat → Nat → Int64) (a1 : Int32) (a2 : Int32) (a3 : Int32) (a4 : Int32) (r : Int32) (σ : Nat → Nat → Int32) (τ : Nat → Nat → Int64) : Prop := Rg σ ∧ Fr L_X11_odds σ0 σ ∧ FrL LL_X11_odds τ0 τ
def J_X11_odds_51 (p : Program) (l : Launch) (e : Env) (s : State) (m : MethodId) (args : Array Value) (below : List Frame) (meth : Method) (c : Code) (D : va_G) (cA : Nat → ClassId) (ad : Nat → Nat) (σ0 : Nat → Nat → Int32) (τ0 : Nat → Nat → Int64) (a1 : Int32) (a2 : Int32) (a3 : Int32) (a4 : Int32) (n : Nat) : Prop := ∀ (σ : Nat → Nat → Int32) (τ : Nat → Nat → Int64) (H : Heap) (locs : List Loc) (x5 : Int32) (x6 : Int32) (ls : Array Slot), Rg σ → Fr L_X11_odds σ0 σ → FrL LL_X11_odds τ0 τ → va_P D vwCl (gw cA ad σ τ) H → va_S (AA ad) s.heap H locs → (0 ≤ a1.toInt ∧ a1.toInt ≤ 7) → (0 ≤ a2.toInt ∧ a2.toInt ≤ 999) → (1 ≤ a3.toInt ∧ a3.toInt ≤ 30) → (0 ≤ x6.toInt ∧ x6.toInt ≤ 30) → lv_has ls 7 [(0, .ref (ad 0)), (1, .int a1), (2, .int a2), (3, .int a3), (4, .int a4), (5, .int x5), (6, .int x6)] → 2 * (30 - x6.toInt) + 1 < (n : Int) → W p l e ({ frames := 7, cells := 0, slots := 0, locals := 163 } : Room) s m args below meth c H locs 0 0 (MQ below (va_Qi (fun (r : Int32) (u : SS) => P_X11_odds σ0 τ0 a1 a2 a3 a4 r u.1 u.2) (WB D cA ad) (AA ad)) args s 0 0 (AA ad)) (F0 m 51 ls [])
set_option maxHeartbeats 4000000 in
theorem B_X11_odds_51 (p : Program) (l : Launch) (e : Env) (s : State) (m : MethodId) (args : Array Value) (below : List Frame) (meth : Method) (c : Code) (D : va_G) (cA : Nat → ClassId) (ad : Nat → Nat) (σ0 : Nat → Nat → Int32) (τ0 : Nat → Nat → Int64) (a1 : Int32) (a2 : Int32) (a3 : Int32) (a4 : Int32) (n : Nat) (C : Cy p s m args meth c cX11_odds 7 wsX11_odds RX11 D cA ad (some .int))  (K51 : J_X11_odds_51 p l e s m args below meth c D cA ad σ0 τ0 a1 a2 a3 a4 n) : J_X11_odds_51 p l e s m args below meth c D cA ad σ0 τ0 a1 a2 a3 a4 (n + 1) := by
  obtain ⟨hx, hb, hml, hown, hts, hK, hk, hr, hI, hN⟩ := C
  intro σ τ H locs x5 x6 ls hR hF hFL hP hS hc0 hc1 hc2 hc3 hl hm
  obtain rfl := FrL.nil hFL
  refine lv_iload hx hb dX11_odds_51 (lv_at hl 6 rfl) ?_
  refine lv_iload_n hx hb dX11_odds_53 rfl (lv_at hl 3 rfl) ?_
  refine r_icmp_ge (tgt := 118) hx hb dX11_odds_54 (by decide) (fun c1 => ?_) (fun c1 => ?_)
  · refine lv_iload hx hb dX11_odds_118 (lv_at hl 5 rfl) ?_
    exact r_iret hx hb hr hK hP hS hk dX11_odds_120 (show P_X11_odds σ0 τ0 a1 a2 a3 a4 x5 σ τ0 from ⟨hR, hF, hFL⟩)
  · refine lv_aload_n hx hb dX11_odds_57 rfl (lv_at hl 0 rfl) ?_
    refine fg_11_6 (k := 0) hx hb hts in_X11_odds_11 hown hK hP (by decide) (by decide) (hts _ lk_X11_odds_45) dX11_odds_58 ?_
    refine lv_aload_n hx hb dX11_odds_61 rfl (lv_at hl 0 rfl) ?_
    refine fg_11_4 (k := 0) hx hb hts in_X11_odds_11 hown hK hP (by decide) (by decide) (hts _ lk_X11_odds_38) dX11_odds_62 ?_
    refine r_cVv (k := 9) (As := [.ref (ad 7)]) (rest := []) ⟨hx, hb, hml, hown, hts⟩ hK hP hN hS (c_X2_copyFrom l D cA ad hI σ τ0 hR 9 7 ⟨by omega, by omega⟩ ⟨by omega, by omega⟩) (cwV 1 hts gX11_odds_X2_copyFrom rfl rfl rfl (by decide +kernel) ⟨by decide, by decide⟩) (rv_Days hK hP (by decide) (by decide)) rfl hl.1 rfl (Nat.le_of_ble_eq_true rfl) dX11_odds_65 (Nat.zero_le _) (Nat.zero_le _) (fun u2 H2 locs2 hp2 hP hS => ?_)
    obtain ⟨σ2, τ2⟩ := u2
    obtain ⟨hR, f2, fL2⟩ : P_X2_copyFrom σ τ0 9 7 σ2 τ2 := hp2
    have hP : va_P D vwCl (gw cA ad σ2 τ2) H2 := hP
    obtain rfl := FrL.nil fL2
    have hF := hF.step f2 (by decide)
    refine lv_aload_n hx hb dX11_odds_68 rfl (lv_at hl 0 rfl) ?_
    refine fg_11_9 (k := 0) hx hb hts in_X11_odds_11 hown hK hP (by decide) (by decide) (hts _ lk_X11_odds_69) dX11_odds_69 ?_
    refine lv_aload_n hx hb dX11_odds_72 rfl (lv_at hl 0 rfl) ?_
    refine fg_11_6 (k := 0) hx hb hts in_X11_odds_11 hown hK hP (by decide) (by decide) (hts _ lk_X11_odds_45) dX11_odds_73 ?_
    refine r_iconst hx hb dX11_odds_76 (by decide) (fun z3 ez3 => ?_)
    refine lv_iload hx hb dX11_odds_77 (lv_at hl 4 rfl) ?_
    refine lv_iload hx hb dX11_odds_79 (lv_at hl 6 rfl) ?_
    refine r_iaddU hx hb dX11_odds_81 (fun z4 => ?_)
    refine r_cVi (k := 22) (As := [.ref (ad 9), .int z3, .int z4]) (rest := []) ⟨hx, hb, hml, hown, hts⟩ hK hP hN hS (c_X0_drawYears l D cA ad hI σ2 τ0 hR 9 z3 z4 ⟨by omega, by omega⟩ (by omega)) (cwV 3 hts gX11_odds_X0_drawYears rfl rfl rfl (by decide +kernel) ⟨by decide, by decide⟩) (rv_Acts hK hP (by decide) (by decide)) rfl hl.1 rfl (Nat.le_of_ble_eq_true rfl) dX11_odds_82 (Nat.zero_le _) (Nat.zero_le _) (fun r5 u5 H5 locs5 hp5 hP hS => ?_)
    obtain ⟨σ5, τ5⟩ := u5
    obtain ⟨hR, f5, fL5, hq5⟩ : P_X0_drawYears σ2 τ0 9 z3 z4 r5 σ5 τ5 := hp5
    have hP : va_P D vwCl (gw cA ad σ5 τ5) H5 := hP
    obtain rfl := FrL.nil fL5
    have hF := hF.step f5 (by decide)
    refine lv_pop hx hb dX11_odds_85 rfl ?_
    refine lv_aload_n hx hb dX11_odds_86 rfl (lv_at hl 0 rfl) ?_
    refine fg_11_6 (k := 0) hx hb hts in_X11_odds_11 hown hK hP (by decide) (by decide) (hts _ lk_X11_odds_45) dX11_odds_87 ?_
    refine fgN_2_6 (k := 9) hx hb hts in_X11_odds_2 hown hK hP (by decide) (by decide) (hN.use nw_11_195) dX11_odds_90 ?_
    refine lv_iload_n hx hb dX11_odds_93 rfl (lv_at hl 1 rfl) ?_
    obtain ⟨j6, ej6⟩ : ∃ j : Nat, a1.toInt = (j : Int) := ⟨_, ti_nat (by omega)⟩
    refine ad_days8 (k := 349) (j := j6) hx hb hK hP (by decide) (by decide) ej6 (by omega) dX11_odds_94 ?_
    refine lv_aload_n hx hb dX11_odds_95 rfl (lv_at hl 0 rfl) ?_
    refine fg_11_4 (k := 0) hx hb hts in_X11_odds_11 hown hK hP (by decide) (by decide) (hts _ lk_X11_odds_38) dX11_odds_96 ?_
    refine fgN_2_6 (k := 7) hx hb hts in_X11_odds_2 hown hK hP (by decide) (by decide) (hN.use nw_11_195) dX11_odds_99 ?_
    refine lv_iload_n hx hb dX11_odds_102 rfl (lv_at hl 1 rfl) ?_
    refine ad_days8 (k := 347) (j := j6) hx hb hK hP (by decide) (by decide) ej6 (by omega) dX11_odds_103 ?_
    refine r_isubU hx hb dX11_odds_104 (fun z7 => ?_)
    refine lv_iload_n hx hb dX11_odds_105 rfl (lv_at hl 2 rfl) ?_
    refine r_icmp_le (tgt := 112) hx hb dX11_odds_106 (by decide) (fun c8 => ?_) (fun c8 => ?_)
    · refine r_iinc (k := 6) (lv1 := fun z9 => [(6, .int z9), (0, .ref (ad 0)), (1, .int a1), (2, .int a2), (3, .int a3), (4, .int a4), (5, .int x5)]) hx hb dX11_odds_112 hl rfl (by decide) (fun _ => rfl) (by decide) (by omega) (fun z9 ls ez9 hl => ?_)
      refine lv_goto (tgt := 51) hx hb dX11_odds_115 (by decide) ?_
      exact K51 σ5 τ0 H5 locs5 x5 z9 ls hR hF hFL hP hS (by omega) (by omega) (by omega) (by omega) (lv_sub hl [1, 2, 3, 4, 5, 6, 0] rfl) (by omega)
    · refine r_iincU (k := 5) (lv1 := fun z10 => [(5, .int z10), (0, .ref (ad 0)), (1, .int a1), (2, .int a2), (3, .int a3), (4, .int a4), (6, .int x6)]) hx hb dX11_odds_109 hl rfl (by decide) (fun _ => rfl) (fun z10 ls hl => ?_)
      refine r_iinc (k := 6) (lv1 := fun z11 => [(6, .int z11), (5, .int z10), (0, .ref (ad 0)), (1, .int a1), (2, .int a2), (3, .int a3), (4, .int a4)]) hx hb dX11_odds_112 hl rfl (by decide) (fun _ => rfl) (by decide) (by omega) (fun z11 ls ez11 hl => ?_)
      refine lv_goto (tgt := 51) hx hb dX11_odds_115 (by decide) ?_
      exact K51 σ5 τ0 H5 locs5 z10 z11 ls hR hF hFL hP hS (by omega) (by omega) (by omega) (by omega) (lv_sub hl [2, 3, 4, 5, 6, 1, 0] rfl) (by omega)
theorem A_X11_odds (p : Program) (l : Launch) (e : Env) (s : State) (m : MethodId) (args : Array Value) (below : List Frame) (meth : Method) (c : Code) (D : va_G) (cA : Nat → ClassId) (ad : Nat → Nat) (σ0 : Nat → Nat → Int32) (τ0 : Nat → Nat → Int64) (a1 : Int32) (a2 : Int32) (a3 : Int32) (a4 : Int32) (C : Cy p s m args meth c cX11_odds 7 wsX11_odds RX11 D cA ad (some .int))  : ∀ n : Nat, J_X11_odds_51 p l e s m args below meth c D cA ad σ0 τ0 a1 a2 a3 a4 n := by
  intro n
  induction n with
  | zero =>
    exact (by intro σ τ H locs x5 x6 ls hR hF hFL hP hS hc0 hc1 hc2 hc3 hl hm; exfalso; omega)
  | succ n ih =>
    exact B_X11_odds_51 p l e s m args below meth c D cA ad σ0 τ0 a1 a2 a3 a4 n C  ih
set_option maxHeartbeats 4000000 in
theorem c_X11_odds (l : Launch) (D : va_G) (cA : Nat → ClassId) (ad : Nat → Nat) (hI : Inj ad) (σ0 : Nat → Nat → Int32) (τ0 : Nat → Nat → Int64) (hR : Rg σ0) (a1 : Int32) (a2 : Int32) (a3 : Int32) (a4 : Int32)  : Met l yX11_odds wsX11_odds ({ frames := 7, cells := 0, slots := 0, locals := 163 } : Room) (WQc D cA ad [.ref (ad 0), .int a1, .int a2, .int a3, .int a4] σ0 τ0) (va_Qi (fun (r : Int32) (u : SS) => P_X11_odds σ0 τ0 a1 a2 a3 a4 r u.1 u.2) (WB D cA ad) (AA ad)) 0 0 (AA ad) := by
  refine Met.ofW (cc := cX11_odds) (maxL := 7) (ret := (some .int)) (by decide) rfl ?_
  intro p e s m args below meth c s₁ B hml hv
  obtain ⟨rfl, hP, hK, hN⟩ := hv
  have C : Cy p s m _ meth c cX11_odds 7 wsX11_odds RX11 D cA ad (some .int) := ⟨B.exec, B.bytes, hml, findClass_of_methodNamed B.named, atoms_spec (ws := wsX11_odds) B.pre, hK, B.notSynchronized, B.returns, hI, hN⟩
  have hl := lv_entry ([.ref (ad 0), .int a1, .int a2, .int a3, .int a4]) (n := 7) (Nat.le_of_ble_eq_true rfl)
  rw [lg_entry_eq]
  generalize (lg_sl ([.ref (ad 0), .int a1, .int a2, .int a3, .int a4]) ++ List.replicate (7 - (lg_sl ([.ref (ad 0), .int a1, .int a2, .int a3, .int a4])).length) Slot.unset).toArray = ls at hl ⊢
  have hl : lv_has ls 7 [(0, .ref (ad 0)), (1, .int a1), (2, .int a2), (3, .int a3), (4, .int a4)] := hl
  have hS : va_S (AA ad) s.heap s.heap [] := va_S.rf
  have hF : Fr L_X11_odds σ0 σ0 := Fr.rf
  have hFL : FrL LL_X11_odds τ0 τ0 := FrL.rf
  have hA := A_X11_odds p l e s m _ below meth c D cA ad σ0 τ0 a1 a2 a3 a4 C  130
  have K51 := hA
  clear hA
  obtain ⟨hx, hb, _, hown, hts, _, hk, hr, _, _⟩ := C
  refine lv_aload_n hx hb dX11_odds_0 rfl (lv_at hl 0 rfl) ?_
  refine fg_11_1 (k := 0) hx hb hts in_X11_odds_11 hown hK hP (by decide) (by decide) (hts _ lk_X11_odds_19) dX11_odds_1 ?_
  refine lv_iload_n hx hb dX11_odds_4 rfl (lv_at hl 1 rfl) ?_
  refine r_cVi (k := 2) (As := [.int a1]) (rest := []) ⟨hx, hb, hml, hown, hts⟩ hK hP hN hS (c_X9_hasMan l D cA ad hI σ0 τ0 hR 2 a1 ⟨by omega, by omega⟩) (cwV 1 hts gX11_odds_X9_hasMan rfl rfl rfl (by decide +kernel) ⟨by decide, by decide⟩) (rv_Valley hK hP (by decide) (by decide)) rfl hl.1 rfl (Nat.le_of_ble_eq_true rfl) dX11_odds_5 (Nat.zero_le _) (Nat.zero_le _) (fun r1 u1 H1 locs1 hp1 hP hS => ?_)
  obtain ⟨σ1, τ1⟩ := u1
  obtain ⟨hR, f1, fL1, hq1, hp1_0⟩ : P_X9_hasMan σ0 τ0 2 a1 r1 σ1 τ1 := hp1
  have hP : va_P D vwCl (gw cA ad σ1 τ1) H1 := hP
  obtain rfl := FrL.nil fL1
  obtain rfl := Fr.nil f1
  refine r_if_eq (tgt := 43) hx hb dX11_odds_8 (by decide) (fun c2 => ?_) (fun c2 => ?_)
  · refine r_iconst hx hb dX11_odds_43 (by decide) (fun z3 ez3 => ?_)
    exact r_iret hx hb hr hK hP hS hk dX11_odds_44 (show P_X11_odds σ0 τ0 a1 a2 a3 a4 z3 σ0 τ0 from ⟨hR, hF, hFL⟩)
  · refine lv_iload_n hx hb dX11_odds_11 rfl (lv_at hl 2 rfl) ?_
    refine r_if_lt (tgt := 43) hx hb dX11_odds_12 (by decide) (fun c4 => ?_) (fun c4 => ?_)
    · refine r_iconst hx hb dX11_odds_43 (by decide) (fun z5 ez5 => ?_)
      exact r_iret hx hb hr hK hP hS hk dX11_odds_44 (show P_X11_odds σ0 τ0 a1 a2 a3 a4 z5 σ0 τ0 from ⟨hR, hF, hFL⟩)
    · refine lv_iload_n hx hb dX11_odds_15 rfl (lv_at hl 2 rfl) ?_
      refine r_sipush hx hb dX11_odds_16 (by decide) (fun z6 ez6 => ?_)
      refine r_icmp_gt (tgt := 43) hx hb dX11_odds_19 (by decide) (fun c7 => ?_) (fun c7 => ?_)
      · refine r_iconst hx hb dX11_odds_43 (by decide) (fun z8 ez8 => ?_)
        exact r_iret hx hb hr hK hP hS hk dX11_odds_44 (show P_X11_odds σ0 τ0 a1 a2 a3 a4 z8 σ0 τ0 from ⟨hR, hF, hFL⟩)
      · refine lv_iload_n hx hb dX11_odds_22 rfl (lv_at hl 3 rfl) ?_
        refine r_iconst hx hb dX11_odds_23 (by decide) (fun z9 ez9 => ?_)
        refine r_icmp_lt (tgt := 43) hx hb dX11_odds_24 (by decide) (fun c10 => ?_) (fun c10 => ?_)
        · refine r_iconst hx hb dX11_odds_43 (by decide) (fun z11 ez11 => ?_)
          exact r_iret hx hb hr hK hP hS hk dX11_odds_44 (show P_X11_odds σ0 τ0 a1 a2 a3 a4 z11 σ0 τ0 from ⟨hR, hF, hFL⟩)
        · refine lv_iload_n hx hb dX11_odds_27 rfl (lv_at hl 3 rfl) ?_
          refine r_bipush hx hb dX11_odds_28 (by decide) (fun z12 ez12 => ?_)
          refine r_icmp_gt (tgt := 43) hx hb dX11_odds_30 (by decide) (fun c13 => ?_) (fun c13 => ?_)
          · refine r_iconst hx hb dX11_odds_43 (by decide) (fun z14 ez14 => ?_)
            exact r_iret hx hb hr hK hP hS hk dX11_odds_44 (show P_X11_odds σ0 τ0 a1 a2 a3 a4 z14 σ0 τ0 from ⟨hR, hF, hFL⟩)
          · refine lv_aload_n hx hb dX11_odds_33 rfl (lv_at hl 0 rfl) ?_
            refine fg_11_1 (k := 0) hx hb hts in_X11_odds_11 hown hK hP (by decide) (by decide) (hts _ lk_X11_odds_19) dX11_odds_34 ?_
            refine fgN_9_6 (k := 2) hx hb hts in_X11_odds_9 hown hK hP (by decide) (by decide) (hN.use nw_11_238) dX11_odds_37 ?_
            have hr15 := rg_9_6 hR (k := 2) (by decide) (by decide)
            refine r_if_ne (tgt := 45) hx hb dX11_odds_40 (by decide) (fun c16 => ?_) (fun c16 => ?_)
            · refine r_iconst hx hb dX11_odds_45 (by decide) (fun z17 ez17 => ?_)
              refine lv_istore (lv' := [(5, .int z17), (0, .ref (ad 0)), (1, .int a1), (2, .int a2), (3, .int a3), (4, .int a4)]) hx hb dX11_odds_46 hl (by decide) rfl (fun ls hl => ?_)
              refine r_iconst hx hb dX11_odds_48 (by decide) (fun z18 ez18 => ?_)
              refine lv_istore (lv' := [(6, .int z18), (5, .int z17), (0, .ref (ad 0)), (1, .int a1), (2, .int a2), (3, .int a3), (4, .int a4)]) hx hb dX11_odds_49 hl (by decide) rfl (fun ls hl => ?_)
              exact K51 σ0 τ0 H1 locs1 z17 z18 ls hR hF hFL hP hS (by omega) (by omega) (by omega) (by omega) (lv_sub hl [2, 3, 4, 5, 6, 1, 0] rfl) (by omega)
            · refine r_iconst hx hb dX11_odds_43 (by decide) (fun z19 ez19 => ?_)
              exact r_iret hx hb hr hK hP hS hk dX11_odds_44 (show P_X11_odds σ0 τ0 a1 a2 a3 a4 z19 σ0 τ0 from ⟨hR, hF, hFL⟩)
