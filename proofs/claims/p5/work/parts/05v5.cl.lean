theorem in_X9_callIn_9 : ∀ w ∈ u_ws RX9 TX9 14, w ∈ wsX9_callIn := by decide +kernel
theorem lk_X9_callIn_26 : Cond.fieldLink RX9 26 "CuckooShares$Valley" "flight" "[[I" ∈ wsX9_callIn := by decide +kernel
abbrev L_X9_callIn : List Rc := []
abbrev LL_X9_callIn : List Rc := []
def P_X9_callIn (σ0 : Nat → Nat → Int32) (τ0 : Nat → Nat → Int64) (a1 : Int32) (a2 : Int32) (r : Int32) (σ : Nat → Nat → Int32) (τ : Nat → Nat → Int64) : Prop := Rg σ ∧ Fr L_X9_callIn σ0 σ ∧ FrL LL_X9_callIn τ0 τ ∧ (-1 ≤ r.toInt ∧ r.toInt ≤ 9)
def J_X9_callIn_2 (p : Program) (l : Launch) (e : Env) (s : State) (m : MethodId) (args : Array Value) (below : List Frame) (meth : Method) (c : Code) (D : va_G) (cA : Nat → ClassId) (ad : Nat → Nat) (σ0 : Nat → Nat → Int32) (τ0 : Nat → Nat → Int64) (a1 : Int32) (a2 : Int32) (n : Nat) : Prop := ∀ (σ : Nat → Nat → Int32) (τ : Nat → Nat → Int64) (H : Heap) (locs : List Loc) (x3 : Int32) (ls : Array Slot), Rg σ → Fr L_X9_callIn σ0 σ → FrL LL_X9_callIn τ0 τ → va_P D vwCl (gw cA ad σ τ) H → va_S (AA ad) s.heap H locs → (0 ≤ x3.toInt ∧ x3.toInt ≤ 10) → lv_has ls 4 [(0, .ref (ad 2)), (1, .int a1), (2, .int a2), (3, .int x3)] → 2 * (10 - x3.toInt) + 1 < (n : Int) → W p l e ({ frames := 1, cells := 0, slots := 0, locals := 22 } : Room) s m args below meth c H locs 0 0 (MQ below (va_Qi (fun (r : Int32) (u : SS) => P_X9_callIn σ0 τ0 a1 a2 r u.1 u.2) (WB D cA ad) (AA ad)) args s 0 0 (AA ad)) (F0 m 2 ls [])
set_option maxHeartbeats 4000000 in
theorem B_X9_callIn_2 (p : Program) (l : Launch) (e : Env) (s : State) (m : MethodId) (args : Array Value) (below : List Frame) (meth : Method) (c : Code) (D : va_G) (cA : Nat → ClassId) (ad : Nat → Nat) (σ0 : Nat → Nat → Int32) (τ0 : Nat → Nat → Int64) (a1 : Int32) (a2 : Int32) (n : Nat) (C : Cy p s m args meth c cX9_callIn 4 wsX9_callIn RX9 D cA ad (some .int)) (ha1 : 0 ≤ a1.toInt ∧ a1.toInt ≤ 3) (ha2 : 0 ≤ a2.toInt ∧ a2.toInt ≤ 255) (K2 : J_X9_callIn_2 p l e s m args below meth c D cA ad σ0 τ0 a1 a2 n) : J_X9_callIn_2 p l e s m args below meth c D cA ad σ0 τ0 a1 a2 (n + 1) := by
  obtain ⟨hx, hb, hml, hown, hts, hK, hk, hr, hI, hN⟩ := C
  intro σ τ H locs x3 ls hR hF hFL hP hS hc0 hl hm
  obtain rfl := Fr.nil hF
  obtain rfl := FrL.nil hFL
  refine lv_iload_n hx hb dX9_callIn_2 rfl (lv_at hl 3 rfl) ?_
  refine lv_aload_n hx hb dX9_callIn_3 rfl (lv_at hl 0 rfl) ?_
  refine fg_9_11 (k := 2) hx hb hts in_X9_callIn_9 hown hK hP (by decide) (by decide) (hts _ lk_X9_callIn_26) dX9_callIn_4 ?_
  refine lv_iload_n hx hb dX9_callIn_7 rfl (lv_at hl 1 rfl) ?_
  obtain ⟨j1, ej1⟩ : ∃ j : Nat, a1.toInt = (j : Int) := ⟨_, ti_nat (by omega)⟩
  refine ad_flightA (k := 56) (j := j1) hx hb hK hP (by decide) (by decide) ej1 (by omega) dX9_callIn_8 ?_
  refine r_iconst hx hb dX9_callIn_9 (by decide) (fun z2 ez2 => ?_)
  refine ad_flightR (k := 132 + j1) (j := 2) hx hb hK hP (by omega) (by omega) (by omega) (by omega) dX9_callIn_10 ?_
  have hr3 := ra_flightR_0 hR (k := 132 + j1) (j := 2) (by omega) (by omega) (by decide) (by decide)
  refine r_icmp_ge (tgt := 34) hx hb dX9_callIn_11 (by decide) (fun c4 => ?_) (fun c4 => ?_)
  · refine r_iconst hx hb dX9_callIn_34 (by decide) (fun z5 ez5 => ?_)
    exact r_iret hx hb hr hK hP hS hk dX9_callIn_35 (show P_X9_callIn σ0 τ0 a1 a2 z5 σ0 τ0 from ⟨hR, hF, hFL, by omega⟩)
  · refine lv_aload_n hx hb dX9_callIn_14 rfl (lv_at hl 0 rfl) ?_
    refine lv_iload_n hx hb dX9_callIn_15 rfl (lv_at hl 1 rfl) ?_
    refine lv_iload_n hx hb dX9_callIn_16 rfl (lv_at hl 3 rfl) ?_
    refine r_cVr (k := 2) (As := [.int a1, .int x3]) (rest := []) ⟨hx, hb, hml, hown, hts⟩ hK hP hN hS (c_X9_callRow l D cA ad hI σ0 τ0 hR a1 x3 (by omega) (by omega)) (cwV 2 hts gX9_callIn_X9_callRow rfl rfl rfl (by decide +kernel) ⟨by decide, by decide⟩) (rv_Valley hK hP (by decide) (by decide)) rfl hl.1 rfl (Nat.le_of_ble_eq_true rfl) dX9_callIn_17 (Nat.zero_le _) (Nat.zero_le _) (fun r6 u6 H6 locs6 hp6 hP hS => ?_)
    obtain ⟨σ6, τ6⟩ := u6
    obtain ⟨hR, f6, fL6, hq6⟩ : P_X9_callRow ad σ0 τ0 a1 x3 r6 σ6 τ6 := hp6
    have hP : va_P D vwCl (gw cA ad σ6 τ6) H6 := hP
    obtain rfl := FrL.nil fL6
    obtain rfl := Fr.nil f6
    obtain ⟨q6, rfl, hq6a, hq6b⟩ := hq6
    refine r_iconst hx hb dX9_callIn_20 (by decide) (fun z7 ez7 => ?_)
    refine ad_callR (k := q6) (j := 0) hx hb hK hP (by omega) (by omega) (by omega) (by omega) dX9_callIn_21 ?_
    refine lv_iload_n hx hb dX9_callIn_22 rfl (lv_at hl 2 rfl) ?_
    refine r_icmp_ne (tgt := 28) hx hb dX9_callIn_23 (by decide) (fun c8 => ?_) (fun c8 => ?_)
    · refine r_iinc (k := 3) (lv1 := fun z9 => [(3, .int z9), (0, .ref (ad 2)), (1, .int a1), (2, .int a2)]) hx hb dX9_callIn_28 hl rfl (by decide) (fun _ => rfl) (by decide) (by omega) (fun z9 ls ez9 hl => ?_)
      refine lv_goto (tgt := 2) hx hb dX9_callIn_31 (by decide) ?_
      exact K2 σ0 τ0 H6 locs6 z9 ls hR hF hFL hP hS (by omega) (lv_sub hl [1, 2, 3, 0] rfl) (by omega)
    · refine lv_iload_n hx hb dX9_callIn_26 rfl (lv_at hl 3 rfl) ?_
      exact r_iret hx hb hr hK hP hS hk dX9_callIn_27 (show P_X9_callIn σ0 τ0 a1 a2 x3 σ0 τ0 from ⟨hR, hF, hFL, by omega⟩)
theorem A_X9_callIn (p : Program) (l : Launch) (e : Env) (s : State) (m : MethodId) (args : Array Value) (below : List Frame) (meth : Method) (c : Code) (D : va_G) (cA : Nat → ClassId) (ad : Nat → Nat) (σ0 : Nat → Nat → Int32) (τ0 : Nat → Nat → Int64) (a1 : Int32) (a2 : Int32) (C : Cy p s m args meth c cX9_callIn 4 wsX9_callIn RX9 D cA ad (some .int)) (ha1 : 0 ≤ a1.toInt ∧ a1.toInt ≤ 3) (ha2 : 0 ≤ a2.toInt ∧ a2.toInt ≤ 255) : ∀ n : Nat, J_X9_callIn_2 p l e s m args below meth c D cA ad σ0 τ0 a1 a2 n := by
  intro n
  induction n with
  | zero =>
    exact (by intro σ τ H locs x3 ls hR hF hFL hP hS hc0 hl hm; exfalso; omega)
  | succ n ih =>
    exact B_X9_callIn_2 p l e s m args below meth c D cA ad σ0 τ0 a1 a2 n C ha1 ha2 ih
set_option maxHeartbeats 4000000 in
theorem c_X9_callIn (l : Launch) (D : va_G) (cA : Nat → ClassId) (ad : Nat → Nat) (hI : Inj ad) (σ0 : Nat → Nat → Int32) (τ0 : Nat → Nat → Int64) (hR : Rg σ0) (a1 : Int32) (a2 : Int32) (ha1 : 0 ≤ a1.toInt ∧ a1.toInt ≤ 3) (ha2 : 0 ≤ a2.toInt ∧ a2.toInt ≤ 255) : Met l yX9_callIn wsX9_callIn ({ frames := 1, cells := 0, slots := 0, locals := 22 } : Room) (WQc D cA ad [.ref (ad 2), .int a1, .int a2] σ0 τ0) (va_Qi (fun (r : Int32) (u : SS) => P_X9_callIn σ0 τ0 a1 a2 r u.1 u.2) (WB D cA ad) (AA ad)) 0 0 (AA ad) := by
  refine Met.ofW (cc := cX9_callIn) (maxL := 4) (ret := (some .int)) (by decide) rfl ?_
  intro p e s m args below meth c s₁ B hml hv
  obtain ⟨rfl, hP, hK, hN⟩ := hv
  have C : Cy p s m _ meth c cX9_callIn 4 wsX9_callIn RX9 D cA ad (some .int) := ⟨B.exec, B.bytes, hml, findClass_of_methodNamed B.named, atoms_spec (ws := wsX9_callIn) B.pre, hK, B.notSynchronized, B.returns, hI, hN⟩
  have hl := lv_entry ([.ref (ad 2), .int a1, .int a2]) (n := 4) (Nat.le_of_ble_eq_true rfl)
  rw [lg_entry_eq]
  generalize (lg_sl ([.ref (ad 2), .int a1, .int a2]) ++ List.replicate (4 - (lg_sl ([.ref (ad 2), .int a1, .int a2])).length) Slot.unset).toArray = ls at hl ⊢
  have hl : lv_has ls 4 [(0, .ref (ad 2)), (1, .int a1), (2, .int a2)] := hl
  have hS : va_S (AA ad) s.heap s.heap [] := va_S.rf
  have hF : Fr L_X9_callIn σ0 σ0 := Fr.rf
  have hFL : FrL LL_X9_callIn τ0 τ0 := FrL.rf
  have hA := A_X9_callIn p l e s m _ below meth c D cA ad σ0 τ0 a1 a2 C ha1 ha2 50
  have K2 := hA
  clear hA
  obtain ⟨hx, hb, _, hown, hts, _, hk, hr, _, _⟩ := C
  refine r_iconst hx hb dX9_callIn_0 (by decide) (fun z1 ez1 => ?_)
  refine lv_istore_n (lv' := [(3, .int z1), (0, .ref (ad 2)), (1, .int a1), (2, .int a2)]) hx hb dX9_callIn_1 rfl hl (by decide) rfl (fun ls hl => ?_)
  exact K2 σ0 τ0 s.heap [] z1 ls hR hF hFL hP hS (by omega) (lv_sub hl [1, 2, 3, 0] rfl) (by omega)
theorem in_X1_allSharers_1 : ∀ w ∈ u_ws RX1 TX1 9, w ∈ wsX1_allSharers := by decide +kernel
theorem lk_X1_allSharers_30 : Cond.fieldLink RX1 30 "CuckooShares$Camp" "sharers" "[I" ∈ wsX1_allSharers := by decide +kernel
abbrev L_X1_allSharers : List Rc := []
abbrev LL_X1_allSharers : List Rc := []
def P_X1_allSharers (σ0 : Nat → Nat → Int32) (τ0 : Nat → Nat → Int64)  (r : Int32) (σ : Nat → Nat → Int32) (τ : Nat → Nat → Int64) : Prop := Rg σ ∧ Fr L_X1_allSharers σ0 σ ∧ FrL LL_X1_allSharers τ0 τ
set_option maxHeartbeats 4000000 in
theorem c_X1_allSharers (l : Launch) (D : va_G) (cA : Nat → ClassId) (ad : Nat → Nat) (hI : Inj ad) (σ0 : Nat → Nat → Int32) (τ0 : Nat → Nat → Int64) (hR : Rg σ0)   : Met l yX1_allSharers wsX1_allSharers ({ frames := 0, cells := 0, slots := 0, locals := 0 } : Room) (WQc D cA ad [.ref (ad 21)] σ0 τ0) (va_Qi (fun (r : Int32) (u : SS) => P_X1_allSharers σ0 τ0 r u.1 u.2) (WB D cA ad) (AA ad)) 0 0 (AA ad) := by
  refine Met.ofW (cc := cX1_allSharers) (maxL := 1) (ret := (some .int)) (by decide) rfl ?_
  intro p e s m args below meth c s₁ B hml hv
  obtain ⟨rfl, hP, hK, hN⟩ := hv
  have C : Cy p s m _ meth c cX1_allSharers 1 wsX1_allSharers RX1 D cA ad (some .int) := ⟨B.exec, B.bytes, hml, findClass_of_methodNamed B.named, atoms_spec (ws := wsX1_allSharers) B.pre, hK, B.notSynchronized, B.returns, hI, hN⟩
  have hl := lv_entry ([.ref (ad 21)]) (n := 1) (Nat.le_of_ble_eq_true rfl)
  rw [lg_entry_eq]
  generalize (lg_sl ([.ref (ad 21)]) ++ List.replicate (1 - (lg_sl ([.ref (ad 21)])).length) Slot.unset).toArray = ls at hl ⊢
  have hl : lv_has ls 1 [(0, .ref (ad 21))] := hl
  have hS : va_S (AA ad) s.heap s.heap [] := va_S.rf
  have hF : Fr L_X1_allSharers σ0 σ0 := Fr.rf
  have hFL : FrL LL_X1_allSharers τ0 τ0 := FrL.rf
  obtain ⟨hx, hb, _, hown, hts, _, hk, hr, _, _⟩ := C
  refine lv_aload_n hx hb dX1_allSharers_0 rfl (lv_at hl 0 rfl) ?_
  refine fg_1_7 (k := 21) hx hb hts in_X1_allSharers_1 hown hK hP (by decide) (by decide) (hts _ lk_X1_allSharers_30) dX1_allSharers_1 ?_
  refine r_iconst hx hb dX1_allSharers_4 (by decide) (fun z1 ez1 => ?_)
  refine ad_two (k := 366) (j := 0) hx hb hK hP (by decide) (by decide) (by omega) (by omega) dX1_allSharers_5 ?_
  refine lv_aload_n hx hb dX1_allSharers_6 rfl (lv_at hl 0 rfl) ?_
  refine fg_1_7 (k := 21) hx hb hts in_X1_allSharers_1 hown hK hP (by decide) (by decide) (hts _ lk_X1_allSharers_30) dX1_allSharers_7 ?_
  refine r_iconst hx hb dX1_allSharers_10 (by decide) (fun z2 ez2 => ?_)
  refine ad_two (k := 366) (j := 1) hx hb hK hP (by decide) (by decide) (by omega) (by omega) dX1_allSharers_11 ?_
  refine r_iorU hx hb dX1_allSharers_12 (fun z3 => ?_)
  exact r_iret hx hb hr hK hP hS hk dX1_allSharers_13 (show P_X1_allSharers σ0 τ0 z3 σ0 τ0 from ⟨hR, hF, hFL⟩)
theorem in_X1_wheatFor_1 : ∀ w ∈ u_ws RX1 TX1 9, w ∈ wsX1_wheatFor := by decide +kernel
theorem lk_X1_wheatFor_27 : Cond.fieldLink RX1 27 "CuckooShares$Camp" "shareCall" "[I" ∈ wsX1_wheatFor := by decide +kernel
theorem lk_X1_wheatFor_33 : Cond.fieldLink RX1 33 "CuckooShares$Camp" "weights" "[I" ∈ wsX1_wheatFor := by decide +kernel
theorem lk_X1_wheatFor_36 : Cond.fieldLink RX1 36 "CuckooShares$Camp" "valley" "LCuckooShares$Valley;" ∈ wsX1_wheatFor := by decide +kernel
abbrev L_X1_wheatFor : List Rc := []
abbrev LL_X1_wheatFor : List Rc := []
def P_X1_wheatFor (σ0 : Nat → Nat → Int32) (τ0 : Nat → Nat → Int64) (a1 : Int32) (a2 : Int32) (r : Int32) (σ : Nat → Nat → Int32) (τ : Nat → Nat → Int64) : Prop := Rg σ ∧ Fr L_X1_wheatFor σ0 σ ∧ FrL LL_X1_wheatFor τ0 τ
set_option maxHeartbeats 4000000 in
theorem c_X1_wheatFor (l : Launch) (D : va_G) (cA : Nat → ClassId) (ad : Nat → Nat) (hI : Inj ad) (σ0 : Nat → Nat → Int32) (τ0 : Nat → Nat → Int64) (hR : Rg σ0) (a1 : Int32) (a2 : Int32) (ha1 : 0 ≤ a1.toInt ∧ a1.toInt ≤ 7) (ha2 : 0 ≤ a2.toInt) : Met l yX1_wheatFor wsX1_wheatFor ({ frames := 1, cells := 0, slots := 0, locals := 21 } : Room) (WQc D cA ad [.ref (ad 21), .int a1, .int a2] σ0 τ0) (va_Qi (fun (r : Int32) (u : SS) => P_X1_wheatFor σ0 τ0 a1 a2 r u.1 u.2) (WB D cA ad) (AA ad)) 0 0 (AA ad) := by
  refine Met.ofW (cc := cX1_wheatFor) (maxL := 6) (ret := (some .int)) (by decide) rfl ?_
  intro p e s m args below meth c s₁ B hml hv
  obtain ⟨rfl, hP, hK, hN⟩ := hv
  have C : Cy p s m _ meth c cX1_wheatFor 6 wsX1_wheatFor RX1 D cA ad (some .int) := ⟨B.exec, B.bytes, hml, findClass_of_methodNamed B.named, atoms_spec (ws := wsX1_wheatFor) B.pre, hK, B.notSynchronized, B.returns, hI, hN⟩
  have hl := lv_entry ([.ref (ad 21), .int a1, .int a2]) (n := 6) (Nat.le_of_ble_eq_true rfl)
  rw [lg_entry_eq]
  generalize (lg_sl ([.ref (ad 21), .int a1, .int a2]) ++ List.replicate (6 - (lg_sl ([.ref (ad 21), .int a1, .int a2])).length) Slot.unset).toArray = ls at hl ⊢
  have hl : lv_has ls 6 [(0, .ref (ad 21)), (1, .int a1), (2, .int a2)] := hl
  have hS : va_S (AA ad) s.heap s.heap [] := va_S.rf
  have hF : Fr L_X1_wheatFor σ0 σ0 := Fr.rf
  have hFL : FrL LL_X1_wheatFor τ0 τ0 := FrL.rf
  obtain ⟨hx, hb, _, hown, hts, _, hk, hr, _, _⟩ := C
  refine lv_aload_n hx hb dX1_wheatFor_0 rfl (lv_at hl 0 rfl) ?_
  refine lv_iload_n hx hb dX1_wheatFor_1 rfl (lv_at hl 1 rfl) ?_
  refine r_cVi (k := 21) (As := [.int a1]) (rest := []) ⟨hx, hb, hml, hown, hts⟩ hK hP hN hS (c_X1_sideOfShare l D cA ad hI σ0 τ0 hR a1 (by omega)) (cwV 1 hts gX1_wheatFor_X1_sideOfShare rfl rfl rfl (by decide +kernel) ⟨by decide, by decide⟩) (rv_Camp hK hP (by decide) (by decide)) rfl hl.1 rfl (Nat.le_of_ble_eq_true rfl) dX1_wheatFor_2 (Nat.zero_le _) (Nat.zero_le _) (fun r1 u1 H1 locs1 hp1 hP hS => ?_)
  obtain ⟨σ1, τ1⟩ := u1
  obtain ⟨hR, f1, fL1, hq1⟩ : P_X1_sideOfShare σ0 τ0 a1 r1 σ1 τ1 := hp1
  have hP : va_P D vwCl (gw cA ad σ1 τ1) H1 := hP
  obtain rfl := FrL.nil fL1
  obtain rfl := Fr.nil f1
  refine lv_istore_n (lv' := [(3, .int r1), (0, .ref (ad 21)), (1, .int a1), (2, .int a2)]) hx hb dX1_wheatFor_5 rfl hl (by decide) rfl (fun ls hl => ?_)
  refine lv_iload_n hx hb dX1_wheatFor_6 rfl (lv_at hl 0 rfl) ?_
  refine r_iconst hx hb dX1_wheatFor_7 (by decide) (fun z2 ez2 => ?_)
  refine r_icmp_ne (tgt := 13) hx hb dX1_wheatFor_8 (by decide) (fun c3 => ?_) (fun c3 => ?_)
  · refine lv_aload_n hx hb dX1_wheatFor_13 rfl (lv_at hl 1 rfl) ?_
    refine fg_1_0 (k := 21) hx hb hts in_X1_wheatFor_1 hown hK hP (by decide) (by decide) (hts _ lk_X1_wheatFor_36) dX1_wheatFor_14 ?_
    refine lv_iload_n hx hb dX1_wheatFor_17 rfl (lv_at hl 2 rfl) ?_
    refine r_cVi (k := 2) (As := [.int a1]) (rest := []) ⟨hx, hb, hml, hown, hts⟩ hK hP hN hS (c_X9_weight l D cA ad hI σ0 τ0 hR a1 (by omega)) (cwV 1 hts gX1_wheatFor_X9_weight rfl rfl rfl (by decide +kernel) ⟨by decide, by decide⟩) (rv_Valley hK hP (by decide) (by decide)) rfl hl.1 rfl (Nat.le_of_ble_eq_true rfl) dX1_wheatFor_18 (Nat.zero_le _) (Nat.zero_le _) (fun r4 u4 H4 locs4 hp4 hP hS => ?_)
    obtain ⟨σ4, τ4⟩ := u4
    obtain ⟨hR, f4, fL4, hq4⟩ : P_X9_weight σ0 τ0 a1 r4 σ4 τ4 := hp4
    have hP : va_P D vwCl (gw cA ad σ4 τ4) H4 := hP
    obtain rfl := FrL.nil fL4
    obtain rfl := Fr.nil f4
    refine lv_istore (lv' := [(4, .int r4), (3, .int r1), (0, .ref (ad 21)), (1, .int a1), (2, .int a2)]) hx hb dX1_wheatFor_21 hl (by decide) rfl (fun ls hl => ?_)
    refine lv_iload_n hx hb dX1_wheatFor_23 rfl (lv_at hl 4 rfl) ?_
    refine lv_aload_n hx hb dX1_wheatFor_24 rfl (lv_at hl 2 rfl) ?_
    refine fg_1_8 (k := 21) hx hb hts in_X1_wheatFor_1 hown hK hP (by decide) (by decide) (hts _ lk_X1_wheatFor_33) dX1_wheatFor_25 ?_
    refine lv_iload_n hx hb dX1_wheatFor_28 rfl (lv_at hl 1 rfl) ?_
    obtain ⟨j5, ej5⟩ : ∃ j : Nat, r1.toInt = (j : Int) := ⟨_, ti_nat (by omega)⟩
    refine ad_two (k := 367) (j := j5) hx hb hK hP (by decide) (by decide) ej5 (by omega) dX1_wheatFor_29 ?_
    refine r_imulU hx hb dX1_wheatFor_30 (fun z6 => ?_)
    refine lv_iload hx hb dX1_wheatFor_31 (lv_at hl 0 rfl) ?_
    refine r_iaddU hx hb dX1_wheatFor_33 (fun z7 => ?_)
    refine r_iconst hx hb dX1_wheatFor_34 (by decide) (fun z8 ez8 => ?_)
    refine r_isubU hx hb dX1_wheatFor_35 (fun z9 => ?_)
    refine lv_iload hx hb dX1_wheatFor_36 (lv_at hl 0 rfl) ?_
    refine r_idiv hx hb dX1_wheatFor_38 (by omega) (fun z10 => ?_)
    refine lv_istore (lv' := [(5, .int z10), (4, .int r4), (3, .int r1), (0, .ref (ad 21)), (1, .int a1), (2, .int a2)]) hx hb dX1_wheatFor_39 hl (by decide) rfl (fun ls hl => ?_)
    refine lv_aload_n hx hb dX1_wheatFor_41 rfl (lv_at hl 3 rfl) ?_
    refine fg_1_6 (k := 21) hx hb hts in_X1_wheatFor_1 hown hK hP (by decide) (by decide) (hts _ lk_X1_wheatFor_27) dX1_wheatFor_42 ?_
    refine lv_iload_n hx hb dX1_wheatFor_45 rfl (lv_at hl 2 rfl) ?_
    refine ad_two (k := 365) (j := j5) hx hb hK hP (by decide) (by decide) ej5 (by omega) dX1_wheatFor_46 ?_
    refine r_bipush hx hb dX1_wheatFor_47 (by decide) (fun z11 ez11 => ?_)
    refine r_icmp_ne (tgt := 59) hx hb dX1_wheatFor_49 (by decide) (fun c12 => ?_) (fun c12 => ?_)
    · refine lv_iload hx hb dX1_wheatFor_59 (lv_at hl 0 rfl) ?_
      exact r_iret hx hb hr hK hP hS hk dX1_wheatFor_61 (show P_X1_wheatFor σ0 τ0 a1 a2 z10 σ0 τ0 from ⟨hR, hF, hFL⟩)
    · refine r_iconst hx hb dX1_wheatFor_52 (by decide) (fun z13 ez13 => ?_)
      refine lv_iload hx hb dX1_wheatFor_53 (lv_at hl 0 rfl) ?_
      refine r_imulU hx hb dX1_wheatFor_55 (fun z14 => ?_)
      refine lv_goto (tgt := 61) hx hb dX1_wheatFor_56 (by decide) ?_
      exact r_iret hx hb hr hK hP hS hk dX1_wheatFor_61 (show P_X1_wheatFor σ0 τ0 a1 a2 z14 σ0 τ0 from ⟨hR, hF, hFL⟩)
  · refine r_iconst hx hb dX1_wheatFor_11 (by decide) (fun z15 ez15 => ?_)
    exact r_iret hx hb hr hK hP hS hk dX1_wheatFor_12 (show P_X1_wheatFor σ0 τ0 a1 a2 z15 σ0 τ0 from ⟨hR, hF, hFL⟩)
theorem in_X9_allMen_9 : ∀ w ∈ u_ws RX9 TX9 14, w ∈ wsX9_allMen := by decide +kernel
theorem lk_X9_allMen_52 : Cond.fieldLink RX9 52 "CuckooShares$Valley" "men" "I" ∈ wsX9_allMen := by decide +kernel
abbrev L_X9_allMen : List Rc := []
abbrev LL_X9_allMen : List Rc := []
def P_X9_allMen (σ0 : Nat → Nat → Int32) (τ0 : Nat → Nat → Int64)  (r : Int32) (σ : Nat → Nat → Int32) (τ : Nat → Nat → Int64) : Prop := Rg σ ∧ Fr L_X9_allMen σ0 σ ∧ FrL LL_X9_allMen τ0 τ
set_option maxHeartbeats 4000000 in
theorem c_X9_allMen (l : Launch) (D : va_G) (cA : Nat → ClassId) (ad : Nat → Nat) (hI : Inj ad) (σ0 : Nat → Nat → Int32) (τ0 : Nat → Nat → Int64) (hR : Rg σ0)   : Met l yX9_allMen wsX9_allMen ({ frames := 0, cells := 0, slots := 0, locals := 0 } : Room) (WQc D cA ad [.ref (ad 2)] σ0 τ0) (va_Qi (fun (r : Int32) (u : SS) => P_X9_allMen σ0 τ0 r u.1 u.2) (WB D cA ad) (AA ad)) 0 0 (AA ad) := by
  refine Met.ofW (cc := cX9_allMen) (maxL := 1) (ret := (some .int)) (by decide) rfl ?_
  intro p e s m args below meth c s₁ B hml hv
  obtain ⟨rfl, hP, hK, hN⟩ := hv
  have C : Cy p s m _ meth c cX9_allMen 1 wsX9_allMen RX9 D cA ad (some .int) := ⟨B.exec, B.bytes, hml, findClass_of_methodNamed B.named, atoms_spec (ws := wsX9_allMen) B.pre, hK, B.notSynchronized, B.returns, hI, hN⟩
  have hl := lv_entry ([.ref (ad 2)]) (n := 1) (Nat.le_of_ble_eq_true rfl)
  rw [lg_entry_eq]
  generalize (lg_sl ([.ref (ad 2)]) ++ List.replicate (1 - (lg_sl ([.ref (ad 2)])).length) Slot.unset).toArray = ls at hl ⊢
  have hl : lv_has ls 1 [(0, .ref (ad 2))] := hl
  have hS : va_S (AA ad) s.heap s.heap [] := va_S.rf
  have hF : Fr L_X9_allMen σ0 σ0 := Fr.rf
  have hFL : FrL LL_X9_allMen τ0 τ0 := FrL.rf
  obtain ⟨hx, hb, _, hown, hts, _, hk, hr, _, _⟩ := C
  refine r_iconst hx hb dX9_allMen_0 (by decide) (fun z1 ez1 => ?_)
  refine lv_aload_n hx hb dX9_allMen_1 rfl (lv_at hl 0 rfl) ?_
  refine fg_9_5 (k := 2) hx hb hts in_X9_allMen_9 hown hK hP (by decide) (by decide) (hts _ lk_X9_allMen_52) dX9_allMen_2 ?_
  have hr2 := rg_9_5 hR (k := 2) (by decide) (by decide)
  refine r_ishlU hx hb dX9_allMen_5 (fun z3 => ?_)
  refine r_iconst hx hb dX9_allMen_6 (by decide) (fun z4 ez4 => ?_)
  refine r_isubU hx hb dX9_allMen_7 (fun z5 => ?_)
  exact r_iret hx hb hr hK hP hS hk dX9_allMen_8 (show P_X9_allMen σ0 τ0 z5 σ0 τ0 from ⟨hR, hF, hFL⟩)
theorem lk_J6_bitCount_0f7a4_265 : Cond.constant RJ6 265 (1431655765) ∈ wsJ6_bitCount_0f7a4 := by decide +kernel
theorem lk_J6_bitCount_0f7a4_266 : Cond.constant RJ6 266 (858993459) ∈ wsJ6_bitCount_0f7a4 := by decide +kernel
theorem lk_J6_bitCount_0f7a4_267 : Cond.constant RJ6 267 (252645135) ∈ wsJ6_bitCount_0f7a4 := by decide +kernel
abbrev L_J6_bitCount_0f7a4 : List Rc := []
abbrev LL_J6_bitCount_0f7a4 : List Rc := []
def P_J6_bitCount_0f7a4 (σ0 : Nat → Nat → Int32) (τ0 : Nat → Nat → Int64) (a0 : Int32) (r : Int32) (σ : Nat → Nat → Int32) (τ : Nat → Nat → Int64) : Prop := Rg σ ∧ Fr L_J6_bitCount_0f7a4 σ0 σ ∧ FrL LL_J6_bitCount_0f7a4 τ0 τ ∧ (0 ≤ r.toInt ∧ r.toInt ≤ 63)
set_option maxHeartbeats 4000000 in
theorem c_J6_bitCount_0f7a4 (l : Launch) (D : va_G) (cA : Nat → ClassId) (ad : Nat → Nat) (hI : Inj ad) (σ0 : Nat → Nat → Int32) (τ0 : Nat → Nat → Int64) (hR : Rg σ0) (a0 : Int32)  : Met l yJ6_bitCount_0f7a4 wsJ6_bitCount_0f7a4 ({ frames := 0, cells := 0, slots := 0, locals := 0 } : Room) (WQc D cA ad [.int a0] σ0 τ0) (va_Qi (fun (r : Int32) (u : SS) => P_J6_bitCount_0f7a4 σ0 τ0 a0 r u.1 u.2) (WB D cA ad) (AA ad)) 0 0 (AA ad) := by
  refine Met.ofW (cc := cJ6_bitCount_0f7a4) (maxL := 1) (ret := (some .int)) (by decide) rfl ?_
  intro p e s m args below meth c s₁ B hml hv
  obtain ⟨rfl, hP, hK, hN⟩ := hv
  have C : Cy p s m _ meth c cJ6_bitCount_0f7a4 1 wsJ6_bitCount_0f7a4 RJ6 D cA ad (some .int) := ⟨B.exec, B.bytes, hml, findClass_of_methodNamed B.named, atoms_spec (ws := wsJ6_bitCount_0f7a4) B.pre, hK, B.notSynchronized, B.returns, hI, hN⟩
  have hl := lv_entry ([.int a0]) (n := 1) (Nat.le_of_ble_eq_true rfl)
  rw [lg_entry_eq]
  generalize (lg_sl ([.int a0]) ++ List.replicate (1 - (lg_sl ([.int a0])).length) Slot.unset).toArray = ls at hl ⊢
  have hl : lv_has ls 1 [(0, .int a0)] := hl
  have hS : va_S (AA ad) s.heap s.heap [] := va_S.rf
  have hF : Fr L_J6_bitCount_0f7a4 σ0 σ0 := Fr.rf
  have hFL : FrL LL_J6_bitCount_0f7a4 τ0 τ0 := FrL.rf
  obtain ⟨hx, hb, _, hown, hts, _, hk, hr, _, _⟩ := C
  refine lv_iload_n hx hb dJ6_bitCount_0f7a4_0 rfl (lv_at hl 0 rfl) ?_
  refine lv_iload_n hx hb dJ6_bitCount_0f7a4_1 rfl (lv_at hl 0 rfl) ?_
  refine r_iconst hx hb dJ6_bitCount_0f7a4_2 (by decide) (fun z1 ez1 => ?_)
  refine r_iushrU hx hb dJ6_bitCount_0f7a4_3 (fun z2 => ?_)
  refine r_ldcw (v := 1431655765) (n := 1431655765) hx hb hown (hts _ lk_J6_bitCount_0f7a4_265) dJ6_bitCount_0f7a4_4 (by decide) (fun z3 ez3 => ?_)
  refine r_iandU hx hb dJ6_bitCount_0f7a4_7 (fun z4 => ?_)
  refine r_isubU hx hb dJ6_bitCount_0f7a4_8 (fun z5 => ?_)
  refine lv_istore_n (lv' := [(0, .int z5)]) hx hb dJ6_bitCount_0f7a4_9 rfl hl (by decide) rfl (fun ls hl => ?_)
  refine lv_iload_n hx hb dJ6_bitCount_0f7a4_10 rfl (lv_at hl 0 rfl) ?_
  refine r_ldcw (v := 858993459) (n := 858993459) hx hb hown (hts _ lk_J6_bitCount_0f7a4_266) dJ6_bitCount_0f7a4_11 (by decide) (fun z6 ez6 => ?_)
  refine r_iandU hx hb dJ6_bitCount_0f7a4_14 (fun z7 => ?_)
  refine lv_iload_n hx hb dJ6_bitCount_0f7a4_15 rfl (lv_at hl 0 rfl) ?_
  refine r_iconst hx hb dJ6_bitCount_0f7a4_16 (by decide) (fun z8 ez8 => ?_)
  refine r_iushrU hx hb dJ6_bitCount_0f7a4_17 (fun z9 => ?_)
  refine r_ldcw (v := 858993459) (n := 858993459) hx hb hown (hts _ lk_J6_bitCount_0f7a4_266) dJ6_bitCount_0f7a4_18 (by decide) (fun z10 ez10 => ?_)
  refine r_iandU hx hb dJ6_bitCount_0f7a4_21 (fun z11 => ?_)
  refine r_iaddU hx hb dJ6_bitCount_0f7a4_22 (fun z12 => ?_)
  refine lv_istore_n (lv' := [(0, .int z12)]) hx hb dJ6_bitCount_0f7a4_23 rfl hl (by decide) rfl (fun ls hl => ?_)
  refine lv_iload_n hx hb dJ6_bitCount_0f7a4_24 rfl (lv_at hl 0 rfl) ?_
  refine lv_iload_n hx hb dJ6_bitCount_0f7a4_25 rfl (lv_at hl 0 rfl) ?_
  refine r_iconst hx hb dJ6_bitCount_0f7a4_26 (by decide) (fun z13 ez13 => ?_)
  refine r_iushrU hx hb dJ6_bitCount_0f7a4_27 (fun z14 => ?_)
  refine r_iaddU hx hb dJ6_bitCount_0f7a4_28 (fun z15 => ?_)
  refine r_ldcw (v := 252645135) (n := 252645135) hx hb hown (hts _ lk_J6_bitCount_0f7a4_267) dJ6_bitCount_0f7a4_29 (by decide) (fun z16 ez16 => ?_)
  refine r_iandU hx hb dJ6_bitCount_0f7a4_32 (fun z17 => ?_)
  refine lv_istore_n (lv' := [(0, .int z17)]) hx hb dJ6_bitCount_0f7a4_33 rfl hl (by decide) rfl (fun ls hl => ?_)
  refine lv_iload_n hx hb dJ6_bitCount_0f7a4_34 rfl (lv_at hl 0 rfl) ?_
  refine lv_iload_n hx hb dJ6_bitCount_0f7a4_35 rfl (lv_at hl 0 rfl) ?_
  refine r_bipush hx hb dJ6_bitCount_0f7a4_36 (by decide) (fun z18 ez18 => ?_)
  refine r_iushrU hx hb dJ6_bitCount_0f7a4_38 (fun z19 => ?_)
  refine r_iaddU hx hb dJ6_bitCount_0f7a4_39 (fun z20 => ?_)
  refine lv_istore_n (lv' := [(0, .int z20)]) hx hb dJ6_bitCount_0f7a4_40 rfl hl (by decide) rfl (fun ls hl => ?_)
  refine lv_iload_n hx hb dJ6_bitCount_0f7a4_41 rfl (lv_at hl 0 rfl) ?_
  refine lv_iload_n hx hb dJ6_bitCount_0f7a4_42 rfl (lv_at hl 0 rfl) ?_
  refine r_bipush hx hb dJ6_bitCount_0f7a4_43 (by decide) (fun z21 ez21 => ?_)
  refine r_iushrU hx hb dJ6_bitCount_0f7a4_45 (fun z22 => ?_)
  refine r_iaddU hx hb dJ6_bitCount_0f7a4_46 (fun z23 => ?_)
  refine lv_istore_n (lv' := [(0, .int z23)]) hx hb dJ6_bitCount_0f7a4_47 rfl hl (by decide) rfl (fun ls hl => ?_)
  refine lv_iload_n hx hb dJ6_bitCount_0f7a4_48 rfl (lv_at hl 0 rfl) ?_
  refine r_bipush hx hb dJ6_bitCount_0f7a4_49 (by decide) (fun z24 ez24 => ?_)
  refine r_iand (w := 63) hx hb 6 dJ6_bitCount_0f7a4_51 (by omega) (by decide) (fun z25 ez25 => ?_)
  exact r_iret hx hb hr hK hP hS hk dJ6_bitCount_0f7a4_52 (show P_J6_bitCount_0f7a4 σ0 τ0 a0 z25 σ0 τ0 from ⟨hR, hF, hFL, by omega⟩)
abbrev L_X1_putBoth : List Rc := [(360, 360, 0, 7), (361, 361, 0, 7), (362, 362, 0, 7), (363, 363, 0, 39)]
abbrev LL_X1_putBoth : List Rc := []
def P_X1_putBoth (σ0 : Nat → Nat → Int32) (τ0 : Nat → Nat → Int64) (a1 : Int32) (a2 : Int32) (a3 : Int32) (a4 : Int32) (σ : Nat → Nat → Int32) (τ : Nat → Nat → Int64) : Prop := Rg σ ∧ Fr L_X1_putBoth σ0 σ ∧ FrL LL_X1_putBoth τ0 τ
set_option maxHeartbeats 4000000 in
theorem c_X1_putBoth (l : Launch) (D : va_G) (cA : Nat → ClassId) (ad : Nat → Nat) (hI : Inj ad) (σ0 : Nat → Nat → Int32) (τ0 : Nat → Nat → Int64) (hR : Rg σ0) (a1 : Int32) (a2 : Int32) (a3 : Int32) (a4 : Int32) (ha1 : 0 ≤ a1.toInt ∧ a1.toInt ≤ 7) (ha3 : 1 ≤ a3.toInt ∧ a3.toInt ≤ 7) : Met l yX1_putBoth wsX1_putBoth ({ frames := 4, cells := 0, slots := 0, locals := 96 } : Room) (WQc D cA ad [.ref (ad 21), .int a1, .int a2, .int a3, .int a4] σ0 τ0) (va_Qv (fun u : SS => P_X1_putBoth σ0 τ0 a1 a2 a3 a4 u.1 u.2) (WB D cA ad) (AA ad)) 0 0 (AA ad) := by
  refine Met.ofW (cc := cX1_putBoth) (maxL := 5) (ret := none) (by decide) rfl ?_
  intro p e s m args below meth c s₁ B hml hv
  obtain ⟨rfl, hP, hK, hN⟩ := hv
  have C : Cy p s m _ meth c cX1_putBoth 5 wsX1_putBoth RX1 D cA ad none := ⟨B.exec, B.bytes, hml, findClass_of_methodNamed B.named, atoms_spec (ws := wsX1_putBoth) B.pre, hK, B.notSynchronized, B.returns, hI, hN⟩
  have hl := lv_entry ([.ref (ad 21), .int a1, .int a2, .int a3, .int a4]) (n := 5) (Nat.le_of_ble_eq_true rfl)
  rw [lg_entry_eq]
  generalize (lg_sl ([.ref (ad 21), .int a1, .int a2, .int a3, .int a4]) ++ List.replicate (5 - (lg_sl ([.ref (ad 21), .int a1, .int a2, .int a3, .int a4])).length) Slot.unset).toArray = ls at hl ⊢
  have hl : lv_has ls 5 [(0, .ref (ad 21)), (1, .int a1), (2, .int a2), (3, .int a3), (4, .int a4)] := hl
  have hS : va_S (AA ad) s.heap s.heap [] := va_S.rf
  have hF : Fr L_X1_putBoth σ0 σ0 := Fr.rf
  have hFL : FrL LL_X1_putBoth τ0 τ0 := FrL.rf
  obtain ⟨hx, hb, _, hown, hts, _, hk, hr, _, _⟩ := C
  refine lv_aload_n hx hb dX1_putBoth_0 rfl (lv_at hl 0 rfl) ?_
  refine lv_iload_n hx hb dX1_putBoth_1 rfl (lv_at hl 1 rfl) ?_
  refine lv_iload_n hx hb dX1_putBoth_2 rfl (lv_at hl 2 rfl) ?_
  refine r_cVv (k := 21) (As := [.int a1, .int a2]) (rest := []) ⟨hx, hb, hml, hown, hts⟩ hK hP hN hS (c_X1_putOnHill l D cA ad hI σ0 τ0 hR a1 a2 (by omega)) (cwV 2 hts gX1_putBoth_X1_putOnHill rfl rfl rfl (by decide +kernel) ⟨by decide, by decide⟩) (rv_Camp hK hP (by decide) (by decide)) rfl hl.1 rfl (Nat.le_of_ble_eq_true rfl) dX1_putBoth_3 (Nat.zero_le _) (Nat.zero_le _) (fun u1 H1 locs1 hp1 hP hS => ?_)
  obtain ⟨σ1, τ1⟩ := u1
  obtain ⟨hR, f1, fL1⟩ : P_X1_putOnHill σ0 τ0 a1 a2 σ1 τ1 := hp1
  have hP : va_P D vwCl (gw cA ad σ1 τ1) H1 := hP
  obtain rfl := FrL.nil fL1
  have hF := hF.step f1 (by decide)
  refine lv_aload_n hx hb dX1_putBoth_6 rfl (lv_at hl 0 rfl) ?_
  refine lv_iload_n hx hb dX1_putBoth_7 rfl (lv_at hl 3 rfl) ?_
  refine lv_iload hx hb dX1_putBoth_8 (lv_at hl 4 rfl) ?_
  refine r_cVv (k := 21) (As := [.int a3, .int a4]) (rest := []) ⟨hx, hb, hml, hown, hts⟩ hK hP hN hS (c_X1_putOnHill l D cA ad hI σ1 τ0 hR a3 a4 (by omega)) (cwV 2 hts gX1_putBoth_X1_putOnHill rfl rfl rfl (by decide +kernel) ⟨by decide, by decide⟩) (rv_Camp hK hP (by decide) (by decide)) rfl hl.1 rfl (Nat.le_of_ble_eq_true rfl) dX1_putBoth_10 (Nat.zero_le _) (Nat.zero_le _) (fun u2 H2 locs2 hp2 hP hS => ?_)
  obtain ⟨σ2, τ2⟩ := u2
  obtain ⟨hR, f2, fL2⟩ : P_X1_putOnHill σ1 τ0 a3 a4 σ2 τ2 := hp2
  have hP : va_P D vwCl (gw cA ad σ2 τ2) H2 := hP
  obtain rfl := FrL.nil fL2
  have hF := hF.step f2 (by decide)
  refine lv_aload_n hx hb dX1_putBoth_13 rfl (lv_at hl 0 rfl) ?_
  refine lv_iload_n hx hb dX1_putBoth_14 rfl (lv_at hl 1 rfl) ?_
  refine r_cVv (k := 21) (As := [.int a1]) (rest := []) ⟨hx, hb, hml, hown, hts⟩ hK hP hN hS (c_X1_listenAgain l D cA ad hI σ2 τ0 hR a1 (by omega)) (cwV 1 hts gX1_putBoth_X1_listenAgain rfl rfl rfl (by decide +kernel) ⟨by decide, by decide⟩) (rv_Camp hK hP (by decide) (by decide)) rfl hl.1 rfl (Nat.le_of_ble_eq_true rfl) dX1_putBoth_15 (Nat.zero_le _) (Nat.zero_le _) (fun u3 H3 locs3 hp3 hP hS => ?_)
  obtain ⟨σ3, τ3⟩ := u3
  obtain ⟨hR, f3, fL3⟩ : P_X1_listenAgain σ2 τ0 a1 σ3 τ3 := hp3
  have hP : va_P D vwCl (gw cA ad σ3 τ3) H3 := hP
  obtain rfl := FrL.nil fL3
  have hF := hF.step f3 (by decide)
  refine lv_aload_n hx hb dX1_putBoth_18 rfl (lv_at hl 0 rfl) ?_
  refine lv_iload_n hx hb dX1_putBoth_19 rfl (lv_at hl 3 rfl) ?_
  refine r_cVv (k := 21) (As := [.int a3]) (rest := []) ⟨hx, hb, hml, hown, hts⟩ hK hP hN hS (c_X1_listenAgain l D cA ad hI σ3 τ0 hR a3 (by omega)) (cwV 1 hts gX1_putBoth_X1_listenAgain rfl rfl rfl (by decide +kernel) ⟨by decide, by decide⟩) (rv_Camp hK hP (by decide) (by decide)) rfl hl.1 rfl (Nat.le_of_ble_eq_true rfl) dX1_putBoth_20 (Nat.zero_le _) (Nat.zero_le _) (fun u4 H4 locs4 hp4 hP hS => ?_)
  obtain ⟨σ4, τ4⟩ := u4
  obtain ⟨hR, f4, fL4⟩ : P_X1_listenAgain σ3 τ0 a3 σ4 τ4 := hp4
  have hP : va_P D vwCl (gw cA ad σ4 τ4) H4 := hP
  obtain rfl := FrL.nil fL4
  have hF := hF.step f4 (by decide)
  exact r_vret hx hb hr hK hP hS hk dX1_putBoth_23 (show P_X1_putBoth σ0 τ0 a1 a2 a3 a4 σ4 τ0 from ⟨hR, hF, hFL⟩)
theorem in_X1_bothGain_1 : ∀ w ∈ u_ws RX1 TX1 9, w ∈ wsX1_bothGain := by decide +kernel
theorem in_X1_bothGain_2 : ∀ w ∈ u_ws RX2 TX2 7, w ∈ wsX1_bothGain := by decide +kernel
theorem lk_X1_bothGain_24 : Cond.fieldLink RX1 24 "CuckooShares$Camp" "noted" "[I" ∈ wsX1_bothGain := by decide +kernel
abbrev L_X1_bothGain : List Rc := [(360, 360, 0, 7), (361, 361, 0, 7), (362, 362, 0, 7), (363, 363, 0, 39), (365, 365, 0, 1), (366, 366, 0, 1), (367, 367, 0, 1)]
abbrev LL_X1_bothGain : List Rc := []
def P_X1_bothGain (σ0 : Nat → Nat → Int32) (τ0 : Nat → Nat → Int64) (a1 : Int32) (a2 : Int32) (r : Int32) (σ : Nat → Nat → Int32) (τ : Nat → Nat → Int64) : Prop := Rg σ ∧ Fr L_X1_bothGain σ0 σ ∧ FrL LL_X1_bothGain τ0 τ ∧ (0 ≤ r.toInt ∧ r.toInt ≤ 1)
def J_X1_bothGain_68 (p : Program) (l : Launch) (e : Env) (s : State) (m : MethodId) (args : Array Value) (below : List Frame) (meth : Method) (c : Code) (D : va_G) (cA : Nat → ClassId) (ad : Nat → Nat) (σ0 : Nat → Nat → Int32) (τ0 : Nat → Nat → Int64) (a1 : Int32) (a2 : Int32) (n : Nat) : Prop := ∀ (σ : Nat → Nat → Int32) (τ : Nat → Nat → Int64) (H : Heap) (locs : List Loc) (w0 : Int32) (ls : Array Slot), Rg σ → Fr L_X1_bothGain σ0 σ → FrL LL_X1_bothGain τ0 τ → va_P D vwCl (gw cA ad σ τ) H → va_S (AA ad) s.heap H locs → (0 ≤ w0.toInt ∧ w0.toInt ≤ 1) → lv_has ls 5 [(0, .ref (ad 21)), (1, .int a1), (2, .int a2), (3, .ref (ad 7))] → 1 < (n : Int) → W p l e ({ frames := 5, cells := 0, slots := 0, locals := 120 } : Room) s m args below meth c H locs 0 0 (MQ below (va_Qi (fun (r : Int32) (u : SS) => P_X1_bothGain σ0 τ0 a1 a2 r u.1 u.2) (WB D cA ad) (AA ad)) args s 0 0 (AA ad)) (F0 m 68 ls [.int w0])
set_option maxHeartbeats 4000000 in
theorem B_X1_bothGain_68 (p : Program) (l : Launch) (e : Env) (s : State) (m : MethodId) (args : Array Value) (below : List Frame) (meth : Method) (c : Code) (D : va_G) (cA : Nat → ClassId) (ad : Nat → Nat) (σ0 : Nat → Nat → Int32) (τ0 : Nat → Nat → Int64) (a1 : Int32) (a2 : Int32) (n : Nat) (C : Cy p s m args meth c cX1_bothGain 5 wsX1_bothGain RX1 D cA ad (some .boolean)) (ha1 : 0 ≤ a1.toInt ∧ a1.toInt ≤ 7) (ha2 : 1 ≤ a2.toInt ∧ a2.toInt ≤ 7) (K68 : J_X1_bothGain_68 p l e s m args below meth c D cA ad σ0 τ0 a1 a2 n) : J_X1_bothGain_68 p l e s m args below meth c D cA ad σ0 τ0 a1 a2 (n + 1) := by
  obtain ⟨hx, hb, hml, hown, hts, hK, hk, hr, hI, hN⟩ := C
  intro σ τ H locs w0 ls hR hF hFL hP hS hc0 hl hm
  obtain rfl := FrL.nil hFL
  refine lv_istore (lv' := [(4, .int w0), (0, .ref (ad 21)), (1, .int a1), (2, .int a2), (3, .ref (ad 7))]) hx hb dX1_bothGain_68 hl (by decide) rfl (fun ls hl => ?_)
  refine lv_aload_n hx hb dX1_bothGain_70 rfl (lv_at hl 1 rfl) ?_
  refine lv_iload_n hx hb dX1_bothGain_71 rfl (lv_at hl 2 rfl) ?_
  refine lv_aload_n hx hb dX1_bothGain_72 rfl (lv_at hl 4 rfl) ?_
  refine fgN_2_3 (k := 7) hx hb hts in_X1_bothGain_2 hown hK hP (by decide) (by decide) (hN.use nw_1_46) dX1_bothGain_73 ?_
  refine lv_iload_n hx hb dX1_bothGain_76 rfl (lv_at hl 2 rfl) ?_
  obtain ⟨j1, ej1⟩ : ∃ j : Nat, a1.toInt = (j : Int) := ⟨_, ti_nat (by omega)⟩
  refine ad_days8 (k := 308) (j := j1) hx hb hK hP (by decide) (by decide) ej1 (by omega) dX1_bothGain_77 ?_
  refine lv_iload_n hx hb dX1_bothGain_78 rfl (lv_at hl 3 rfl) ?_
  refine lv_aload_n hx hb dX1_bothGain_79 rfl (lv_at hl 4 rfl) ?_
  refine fgN_2_3 (k := 7) hx hb hts in_X1_bothGain_2 hown hK hP (by decide) (by decide) (hN.use nw_1_46) dX1_bothGain_80 ?_
  refine lv_iload_n hx hb dX1_bothGain_83 rfl (lv_at hl 3 rfl) ?_
  obtain ⟨j2, ej2⟩ : ∃ j : Nat, a2.toInt = (j : Int) := ⟨_, ti_nat (by omega)⟩
  refine ad_days8 (k := 308) (j := j2) hx hb hK hP (by decide) (by decide) ej2 (by omega) dX1_bothGain_84 ?_
  refine r_cVv (k := 21) (As := [.int a1, .int (σ 308 j1), .int a2, .int (σ 308 j2)]) (rest := []) ⟨hx, hb, hml, hown, hts⟩ hK hP hN hS (c_X1_putBoth l D cA ad hI σ τ0 hR a1 (σ 308 j1) a2 (σ 308 j2) (by omega) (by omega)) (cwV 4 hts gX1_bothGain_X1_putBoth rfl rfl rfl (by decide +kernel) ⟨by decide, by decide⟩) (rv_Camp hK hP (by decide) (by decide)) rfl hl.1 rfl (Nat.le_of_ble_eq_true rfl) dX1_bothGain_85 (Nat.zero_le _) (Nat.zero_le _) (fun u3 H3 locs3 hp3 hP hS => ?_)
  obtain ⟨σ3, τ3⟩ := u3
  obtain ⟨hR, f3, fL3⟩ : P_X1_putBoth σ τ0 a1 (σ 308 j1) a2 (σ 308 j2) σ3 τ3 := hp3
  have hP : va_P D vwCl (gw cA ad σ3 τ3) H3 := hP
  obtain rfl := FrL.nil fL3
  have hF := hF.step f3 (by decide)
  refine lv_iload hx hb dX1_bothGain_88 (lv_at hl 0 rfl) ?_
  exact r_zret hx hb hr hK hP hS hk (by omega) dX1_bothGain_90 (show P_X1_bothGain σ0 τ0 a1 a2 w0 σ3 τ0 from ⟨hR, hF, hFL, by omega⟩)
theorem A_X1_bothGain (p : Program) (l : Launch) (e : Env) (s : State) (m : MethodId) (args : Array Value) (below : List Frame) (meth : Method) (c : Code) (D : va_G) (cA : Nat → ClassId) (ad : Nat → Nat) (σ0 : Nat → Nat → Int32) (τ0 : Nat → Nat → Int64) (a1 : Int32) (a2 : Int32) (C : Cy p s m args meth c cX1_bothGain 5 wsX1_bothGain RX1 D cA ad (some .boolean)) (ha1 : 0 ≤ a1.toInt ∧ a1.toInt ≤ 7) (ha2 : 1 ≤ a2.toInt ∧ a2.toInt ≤ 7) : ∀ n : Nat, J_X1_bothGain_68 p l e s m args below meth c D cA ad σ0 τ0 a1 a2 n := by
  intro n
  induction n with
  | zero =>
    exact (by intro σ τ H locs w0 ls hR hF hFL hP hS hc0 hl hm; exfalso; omega)
  | succ n ih =>
    exact B_X1_bothGain_68 p l e s m args below meth c D cA ad σ0 τ0 a1 a2 n C ha1 ha2 ih
set_option maxHeartbeats 4000000 in
theorem c_X1_bothGain (l : Launch) (D : va_G) (cA : Nat → ClassId) (ad : Nat → Nat) (hI : Inj ad) (σ0 : Nat → Nat → Int32) (τ0 : Nat → Nat → Int64) (hR : Rg σ0) (a1 : Int32) (a2 : Int32) (ha1 : 0 ≤ a1.toInt ∧ a1.toInt ≤ 7) (ha2 : 1 ≤ a2.toInt ∧ a2.toInt ≤ 7) : Met l yX1_bothGain wsX1_bothGain ({ frames := 5, cells := 0, slots := 0, locals := 120 } : Room) (WQc D cA ad [.ref (ad 21), .int a1, .int a2, .ref (ad 7)] σ0 τ0) (va_Qi (fun (r : Int32) (u : SS) => P_X1_bothGain σ0 τ0 a1 a2 r u.1 u.2) (WB D cA ad) (AA ad)) 0 0 (AA ad) := by
  refine Met.ofW (cc := cX1_bothGain) (maxL := 5) (ret := (some .boolean)) (by decide) rfl ?_
  intro p e s m args below meth c s₁ B hml hv
  obtain ⟨rfl, hP, hK, hN⟩ := hv
  have C : Cy p s m _ meth c cX1_bothGain 5 wsX1_bothGain RX1 D cA ad (some .boolean) := ⟨B.exec, B.bytes, hml, findClass_of_methodNamed B.named, atoms_spec (ws := wsX1_bothGain) B.pre, hK, B.notSynchronized, B.returns, hI, hN⟩
  have hl := lv_entry ([.ref (ad 21), .int a1, .int a2, .ref (ad 7)]) (n := 5) (Nat.le_of_ble_eq_true rfl)
  rw [lg_entry_eq]
  generalize (lg_sl ([.ref (ad 21), .int a1, .int a2, .ref (ad 7)]) ++ List.replicate (5 - (lg_sl ([.ref (ad 21), .int a1, .int a2, .ref (ad 7)])).length) Slot.unset).toArray = ls at hl ⊢
  have hl : lv_has ls 5 [(0, .ref (ad 21)), (1, .int a1), (2, .int a2), (3, .ref (ad 7))] := hl
  have hS : va_S (AA ad) s.heap s.heap [] := va_S.rf
  have hF : Fr L_X1_bothGain σ0 σ0 := Fr.rf
  have hFL : FrL LL_X1_bothGain τ0 τ0 := FrL.rf
  have hA := A_X1_bothGain p l e s m _ below meth c D cA ad σ0 τ0 a1 a2 C ha1 ha2 6
  have K68 := hA
  clear hA
  obtain ⟨hx, hb, _, hown, hts, _, hk, hr, _, _⟩ := C
  refine lv_aload_n hx hb dX1_bothGain_0 rfl (lv_at hl 3 rfl) ?_
  refine fgN_2_3 (k := 7) hx hb hts in_X1_bothGain_2 hown hK hP (by decide) (by decide) (hN.use nw_1_46) dX1_bothGain_1 ?_
  refine lv_iload_n hx hb dX1_bothGain_4 rfl (lv_at hl 1 rfl) ?_
  obtain ⟨j1, ej1⟩ : ∃ j : Nat, a1.toInt = (j : Int) := ⟨_, ti_nat (by omega)⟩
  refine ad_days8 (k := 308) (j := j1) hx hb hK hP (by decide) (by decide) ej1 (by omega) dX1_bothGain_5 ?_
  refine lv_aload_n hx hb dX1_bothGain_6 rfl (lv_at hl 3 rfl) ?_
  refine fgN_2_3 (k := 7) hx hb hts in_X1_bothGain_2 hown hK hP (by decide) (by decide) (hN.use nw_1_46) dX1_bothGain_7 ?_
  refine lv_iload_n hx hb dX1_bothGain_10 rfl (lv_at hl 2 rfl) ?_
  obtain ⟨j2, ej2⟩ : ∃ j : Nat, a2.toInt = (j : Int) := ⟨_, ti_nat (by omega)⟩
  refine ad_days8 (k := 308) (j := j2) hx hb hK hP (by decide) (by decide) ej2 (by omega) dX1_bothGain_11 ?_
  refine r_icmp_ne (tgt := 17) hx hb dX1_bothGain_12 (by decide) (fun c3 => ?_) (fun c3 => ?_)
  · refine lv_aload_n hx hb dX1_bothGain_17 rfl (lv_at hl 0 rfl) ?_
    refine lv_iload_n hx hb dX1_bothGain_18 rfl (lv_at hl 1 rfl) ?_
    refine lv_aload_n hx hb dX1_bothGain_19 rfl (lv_at hl 3 rfl) ?_
    refine fgN_2_3 (k := 7) hx hb hts in_X1_bothGain_2 hown hK hP (by decide) (by decide) (hN.use nw_1_46) dX1_bothGain_20 ?_
    refine lv_iload_n hx hb dX1_bothGain_23 rfl (lv_at hl 2 rfl) ?_
    refine ad_days8 (k := 308) (j := j2) hx hb hK hP (by decide) (by decide) ej2 (by omega) dX1_bothGain_24 ?_
    refine lv_iload_n hx hb dX1_bothGain_25 rfl (lv_at hl 2 rfl) ?_
    refine lv_aload_n hx hb dX1_bothGain_26 rfl (lv_at hl 3 rfl) ?_
    refine fgN_2_3 (k := 7) hx hb hts in_X1_bothGain_2 hown hK hP (by decide) (by decide) (hN.use nw_1_46) dX1_bothGain_27 ?_
    refine lv_iload_n hx hb dX1_bothGain_30 rfl (lv_at hl 1 rfl) ?_
    refine ad_days8 (k := 308) (j := j1) hx hb hK hP (by decide) (by decide) ej1 (by omega) dX1_bothGain_31 ?_
    refine r_cVv (k := 21) (As := [.int a1, .int (σ0 308 j2), .int a2, .int (σ0 308 j1)]) (rest := []) ⟨hx, hb, hml, hown, hts⟩ hK hP hN hS (c_X1_putBoth l D cA ad hI σ0 τ0 hR a1 (σ0 308 j2) a2 (σ0 308 j1) (by omega) (by omega)) (cwV 4 hts gX1_bothGain_X1_putBoth rfl rfl rfl (by decide +kernel) ⟨by decide, by decide⟩) (rv_Camp hK hP (by decide) (by decide)) rfl hl.1 rfl (Nat.le_of_ble_eq_true rfl) dX1_bothGain_32 (Nat.zero_le _) (Nat.zero_le _) (fun u4 H4 locs4 hp4 hP hS => ?_)
    obtain ⟨σ4, τ4⟩ := u4
    obtain ⟨hR, f4, fL4⟩ : P_X1_putBoth σ0 τ0 a1 (σ0 308 j2) a2 (σ0 308 j1) σ4 τ4 := hp4
    have hP : va_P D vwCl (gw cA ad σ4 τ4) H4 := hP
    obtain rfl := FrL.nil fL4
    have hF := hF.step f4 (by decide)
    refine lv_aload_n hx hb dX1_bothGain_35 rfl (lv_at hl 0 rfl) ?_
    refine lv_iload_n hx hb dX1_bothGain_36 rfl (lv_at hl 1 rfl) ?_
    refine r_cVi (k := 21) (As := [.int a1]) (rest := []) ⟨hx, hb, hml, hown, hts⟩ hK hP hN hS (c_X1_weighedShare l D cA ad hI σ4 τ0 hR a1 (by omega)) (cwV 1 hts gX1_bothGain_X1_weighedShare rfl rfl rfl (by decide +kernel) ⟨by decide, by decide⟩) (rv_Camp hK hP (by decide) (by decide)) rfl hl.1 rfl (Nat.le_of_ble_eq_true rfl) dX1_bothGain_37 (Nat.zero_le _) (Nat.zero_le _) (fun r5 u5 H5 locs5 hp5 hP hS => ?_)
    obtain ⟨σ5, τ5⟩ := u5
    obtain ⟨hR, f5, fL5⟩ : P_X1_weighedShare σ4 τ0 a1 r5 σ5 τ5 := hp5
    have hP : va_P D vwCl (gw cA ad σ5 τ5) H5 := hP
    obtain rfl := FrL.nil fL5
    have hF := hF.step f5 (by decide)
    refine lv_aload_n hx hb dX1_bothGain_40 rfl (lv_at hl 0 rfl) ?_
    refine fg_1_5 (k := 21) hx hb hts in_X1_bothGain_1 hown hK hP (by decide) (by decide) (hts _ lk_X1_bothGain_24) dX1_bothGain_41 ?_
    refine lv_iload_n hx hb dX1_bothGain_44 rfl (lv_at hl 1 rfl) ?_
    refine ad_noted (k := 364) (j := j1) hx hb hK hP (by decide) (by decide) ej1 (by omega) dX1_bothGain_45 ?_
    refine r_icmp_le (tgt := 67) hx hb dX1_bothGain_46 (by decide) (fun c6 => ?_) (fun c6 => ?_)
    · refine r_iconst hx hb dX1_bothGain_67 (by decide) (fun z7 ez7 => ?_)
      exact K68 σ5 τ0 H5 locs5 z7 ls hR hF hFL hP hS (by omega) (lv_sub hl [0, 1, 2, 3] rfl) (by omega)
    · refine lv_aload_n hx hb dX1_bothGain_49 rfl (lv_at hl 0 rfl) ?_
      refine lv_iload_n hx hb dX1_bothGain_50 rfl (lv_at hl 2 rfl) ?_
      refine r_cVi (k := 21) (As := [.int a2]) (rest := []) ⟨hx, hb, hml, hown, hts⟩ hK hP hN hS (c_X1_weighedShare l D cA ad hI σ5 τ0 hR a2 (by omega)) (cwV 1 hts gX1_bothGain_X1_weighedShare rfl rfl rfl (by decide +kernel) ⟨by decide, by decide⟩) (rv_Camp hK hP (by decide) (by decide)) rfl hl.1 rfl (Nat.le_of_ble_eq_true rfl) dX1_bothGain_51 (Nat.zero_le _) (Nat.zero_le _) (fun r8 u8 H8 locs8 hp8 hP hS => ?_)
      obtain ⟨σ8, τ8⟩ := u8
      obtain ⟨hR, f8, fL8⟩ : P_X1_weighedShare σ5 τ0 a2 r8 σ8 τ8 := hp8
      have hP : va_P D vwCl (gw cA ad σ8 τ8) H8 := hP
      obtain rfl := FrL.nil fL8
      have hF := hF.step f8 (by decide)
      refine lv_aload_n hx hb dX1_bothGain_54 rfl (lv_at hl 0 rfl) ?_
      refine fg_1_5 (k := 21) hx hb hts in_X1_bothGain_1 hown hK hP (by decide) (by decide) (hts _ lk_X1_bothGain_24) dX1_bothGain_55 ?_
      refine lv_iload_n hx hb dX1_bothGain_58 rfl (lv_at hl 2 rfl) ?_
      refine ad_noted (k := 364) (j := j2) hx hb hK hP (by decide) (by decide) ej2 (by omega) dX1_bothGain_59 ?_
      refine r_icmp_le (tgt := 67) hx hb dX1_bothGain_60 (by decide) (fun c9 => ?_) (fun c9 => ?_)
      · refine r_iconst hx hb dX1_bothGain_67 (by decide) (fun z10 ez10 => ?_)
        exact K68 σ8 τ0 H8 locs8 z10 ls hR hF hFL hP hS (by omega) (lv_sub hl [0, 1, 2, 3] rfl) (by omega)
      · refine r_iconst hx hb dX1_bothGain_63 (by decide) (fun z11 ez11 => ?_)
        refine lv_goto (tgt := 68) hx hb dX1_bothGain_64 (by decide) ?_
        exact K68 σ8 τ0 H8 locs8 z11 ls hR hF hFL hP hS (by omega) (lv_sub hl [0, 1, 2, 3] rfl) (by omega)
  · refine r_iconst hx hb dX1_bothGain_15 (by decide) (fun z12 ez12 => ?_)
    exact r_zret hx hb hr hK hP hS hk (by omega) dX1_bothGain_16 (show P_X1_bothGain σ0 τ0 a1 a2 z12 σ0 τ0 from ⟨hR, hF, hFL, by omega⟩)
theorem in_X1_noteShares_1 : ∀ w ∈ u_ws RX1 TX1 9, w ∈ wsX1_noteShares := by decide +kernel
theorem in_X1_noteShares_9 : ∀ w ∈ u_ws RX9 TX9 14, w ∈ wsX1_noteShares := by decide +kernel
theorem lk_X1_noteShares_24 : Cond.fieldLink RX1 24 "CuckooShares$Camp" "noted" "[I" ∈ wsX1_noteShares := by decide +kernel
theorem lk_X1_noteShares_36 : Cond.fieldLink RX1 36 "CuckooShares$Camp" "valley" "LCuckooShares$Valley;" ∈ wsX1_noteShares := by decide +kernel
abbrev L_X1_noteShares : List Rc := [(364, 364, 0, 7), (365, 365, 0, 1), (366, 366, 0, 1), (367, 367, 0, 1)]
abbrev LL_X1_noteShares : List Rc := []
def P_X1_noteShares (σ0 : Nat → Nat → Int32) (τ0 : Nat → Nat → Int64)  (σ : Nat → Nat → Int32) (τ : Nat → Nat → Int64) : Prop := Rg σ ∧ Fr L_X1_noteShares σ0 σ ∧ FrL LL_X1_noteShares τ0 τ
def J_X1_noteShares_2 (p : Program) (l : Launch) (e : Env) (s : State) (m : MethodId) (args : Array Value) (below : List Frame) (meth : Method) (c : Code) (D : va_G) (cA : Nat → ClassId) (ad : Nat → Nat) (σ0 : Nat → Nat → Int32) (τ0 : Nat → Nat → Int64)  (n : Nat) : Prop := ∀ (σ : Nat → Nat → Int32) (τ : Nat → Nat → Int64) (H : Heap) (locs : List Loc) (x1 : Int32) (ls : Array Slot), Rg σ → Fr L_X1_noteShares σ0 σ → FrL LL_X1_noteShares τ0 τ → va_P D vwCl (gw cA ad σ τ) H → va_S (AA ad) s.heap H locs → (0 ≤ x1.toInt ∧ x1.toInt ≤ 8) → lv_has ls 2 [(0, .ref (ad 21)), (1, .int x1)] → 2 * (8 - x1.toInt) + 1 < (n : Int) → W p l e ({ frames := 5, cells := 0, slots := 0, locals := 115 } : Room) s m args below meth c H locs 0 0 (MQ below (va_Qv (fun u : SS => P_X1_noteShares σ0 τ0 u.1 u.2) (WB D cA ad) (AA ad)) args s 0 0 (AA ad)) (F0 m 2 ls [])
set_option maxHeartbeats 4000000 in
theorem B_X1_noteShares_2 (p : Program) (l : Launch) (e : Env) (s : State) (m : MethodId) (args : Array Value) (below : List Frame) (meth : Method) (c : Code) (D : va_G) (cA : Nat → ClassId) (ad : Nat → Nat) (σ0 : Nat → Nat → Int32) (τ0 : Nat → Nat → Int64)  (n : Nat) (C : Cy p s m args meth c cX1_noteShares 2 wsX1_noteShares RX1 D cA ad none)  (K2 : J_X1_noteShares_2 p l e s m args below meth c D cA ad σ0 τ0 n) : J_X1_noteShares_2 p l e s m args below meth c D cA ad σ0 τ0 (n + 1) := by
  obtain ⟨hx, hb, hml, hown, hts, hK, hk, hr, hI, hN⟩ := C
  intro σ τ H locs x1 ls hR hF hFL hP hS hc0 hl hm
  obtain rfl := FrL.nil hFL
  refine lv_iload_n hx hb dX1_noteShares_2 rfl (lv_at hl 1 rfl) ?_
  refine lv_aload_n hx hb dX1_noteShares_3 rfl (lv_at hl 0 rfl) ?_
  refine fg_1_0 (k := 21) hx hb hts in_X1_noteShares_1 hown hK hP (by decide) (by decide) (hts _ lk_X1_noteShares_36) dX1_noteShares_4 ?_
  refine fgN_9_5 (k := 2) hx hb hts in_X1_noteShares_9 hown hK hP (by decide) (by decide) (hN.use nw_1_40) dX1_noteShares_7 ?_
  have hr1 := rg_9_5 hR (k := 2) (by decide) (by decide)
  refine r_icmp_ge (tgt := 30) hx hb dX1_noteShares_10 (by decide) (fun c2 => ?_) (fun c2 => ?_)
  · exact r_vret hx hb hr hK hP hS hk dX1_noteShares_30 (show P_X1_noteShares σ0 τ0 σ τ0 from ⟨hR, hF, hFL⟩)
  · refine lv_aload_n hx hb dX1_noteShares_13 rfl (lv_at hl 0 rfl) ?_
    refine fg_1_5 (k := 21) hx hb hts in_X1_noteShares_1 hown hK hP (by decide) (by decide) (hts _ lk_X1_noteShares_24) dX1_noteShares_14 ?_
    refine lv_iload_n hx hb dX1_noteShares_17 rfl (lv_at hl 1 rfl) ?_
    refine lv_aload_n hx hb dX1_noteShares_18 rfl (lv_at hl 0 rfl) ?_
    refine lv_iload_n hx hb dX1_noteShares_19 rfl (lv_at hl 1 rfl) ?_
    refine r_cVi (k := 21) (As := [.int x1]) (rest := [.int x1, .ref (ad 364)]) ⟨hx, hb, hml, hown, hts⟩ hK hP hN hS (c_X1_weighedShare l D cA ad hI σ τ0 hR x1 (by omega)) (cwV 1 hts gX1_noteShares_X1_weighedShare rfl rfl rfl (by decide +kernel) ⟨by decide, by decide⟩) (rv_Camp hK hP (by decide) (by decide)) rfl hl.1 rfl (Nat.le_of_ble_eq_true rfl) dX1_noteShares_20 (Nat.zero_le _) (Nat.zero_le _) (fun r3 u3 H3 locs3 hp3 hP hS => ?_)
    obtain ⟨σ3, τ3⟩ := u3
    obtain ⟨hR, f3, fL3⟩ : P_X1_weighedShare σ τ0 x1 r3 σ3 τ3 := hp3
    have hP : va_P D vwCl (gw cA ad σ3 τ3) H3 := hP
    obtain rfl := FrL.nil fL3
    have hF := hF.step f3 (by decide)
    obtain ⟨j4, ej4⟩ : ∃ j : Nat, x1.toInt = (j : Int) := ⟨_, ti_nat (by omega)⟩
    refine as_noted (k := 364) (j := j4) hx hb hK hP hI hR hS (by decide) (by decide) ej4 (by omega) dX1_noteShares_23 (fun σ5 H5 locs5 u5 v5 hR hP hS => ?_)
    have hF := hF.puts u5 0 rfl (by decide) (by decide) (by omega) (by omega)
    refine r_iinc (k := 1) (lv1 := fun z6 => [(1, .int z6), (0, .ref (ad 21))]) hx hb dX1_noteShares_24 hl rfl (by decide) (fun _ => rfl) (by decide) (by omega) (fun z6 ls ez6 hl => ?_)
    refine lv_goto (tgt := 2) hx hb dX1_noteShares_27 (by decide) ?_
    exact K2 σ5 τ0 H5 locs5 z6 ls hR hF hFL hP hS (by omega) (lv_sub hl [1, 0] rfl) (by omega)
theorem A_X1_noteShares (p : Program) (l : Launch) (e : Env) (s : State) (m : MethodId) (args : Array Value) (below : List Frame) (meth : Method) (c : Code) (D : va_G) (cA : Nat → ClassId) (ad : Nat → Nat) (σ0 : Nat → Nat → Int32) (τ0 : Nat → Nat → Int64)  (C : Cy p s m args meth c cX1_noteShares 2 wsX1_noteShares RX1 D cA ad none)  : ∀ n : Nat, J_X1_noteShares_2 p l e s m args below meth c D cA ad σ0 τ0 n := by
  intro n
  induction n with
  | zero =>
    exact (by intro σ τ H locs x1 ls hR hF hFL hP hS hc0 hl hm; exfalso; omega)
  | succ n ih =>
    exact B_X1_noteShares_2 p l e s m args below meth c D cA ad σ0 τ0 n C  ih
set_option maxHeartbeats 4000000 in
theorem c_X1_noteShares (l : Launch) (D : va_G) (cA : Nat → ClassId) (ad : Nat → Nat) (hI : Inj ad) (σ0 : Nat → Nat → Int32) (τ0 : Nat → Nat → Int64) (hR : Rg σ0)   : Met l yX1_noteShares wsX1_noteShares ({ frames := 5, cells := 0, slots := 0, locals := 115 } : Room) (WQc D cA ad [.ref (ad 21)] σ0 τ0) (va_Qv (fun u : SS => P_X1_noteShares σ0 τ0 u.1 u.2) (WB D cA ad) (AA ad)) 0 0 (AA ad) := by
  refine Met.ofW (cc := cX1_noteShares) (maxL := 2) (ret := none) (by decide) rfl ?_
  intro p e s m args below meth c s₁ B hml hv
  obtain ⟨rfl, hP, hK, hN⟩ := hv
  have C : Cy p s m _ meth c cX1_noteShares 2 wsX1_noteShares RX1 D cA ad none := ⟨B.exec, B.bytes, hml, findClass_of_methodNamed B.named, atoms_spec (ws := wsX1_noteShares) B.pre, hK, B.notSynchronized, B.returns, hI, hN⟩
  have hl := lv_entry ([.ref (ad 21)]) (n := 2) (Nat.le_of_ble_eq_true rfl)
  rw [lg_entry_eq]
  generalize (lg_sl ([.ref (ad 21)]) ++ List.replicate (2 - (lg_sl ([.ref (ad 21)])).length) Slot.unset).toArray = ls at hl ⊢
  have hl : lv_has ls 2 [(0, .ref (ad 21))] := hl
  have hS : va_S (AA ad) s.heap s.heap [] := va_S.rf
  have hF : Fr L_X1_noteShares σ0 σ0 := Fr.rf
  have hFL : FrL LL_X1_noteShares τ0 τ0 := FrL.rf
  have hA := A_X1_noteShares p l e s m _ below meth c D cA ad σ0 τ0 C  42
  have K2 := hA
  clear hA
  obtain ⟨hx, hb, _, hown, hts, _, hk, hr, _, _⟩ := C
  refine r_iconst hx hb dX1_noteShares_0 (by decide) (fun z1 ez1 => ?_)
  refine lv_istore_n (lv' := [(1, .int z1), (0, .ref (ad 21))]) hx hb dX1_noteShares_1 rfl hl (by decide) rfl (fun ls hl => ?_)
  exact K2 σ0 τ0 s.heap [] z1 ls hR hF hFL hP hS (by omega) (lv_sub hl [1, 0] rfl) (by omega)
theorem in_X0_draw_0 : ∀ w ∈ u_ws RX0 TX0 3, w ∈ wsX0_draw := by decide +kernel
theorem lk_X0_draw_110 : Cond.fieldLink RX0 110 "CuckooShares$Acts" "seed" "I" ∈ wsX0_draw := by decide +kernel
theorem lk_X0_draw_113 : Cond.constant RX0 113 (1103515245) ∈ wsX0_draw := by decide +kernel
abbrev L_X0_draw : List Rc := [(22, 22, 2, 2)]
abbrev LL_X0_draw : List Rc := []
def P_X0_draw (σ0 : Nat → Nat → Int32) (τ0 : Nat → Nat → Int64) (a1 : Int32) (r : Int32) (σ : Nat → Nat → Int32) (τ : Nat → Nat → Int64) : Prop := Rg σ ∧ Fr L_X0_draw σ0 σ ∧ FrL LL_X0_draw τ0 τ
set_option maxHeartbeats 4000000 in
theorem c_X0_draw (l : Launch) (D : va_G) (cA : Nat → ClassId) (ad : Nat → Nat) (hI : Inj ad) (σ0 : Nat → Nat → Int32) (τ0 : Nat → Nat → Int64) (hR : Rg σ0) (a1 : Int32)  : Met l yX0_draw wsX0_draw ({ frames := 0, cells := 0, slots := 0, locals := 0 } : Room) (WQc D cA ad [.ref (ad 22), .int a1] σ0 τ0) (va_Qi (fun (r : Int32) (u : SS) => P_X0_draw σ0 τ0 a1 r u.1 u.2) (WB D cA ad) (AA ad)) 0 0 (AA ad) := by
  refine Met.ofW (cc := cX0_draw) (maxL := 2) (ret := (some .int)) (by decide) rfl ?_
  intro p e s m args below meth c s₁ B hml hv
  obtain ⟨rfl, hP, hK, hN⟩ := hv
  have C : Cy p s m _ meth c cX0_draw 2 wsX0_draw RX0 D cA ad (some .int) := ⟨B.exec, B.bytes, hml, findClass_of_methodNamed B.named, atoms_spec (ws := wsX0_draw) B.pre, hK, B.notSynchronized, B.returns, hI, hN⟩
  have hl := lv_entry ([.ref (ad 22), .int a1]) (n := 2) (Nat.le_of_ble_eq_true rfl)
  rw [lg_entry_eq]
  generalize (lg_sl ([.ref (ad 22), .int a1]) ++ List.replicate (2 - (lg_sl ([.ref (ad 22), .int a1])).length) Slot.unset).toArray = ls at hl ⊢
  have hl : lv_has ls 2 [(0, .ref (ad 22)), (1, .int a1)] := hl
  have hS : va_S (AA ad) s.heap s.heap [] := va_S.rf
  have hF : Fr L_X0_draw σ0 σ0 := Fr.rf
  have hFL : FrL LL_X0_draw τ0 τ0 := FrL.rf
  obtain ⟨hx, hb, _, hown, hts, _, hk, hr, _, _⟩ := C
  refine lv_aload_n hx hb dX0_draw_0 rfl (lv_at hl 0 rfl) ?_
  refine lv_aload_n hx hb dX0_draw_1 rfl (lv_at hl 0 rfl) ?_
  refine fg_0_2 (k := 22) hx hb hts in_X0_draw_0 hown hK hP (by decide) (by decide) (hts _ lk_X0_draw_110) dX0_draw_2 ?_
  refine r_ldc (v := 1103515245) (n := 1103515245) hx hb hown (hts _ lk_X0_draw_113) dX0_draw_5 (by decide) (fun z1 ez1 => ?_)
  refine r_imulU hx hb dX0_draw_7 (fun z2 => ?_)
  refine r_sipush hx hb dX0_draw_8 (by decide) (fun z3 ez3 => ?_)
  refine r_iaddU hx hb dX0_draw_11 (fun z4 => ?_)
  refine fp_0_2 (k := 22) hx hb hts in_X0_draw_0 hown hK hP (by decide) (by decide) (hts _ lk_X0_draw_110) hI hR hS dX0_draw_12 (fun σ5 H5 locs5 u5 v5 hR hP hS => ?_)
  have hF := hF.puts u5 0 rfl (by decide) (by decide) (by decide) (by decide)
  refine lv_iload_n hx hb dX0_draw_15 rfl (lv_at hl 1 rfl) ?_
  refine r_if_le (tgt := 31) hx hb dX0_draw_16 (by decide) (fun c6 => ?_) (fun c6 => ?_)
  · refine r_iconst hx hb dX0_draw_31 (by decide) (fun z7 ez7 => ?_)
    exact r_iret hx hb hr hK hP hS hk dX0_draw_32 (show P_X0_draw σ0 τ0 a1 z7 σ5 τ0 from ⟨hR, hF, hFL⟩)
  · refine lv_aload_n hx hb dX0_draw_19 rfl (lv_at hl 0 rfl) ?_
    refine fg_0_2 (k := 22) hx hb hts in_X0_draw_0 hown hK hP (by decide) (by decide) (hts _ lk_X0_draw_110) dX0_draw_20 ?_
    refine r_bipush hx hb dX0_draw_23 (by decide) (fun z8 ez8 => ?_)
    refine r_iushrU hx hb dX0_draw_25 (fun z9 => ?_)
    refine lv_iload_n hx hb dX0_draw_26 rfl (lv_at hl 1 rfl) ?_
    refine r_irem hx hb dX0_draw_27 (by omega) (fun z10 ez10 => ?_)
    have fz10 := ti_tm (a := z9.toInt) (b := a1.toInt) (by omega)
    refine lv_goto (tgt := 32) hx hb dX0_draw_28 (by decide) ?_
    exact r_iret hx hb hr hK hP hS hk dX0_draw_32 (show P_X0_draw σ0 τ0 a1 z10 σ5 τ0 from ⟨hR, hF, hFL⟩)
theorem in_X9_flightDrawn_9 : ∀ w ∈ u_ws RX9 TX9 14, w ∈ wsX9_flightDrawn := by decide +kernel
theorem lk_X9_flightDrawn_26 : Cond.fieldLink RX9 26 "CuckooShares$Valley" "flight" "[[I" ∈ wsX9_flightDrawn := by decide +kernel
theorem lk_X9_flightDrawn_55 : Cond.fieldLink RX9 55 "CuckooShares$Valley" "flights" "I" ∈ wsX9_flightDrawn := by decide +kernel
abbrev L_X9_flightDrawn : List Rc := []
abbrev LL_X9_flightDrawn : List Rc := []
def P_X9_flightDrawn (σ0 : Nat → Nat → Int32) (τ0 : Nat → Nat → Int64) (a1 : Int32) (r : Int32) (σ : Nat → Nat → Int32) (τ : Nat → Nat → Int64) : Prop := Rg σ ∧ Fr L_X9_flightDrawn σ0 σ ∧ FrL LL_X9_flightDrawn τ0 τ ∧ (-1 ≤ r.toInt ∧ r.toInt ≤ 3)
def J_X9_flightDrawn_4 (p : Program) (l : Launch) (e : Env) (s : State) (m : MethodId) (args : Array Value) (below : List Frame) (meth : Method) (c : Code) (D : va_G) (cA : Nat → ClassId) (ad : Nat → Nat) (σ0 : Nat → Nat → Int32) (τ0 : Nat → Nat → Int64) (a1 : Int32) (n : Nat) : Prop := ∀ (σ : Nat → Nat → Int32) (τ : Nat → Nat → Int64) (H : Heap) (locs : List Loc) (x2 : Int32) (x3 : Int32) (ls : Array Slot), Rg σ → Fr L_X9_flightDrawn σ0 σ → FrL LL_X9_flightDrawn τ0 τ → va_P D vwCl (gw cA ad σ τ) H → va_S (AA ad) s.heap H locs → (0 ≤ x3.toInt ∧ x3.toInt ≤ 4) → lv_has ls 4 [(0, .ref (ad 2)), (1, .int a1), (2, .int x2), (3, .int x3)] → 2 * (4 - x3.toInt) + 1 < (n : Int) → W p l e ({ frames := 0, cells := 0, slots := 0, locals := 0 } : Room) s m args below meth c H locs 0 0 (MQ below (va_Qi (fun (r : Int32) (u : SS) => P_X9_flightDrawn σ0 τ0 a1 r u.1 u.2) (WB D cA ad) (AA ad)) args s 0 0 (AA ad)) (F0 m 4 ls [])
set_option maxHeartbeats 4000000 in
theorem B_X9_flightDrawn_4 (p : Program) (l : Launch) (e : Env) (s : State) (m : MethodId) (args : Array Value) (below : List Frame) (meth : Method) (c : Code) (D : va_G) (cA : Nat → ClassId) (ad : Nat → Nat) (σ0 : Nat → Nat → Int32) (τ0 : Nat → Nat → Int64) (a1 : Int32) (n : Nat) (C : Cy p s m args meth c cX9_flightDrawn 4 wsX9_flightDrawn RX9 D cA ad (some .int))  (K4 : J_X9_flightDrawn_4 p l e s m args below meth c D cA ad σ0 τ0 a1 n) : J_X9_flightDrawn_4 p l e s m args below meth c D cA ad σ0 τ0 a1 (n + 1) := by
  obtain ⟨hx, hb, hml, hown, hts, hK, hk, hr, hI, hN⟩ := C
  intro σ τ H locs x2 x3 ls hR hF hFL hP hS hc0 hl hm
  obtain rfl := Fr.nil hF
  obtain rfl := FrL.nil hFL
  refine lv_iload_n hx hb dX9_flightDrawn_4 rfl (lv_at hl 3 rfl) ?_
  refine lv_aload_n hx hb dX9_flightDrawn_5 rfl (lv_at hl 0 rfl) ?_
  refine fg_9_6 (k := 2) hx hb hts in_X9_flightDrawn_9 hown hK hP (by decide) (by decide) (hts _ lk_X9_flightDrawn_55) dX9_flightDrawn_6 ?_
  have hr1 := rg_9_6 hR (k := 2) (by decide) (by decide)
  refine r_icmp_ge (tgt := 35) hx hb dX9_flightDrawn_9 (by decide) (fun c2 => ?_) (fun c2 => ?_)
  · refine r_iconst hx hb dX9_flightDrawn_35 (by decide) (fun z3 ez3 => ?_)
    exact r_iret hx hb hr hK hP hS hk dX9_flightDrawn_36 (show P_X9_flightDrawn σ0 τ0 a1 z3 σ0 τ0 from ⟨hR, hF, hFL, by omega⟩)
  · refine lv_iload_n hx hb dX9_flightDrawn_12 rfl (lv_at hl 2 rfl) ?_
    refine lv_aload_n hx hb dX9_flightDrawn_13 rfl (lv_at hl 0 rfl) ?_
    refine fg_9_11 (k := 2) hx hb hts in_X9_flightDrawn_9 hown hK hP (by decide) (by decide) (hts _ lk_X9_flightDrawn_26) dX9_flightDrawn_14 ?_
    refine lv_iload_n hx hb dX9_flightDrawn_17 rfl (lv_at hl 3 rfl) ?_
    obtain ⟨j4, ej4⟩ : ∃ j : Nat, x3.toInt = (j : Int) := ⟨_, ti_nat (by omega)⟩
    refine ad_flightA (k := 56) (j := j4) hx hb hK hP (by decide) (by decide) ej4 (by omega) dX9_flightDrawn_18 ?_
    refine r_iconst hx hb dX9_flightDrawn_19 (by decide) (fun z5 ez5 => ?_)
    refine ad_flightR (k := 132 + j4) (j := 0) hx hb hK hP (by omega) (by omega) (by omega) (by omega) dX9_flightDrawn_20 ?_
    refine r_isubU hx hb dX9_flightDrawn_21 (fun z6 => ?_)
    refine lv_istore_n (lv' := [(2, .int z6), (0, .ref (ad 2)), (1, .int a1), (3, .int x3)]) hx hb dX9_flightDrawn_22 rfl hl (by decide) rfl (fun ls hl => ?_)
    refine lv_iload_n hx hb dX9_flightDrawn_23 rfl (lv_at hl 0 rfl) ?_
    refine r_if_ge (tgt := 29) hx hb dX9_flightDrawn_24 (by decide) (fun c7 => ?_) (fun c7 => ?_)
    · refine r_iinc (k := 3) (lv1 := fun z8 => [(3, .int z8), (2, .int z6), (0, .ref (ad 2)), (1, .int a1)]) hx hb dX9_flightDrawn_29 hl rfl (by decide) (fun _ => rfl) (by decide) (by omega) (fun z8 ls ez8 hl => ?_)
      refine lv_goto (tgt := 4) hx hb dX9_flightDrawn_32 (by decide) ?_
      exact K4 σ0 τ0 H locs z6 z8 ls hR hF hFL hP hS (by omega) (lv_sub hl [2, 3, 1, 0] rfl) (by omega)
    · refine lv_iload_n hx hb dX9_flightDrawn_27 rfl (lv_at hl 3 rfl) ?_
      exact r_iret hx hb hr hK hP hS hk dX9_flightDrawn_28 (show P_X9_flightDrawn σ0 τ0 a1 x3 σ0 τ0 from ⟨hR, hF, hFL, by omega⟩)
theorem A_X9_flightDrawn (p : Program) (l : Launch) (e : Env) (s : State) (m : MethodId) (args : Array Value) (below : List Frame) (meth : Method) (c : Code) (D : va_G) (cA : Nat → ClassId) (ad : Nat → Nat) (σ0 : Nat → Nat → Int32) (τ0 : Nat → Nat → Int64) (a1 : Int32) (C : Cy p s m args meth c cX9_flightDrawn 4 wsX9_flightDrawn RX9 D cA ad (some .int))  : ∀ n : Nat, J_X9_flightDrawn_4 p l e s m args below meth c D cA ad σ0 τ0 a1 n := by
  intro n
  induction n with
  | zero =>
    exact (by intro σ τ H locs x2 x3 ls hR hF hFL hP hS hc0 hl hm; exfalso; omega)
  | succ n ih =>
    exact B_X9_flightDrawn_4 p l e s m args below meth c D cA ad σ0 τ0 a1 n C  ih
set_option maxHeartbeats 4000000 in
theorem c_X9_flightDrawn (l : Launch) (D : va_G) (cA : Nat → ClassId) (ad : Nat → Nat) (hI : Inj ad) (σ0 : Nat → Nat → Int32) (τ0 : Nat → Nat → Int64) (hR : Rg σ0) (a1 : Int32)  : Met l yX9_flightDrawn wsX9_flightDrawn ({ frames := 0, cells := 0, slots := 0, locals := 0 } : Room) (WQc D cA ad [.ref (ad 2), .int a1] σ0 τ0) (va_Qi (fun (r : Int32) (u : SS) => P_X9_flightDrawn σ0 τ0 a1 r u.1 u.2) (WB D cA ad) (AA ad)) 0 0 (AA ad) := by
  refine Met.ofW (cc := cX9_flightDrawn) (maxL := 4) (ret := (some .int)) (by decide) rfl ?_
  intro p e s m args below meth c s₁ B hml hv
  obtain ⟨rfl, hP, hK, hN⟩ := hv
  have C : Cy p s m _ meth c cX9_flightDrawn 4 wsX9_flightDrawn RX9 D cA ad (some .int) := ⟨B.exec, B.bytes, hml, findClass_of_methodNamed B.named, atoms_spec (ws := wsX9_flightDrawn) B.pre, hK, B.notSynchronized, B.returns, hI, hN⟩
  have hl := lv_entry ([.ref (ad 2), .int a1]) (n := 4) (Nat.le_of_ble_eq_true rfl)
  rw [lg_entry_eq]
  generalize (lg_sl ([.ref (ad 2), .int a1]) ++ List.replicate (4 - (lg_sl ([.ref (ad 2), .int a1])).length) Slot.unset).toArray = ls at hl ⊢
  have hl : lv_has ls 4 [(0, .ref (ad 2)), (1, .int a1)] := hl
  have hS : va_S (AA ad) s.heap s.heap [] := va_S.rf
  have hF : Fr L_X9_flightDrawn σ0 σ0 := Fr.rf
  have hFL : FrL LL_X9_flightDrawn τ0 τ0 := FrL.rf
  have hA := A_X9_flightDrawn p l e s m _ below meth c D cA ad σ0 τ0 a1 C  26
  have K4 := hA
  clear hA
  obtain ⟨hx, hb, _, hown, hts, _, hk, hr, _, _⟩ := C
  refine lv_iload_n hx hb dX9_flightDrawn_0 rfl (lv_at hl 1 rfl) ?_
  refine lv_istore_n (lv' := [(2, .int a1), (0, .ref (ad 2)), (1, .int a1)]) hx hb dX9_flightDrawn_1 rfl hl (by decide) rfl (fun ls hl => ?_)
  refine r_iconst hx hb dX9_flightDrawn_2 (by decide) (fun z1 ez1 => ?_)
  refine lv_istore_n (lv' := [(3, .int z1), (2, .int a1), (0, .ref (ad 2)), (1, .int a1)]) hx hb dX9_flightDrawn_3 rfl hl (by decide) rfl (fun ls hl => ?_)
  exact K4 σ0 τ0 s.heap [] a1 z1 ls hR hF hFL hP hS (by omega) (lv_sub hl [2, 3, 1, 0] rfl) (by omega)
theorem in_X0_drawYear_0 : ∀ w ∈ u_ws RX0 TX0 3, w ∈ wsX0_drawYear := by decide +kernel
theorem in_X0_drawYear_9 : ∀ w ∈ u_ws RX9 TX9 14, w ∈ wsX0_drawYear := by decide +kernel
theorem lk_X0_drawYear_15 : Cond.fieldLink RX0 15 "CuckooShares$Acts" "camp" "LCuckooShares$Camp;" ∈ wsX0_drawYear := by decide +kernel
theorem lk_X0_drawYear_9 : Cond.fieldLink RX0 9 "CuckooShares$Acts" "valley" "LCuckooShares$Valley;" ∈ wsX0_drawYear := by decide +kernel
abbrev L_X0_drawYear : List Rc := [(22, 22, 2, 2), (308, 310, 0, 7), (360, 360, 0, 7), (361, 361, 0, 7), (362, 362, 0, 7), (363, 363, 0, 39), (365, 365, 0, 1), (366, 366, 0, 1), (367, 367, 0, 1), (7, 9, 0, 2), (347, 349, 0, 7), (334, 336, 0, 7)]
abbrev LL_X0_drawYear : List Rc := []
def P_X0_drawYear (σ0 : Nat → Nat → Int32) (τ0 : Nat → Nat → Int64) (k1 : Nat) (σ : Nat → Nat → Int32) (τ : Nat → Nat → Int64) : Prop := Rg σ ∧ Fr L_X0_drawYear σ0 σ ∧ FrL LL_X0_drawYear τ0 τ
def J_X0_drawYear_2 (p : Program) (l : Launch) (e : Env) (s : State) (m : MethodId) (args : Array Value) (below : List Frame) (meth : Method) (c : Code) (D : va_G) (cA : Nat → ClassId) (ad : Nat → Nat) (σ0 : Nat → Nat → Int32) (τ0 : Nat → Nat → Int64) (k1 : Nat) (n : Nat) : Prop := ∀ (σ : Nat → Nat → Int32) (τ : Nat → Nat → Int64) (H : Heap) (locs : List Loc) (x2 : Int32) (ls : Array Slot), Rg σ → Fr L_X0_drawYear σ0 σ → FrL LL_X0_drawYear τ0 τ → va_P D vwCl (gw cA ad σ τ) H → va_S (AA ad) s.heap H locs → (0 ≤ x2.toInt ∧ x2.toInt ≤ 8) → lv_has ls 3 [(0, .ref (ad 22)), (1, .ref (ad k1)), (2, .int x2)] → 2 * (8 - x2.toInt) + 1 < (n : Int) → W p l e ({ frames := 5, cells := 0, slots := 0, locals := 117 } : Room) s m args below meth c H locs 0 0 (MQ below (va_Qv (fun u : SS => P_X0_drawYear σ0 τ0 k1 u.1 u.2) (WB D cA ad) (AA ad)) args s 0 0 (AA ad)) (F0 m 2 ls [])
set_option maxHeartbeats 4000000 in
theorem B_X0_drawYear_2 (p : Program) (l : Launch) (e : Env) (s : State) (m : MethodId) (args : Array Value) (below : List Frame) (meth : Method) (c : Code) (D : va_G) (cA : Nat → ClassId) (ad : Nat → Nat) (σ0 : Nat → Nat → Int32) (τ0 : Nat → Nat → Int64) (k1 : Nat) (n : Nat) (C : Cy p s m args meth c cX0_drawYear 3 wsX0_drawYear RX0 D cA ad none) (hk1 : 7 ≤ k1 ∧ k1 ≤ 9) (K2 : J_X0_drawYear_2 p l e s m args below meth c D cA ad σ0 τ0 k1 n) : J_X0_drawYear_2 p l e s m args below meth c D cA ad σ0 τ0 k1 (n + 1) := by
  obtain ⟨hx, hb, hml, hown, hts, hK, hk, hr, hI, hN⟩ := C
  intro σ τ H locs x2 ls hR hF hFL hP hS hc0 hl hm
  obtain rfl := FrL.nil hFL
  refine lv_iload_n hx hb dX0_drawYear_2 rfl (lv_at hl 2 rfl) ?_
  refine lv_aload_n hx hb dX0_drawYear_3 rfl (lv_at hl 0 rfl) ?_
  refine fg_0_0 (k := 22) hx hb hts in_X0_drawYear_0 hown hK hP (by decide) (by decide) (hts _ lk_X0_drawYear_9) dX0_drawYear_4 ?_
  refine fgN_9_5 (k := 2) hx hb hts in_X0_drawYear_9 hown hK hP (by decide) (by decide) (hN.use nw_0_82) dX0_drawYear_7 ?_
  have hr1 := rg_9_5 hR (k := 2) (by decide) (by decide)
  refine r_icmp_ge (tgt := 45) hx hb dX0_drawYear_10 (by decide) (fun c2 => ?_) (fun c2 => ?_)
  · refine lv_aload_n hx hb dX0_drawYear_45 rfl (lv_at hl 0 rfl) ?_
    refine fg_0_0 (k := 22) hx hb hts in_X0_drawYear_0 hown hK hP (by decide) (by decide) (hts _ lk_X0_drawYear_9) dX0_drawYear_46 ?_
    refine lv_aload_n hx hb dX0_drawYear_49 rfl (lv_at hl 0 rfl) ?_
    refine lv_aload_n hx hb dX0_drawYear_50 rfl (lv_at hl 0 rfl) ?_
    refine fg_0_0 (k := 22) hx hb hts in_X0_drawYear_0 hown hK hP (by decide) (by decide) (hts _ lk_X0_drawYear_9) dX0_drawYear_51 ?_
    refine r_cVi (k := 2) (As := []) (rest := [.ref (ad 22), .ref (ad 2)]) ⟨hx, hb, hml, hown, hts⟩ hK hP hN hS (c_X9_chances l D cA ad hI σ τ0 hR) (cwV 0 hts gX0_drawYear_X9_chances rfl rfl rfl (by decide +kernel) ⟨by decide, by decide⟩) (rv_Valley hK hP (by decide) (by decide)) rfl hl.1 rfl (Nat.le_of_ble_eq_true rfl) dX0_drawYear_54 (Nat.zero_le _) (Nat.zero_le _) (fun r3 u3 H3 locs3 hp3 hP hS => ?_)
    obtain ⟨σ3, τ3⟩ := u3
    obtain ⟨hR, f3, fL3⟩ : P_X9_chances σ τ0 r3 σ3 τ3 := hp3
    have hP : va_P D vwCl (gw cA ad σ3 τ3) H3 := hP
    obtain rfl := FrL.nil fL3
    obtain rfl := Fr.nil f3
    refine r_cVi (k := 22) (As := [.int r3]) (rest := [.ref (ad 2)]) ⟨hx, hb, hml, hown, hts⟩ hK hP hN hS (c_X0_draw l D cA ad hI σ τ0 hR r3) (cwV 1 hts gX0_drawYear_X0_draw rfl rfl rfl (by decide +kernel) ⟨by decide, by decide⟩) (rv_Acts hK hP (by decide) (by decide)) rfl hl.1 rfl (Nat.le_of_ble_eq_true rfl) dX0_drawYear_57 (Nat.zero_le _) (Nat.zero_le _) (fun r4 u4 H4 locs4 hp4 hP hS => ?_)
    obtain ⟨σ4, τ4⟩ := u4
    obtain ⟨hR, f4, fL4⟩ : P_X0_draw σ τ0 r3 r4 σ4 τ4 := hp4
    have hP : va_P D vwCl (gw cA ad σ4 τ4) H4 := hP
    obtain rfl := FrL.nil fL4
    have hF := hF.step f4 (by decide)
    refine r_cVi (k := 2) (As := [.int r4]) (rest := []) ⟨hx, hb, hml, hown, hts⟩ hK hP hN hS (c_X9_flightDrawn l D cA ad hI σ4 τ0 hR r4) (cwV 1 hts gX0_drawYear_X9_flightDrawn rfl rfl rfl (by decide +kernel) ⟨by decide, by decide⟩) (rv_Valley hK hP (by decide) (by decide)) rfl hl.1 rfl (Nat.le_of_ble_eq_true rfl) dX0_drawYear_60 (Nat.zero_le _) (Nat.zero_le _) (fun r5 u5 H5 locs5 hp5 hP hS => ?_)
    obtain ⟨σ5, τ5⟩ := u5
    obtain ⟨hR, f5, fL5, hq5⟩ : P_X9_flightDrawn σ4 τ0 r4 r5 σ5 τ5 := hp5
    have hP : va_P D vwCl (gw cA ad σ5 τ5) H5 := hP
    obtain rfl := FrL.nil fL5
    obtain rfl := Fr.nil f5
    refine lv_istore_n (lv' := [(2, .int r5), (0, .ref (ad 22)), (1, .ref (ad k1))]) hx hb dX0_drawYear_63 rfl hl (by decide) rfl (fun ls hl => ?_)
    refine lv_aload_n hx hb dX0_drawYear_64 rfl (lv_at hl 1 rfl) ?_
    refine fg_0_0 (k := 22) hx hb hts in_X0_drawYear_0 hown hK hP (by decide) (by decide) (hts _ lk_X0_drawYear_9) dX0_drawYear_65 ?_
    refine lv_iload_n hx hb dX0_drawYear_68 rfl (lv_at hl 0 rfl) ?_
    refine r_cVi (k := 2) (As := [.int r5]) (rest := []) ⟨hx, hb, hml, hown, hts⟩ hK hP hN hS (c_X9_hasFlight l D cA ad hI σ4 τ0 hR 2 r5 ⟨by omega, by omega⟩) (cwV 1 hts gX0_drawYear_X9_hasFlight rfl rfl rfl (by decide +kernel) ⟨by decide, by decide⟩) (rv_Valley hK hP (by decide) (by decide)) rfl hl.1 rfl (Nat.le_of_ble_eq_true rfl) dX0_drawYear_69 (Nat.zero_le _) (Nat.zero_le _) (fun r6 u6 H6 locs6 hp6 hP hS => ?_)
    obtain ⟨σ6, τ6⟩ := u6
    obtain ⟨hR, f6, fL6, hq6, hp6_0, hp6_1⟩ : P_X9_hasFlight σ4 τ0 2 r5 r6 σ6 τ6 := hp6
    have hP : va_P D vwCl (gw cA ad σ6 τ6) H6 := hP
    obtain rfl := FrL.nil fL6
    obtain rfl := Fr.nil f6
    refine r_if_ne (tgt := 76) hx hb dX0_drawYear_72 (by decide) (fun c7 => ?_) (fun c7 => ?_)
    · refine lv_aload_n hx hb dX0_drawYear_76 rfl (lv_at hl 1 rfl) ?_
      refine fg_0_1 (k := 22) hx hb hts in_X0_drawYear_0 hown hK hP (by decide) (by decide) (hts _ lk_X0_drawYear_15) dX0_drawYear_77 ?_
      refine lv_aload_n hx hb dX0_drawYear_80 rfl (lv_at hl 2 rfl) ?_
      refine r_cVv (k := 21) (As := [.ref (ad k1)]) (rest := []) ⟨hx, hb, hml, hown, hts⟩ hK hP hN hS (c_X1_pitch l D cA ad hI σ4 τ0 hR k1 ⟨by omega, by omega⟩) (cwV 1 hts gX0_drawYear_X1_pitch rfl rfl rfl (by decide +kernel) ⟨by decide, by decide⟩) (rv_Camp hK hP (by decide) (by decide)) rfl hl.1 rfl (Nat.le_of_ble_eq_true rfl) dX0_drawYear_81 (Nat.zero_le _) (Nat.zero_le _) (fun u8 H8 locs8 hp8 hP hS => ?_)
      obtain ⟨σ8, τ8⟩ := u8
      obtain ⟨hR, f8, fL8⟩ : P_X1_pitch σ4 τ0 k1 σ8 τ8 := hp8
      have hP : va_P D vwCl (gw cA ad σ8 τ8) H8 := hP
      obtain rfl := FrL.nil fL8
      have hF := hF.step f8 (by decide)
      refine lv_aload_n hx hb dX0_drawYear_84 rfl (lv_at hl 1 rfl) ?_
      refine fg_0_1 (k := 22) hx hb hts in_X0_drawYear_0 hown hK hP (by decide) (by decide) (hts _ lk_X0_drawYear_15) dX0_drawYear_85 ?_
      refine lv_iload_n hx hb dX0_drawYear_88 rfl (lv_at hl 0 rfl) ?_
      refine r_cVv (k := 21) (As := [.int r5]) (rest := []) ⟨hx, hb, hml, hown, hts⟩ hK hP hN hS (c_X1_listen l D cA ad hI σ8 τ0 hR r5 (by omega)) (cwV 1 hts gX0_drawYear_X1_listen rfl rfl rfl (by decide +kernel) ⟨by decide, by decide⟩) (rv_Camp hK hP (by decide) (by decide)) rfl hl.1 rfl (Nat.le_of_ble_eq_true rfl) dX0_drawYear_89 (Nat.zero_le _) (Nat.zero_le _) (fun u9 H9 locs9 hp9 hP hS => ?_)
      obtain ⟨σ9, τ9⟩ := u9
      obtain ⟨hR, f9, fL9⟩ : P_X1_listen σ8 τ0 r5 σ9 τ9 := hp9
      have hP : va_P D vwCl (gw cA ad σ9 τ9) H9 := hP
      obtain rfl := FrL.nil fL9
      have hF := hF.step f9 (by decide)
      refine lv_aload_n hx hb dX0_drawYear_92 rfl (lv_at hl 1 rfl) ?_
      refine fg_0_1 (k := 22) hx hb hts in_X0_drawYear_0 hown hK hP (by decide) (by decide) (hts _ lk_X0_drawYear_15) dX0_drawYear_93 ?_
      refine lv_iload_n hx hb dX0_drawYear_96 rfl (lv_at hl 0 rfl) ?_
      refine r_cVv (k := 21) (As := [.int r5]) (rest := []) ⟨hx, hb, hml, hown, hts⟩ hK hP hN hS (c_X1_countHonest l D cA ad hI σ9 τ0 hR r5 (by omega)) (cwV 1 hts gX0_drawYear_X1_countHonest rfl rfl rfl (by decide +kernel) ⟨by decide, by decide⟩) (rv_Camp hK hP (by decide) (by decide)) rfl hl.1 rfl (Nat.le_of_ble_eq_true rfl) dX0_drawYear_97 (Nat.zero_le _) (Nat.zero_le _) (fun u10 H10 locs10 hp10 hP hS => ?_)
      obtain ⟨σ10, τ10⟩ := u10
      obtain ⟨hR, f10, fL10⟩ : P_X1_countHonest σ9 τ0 r5 σ10 τ10 := hp10
      have hP : va_P D vwCl (gw cA ad σ10 τ10) H10 := hP
      obtain rfl := FrL.nil fL10
      have hF := hF.step f10 (by decide)
      refine lv_aload_n hx hb dX0_drawYear_100 rfl (lv_at hl 1 rfl) ?_
      refine lv_aload_n hx hb dX0_drawYear_101 rfl (lv_at hl 2 rfl) ?_
      refine r_cVv (k := 22) (As := [.ref (ad k1)]) (rest := []) ⟨hx, hb, hml, hown, hts⟩ hK hP hN hS (c_X0_storeAndEnd l D cA ad hI σ10 τ0 hR k1 ⟨by omega, by omega⟩) (cwV 1 hts gX0_drawYear_X0_storeAndEnd rfl rfl rfl (by decide +kernel) ⟨by decide, by decide⟩) (rv_Acts hK hP (by decide) (by decide)) rfl hl.1 rfl (Nat.le_of_ble_eq_true rfl) dX0_drawYear_102 (Nat.zero_le _) (Nat.zero_le _) (fun u11 H11 locs11 hp11 hP hS => ?_)
      obtain ⟨σ11, τ11⟩ := u11
      obtain ⟨hR, f11, fL11⟩ : P_X0_storeAndEnd σ10 τ0 k1 σ11 τ11 := hp11
      have hP : va_P D vwCl (gw cA ad σ11 τ11) H11 := hP
      obtain rfl := FrL.nil fL11
      have hF := hF.step f11 (by decide)
      exact r_vret hx hb hr hK hP hS hk dX0_drawYear_105 (show P_X0_drawYear σ0 τ0 k1 σ11 τ0 from ⟨hR, hF, hFL⟩)
    · exact r_vret hx hb hr hK hP hS hk dX0_drawYear_75 (show P_X0_drawYear σ0 τ0 k1 σ4 τ0 from ⟨hR, hF, hFL⟩)
  · refine lv_aload_n hx hb dX0_drawYear_13 rfl (lv_at hl 0 rfl) ?_
    refine r_iconst hx hb dX0_drawYear_14 (by decide) (fun z12 ez12 => ?_)
    refine r_cVi (k := 22) (As := [.int z12]) (rest := []) ⟨hx, hb, hml, hown, hts⟩ hK hP hN hS (c_X0_draw l D cA ad hI σ τ0 hR z12) (cwV 1 hts gX0_drawYear_X0_draw rfl rfl rfl (by decide +kernel) ⟨by decide, by decide⟩) (rv_Acts hK hP (by decide) (by decide)) rfl hl.1 rfl (Nat.le_of_ble_eq_true rfl) dX0_drawYear_15 (Nat.zero_le _) (Nat.zero_le _) (fun r13 u13 H13 locs13 hp13 hP hS => ?_)
    obtain ⟨σ13, τ13⟩ := u13
    obtain ⟨hR, f13, fL13⟩ : P_X0_draw σ τ0 z12 r13 σ13 τ13 := hp13
    have hP : va_P D vwCl (gw cA ad σ13 τ13) H13 := hP
    obtain rfl := FrL.nil fL13
    have hF := hF.step f13 (by decide)
    refine r_if_ne (tgt := 39) hx hb dX0_drawYear_18 (by decide) (fun c14 => ?_) (fun c14 => ?_)
    · refine r_iinc (k := 2) (lv1 := fun z15 => [(2, .int z15), (0, .ref (ad 22)), (1, .ref (ad k1))]) hx hb dX0_drawYear_39 hl rfl (by decide) (fun _ => rfl) (by decide) (by omega) (fun z15 ls ez15 hl => ?_)
      refine lv_goto (tgt := 2) hx hb dX0_drawYear_42 (by decide) ?_
      exact K2 σ13 τ0 H13 locs13 z15 ls hR hF hFL hP hS (by omega) (lv_sub hl [1, 2, 0] rfl) (by omega)
    · refine lv_aload_n hx hb dX0_drawYear_21 rfl (lv_at hl 0 rfl) ?_
      refine lv_aload_n hx hb dX0_drawYear_22 rfl (lv_at hl 1 rfl) ?_
      refine lv_iload_n hx hb dX0_drawYear_23 rfl (lv_at hl 2 rfl) ?_
      refine lv_aload_n hx hb dX0_drawYear_24 rfl (lv_at hl 0 rfl) ?_
      refine lv_aload_n hx hb dX0_drawYear_25 rfl (lv_at hl 0 rfl) ?_
      refine fg_0_0 (k := 22) hx hb hts in_X0_drawYear_0 hown hK hP (by decide) (by decide) (hts _ lk_X0_drawYear_9) dX0_drawYear_26 ?_
      refine fgN_9_4 (k := 2) hx hb hts in_X0_drawYear_9 hown hK hP (by decide) (by decide) (hN.use nw_0_121) dX0_drawYear_29 ?_
      have hr16 := rg_9_4 hR (k := 2) (by decide) (by decide)
      refine r_cVi (k := 22) (As := [.int (σ13 2 4)]) (rest := [.int x2, .ref (ad k1), .ref (ad 22)]) ⟨hx, hb, hml, hown, hts⟩ hK hP hN hS (c_X0_draw l D cA ad hI σ13 τ0 hR (σ13 2 4)) (cwV 1 hts gX0_drawYear_X0_draw rfl rfl rfl (by decide +kernel) ⟨by decide, by decide⟩) (rv_Acts hK hP (by decide) (by decide)) rfl hl.1 rfl (Nat.le_of_ble_eq_true rfl) dX0_drawYear_32 (Nat.zero_le _) (Nat.zero_le _) (fun r17 u17 H17 locs17 hp17 hP hS => ?_)
      obtain ⟨σ17, τ17⟩ := u17
      obtain ⟨hR, f17, fL17⟩ : P_X0_draw σ13 τ0 (σ13 2 4) r17 σ17 τ17 := hp17
      have hP : va_P D vwCl (gw cA ad σ17 τ17) H17 := hP
      obtain rfl := FrL.nil fL17
      have hF := hF.step f17 (by decide)
      refine r_cVi (k := 22) (As := [.ref (ad k1), .int x2, .int r17]) (rest := []) ⟨hx, hb, hml, hown, hts⟩ hK hP hN hS (c_X0_walk l D cA ad hI σ17 τ0 hR k1 x2 r17 ⟨by omega, by omega⟩ (by omega)) (cwV 3 hts gX0_drawYear_X0_walk rfl rfl rfl (by decide +kernel) ⟨by decide, by decide⟩) (rv_Acts hK hP (by decide) (by decide)) rfl hl.1 rfl (Nat.le_of_ble_eq_true rfl) dX0_drawYear_35 (Nat.zero_le _) (Nat.zero_le _) (fun r18 u18 H18 locs18 hp18 hP hS => ?_)
      obtain ⟨σ18, τ18⟩ := u18
      obtain ⟨hR, f18, fL18, hq18⟩ : P_X0_walk σ17 τ0 k1 x2 r17 r18 σ18 τ18 := hp18
      have hP : va_P D vwCl (gw cA ad σ18 τ18) H18 := hP
      obtain rfl := FrL.nil fL18
      have hF := hF.step f18 (by decide)
      refine lv_pop hx hb dX0_drawYear_38 rfl ?_
      refine r_iinc (k := 2) (lv1 := fun z19 => [(2, .int z19), (0, .ref (ad 22)), (1, .ref (ad k1))]) hx hb dX0_drawYear_39 hl rfl (by decide) (fun _ => rfl) (by decide) (by omega) (fun z19 ls ez19 hl => ?_)
      refine lv_goto (tgt := 2) hx hb dX0_drawYear_42 (by decide) ?_
      exact K2 σ18 τ0 H18 locs18 z19 ls hR hF hFL hP hS (by omega) (lv_sub hl [1, 2, 0] rfl) (by omega)
theorem A_X0_drawYear (p : Program) (l : Launch) (e : Env) (s : State) (m : MethodId) (args : Array Value) (below : List Frame) (meth : Method) (c : Code) (D : va_G) (cA : Nat → ClassId) (ad : Nat → Nat) (σ0 : Nat → Nat → Int32) (τ0 : Nat → Nat → Int64) (k1 : Nat) (C : Cy p s m args meth c cX0_drawYear 3 wsX0_drawYear RX0 D cA ad none) (hk1 : 7 ≤ k1 ∧ k1 ≤ 9) : ∀ n : Nat, J_X0_drawYear_2 p l e s m args below meth c D cA ad σ0 τ0 k1 n := by
  intro n
  induction n with
  | zero =>
    exact (by intro σ τ H locs x2 ls hR hF hFL hP hS hc0 hl hm; exfalso; omega)
  | succ n ih =>
    exact B_X0_drawYear_2 p l e s m args below meth c D cA ad σ0 τ0 k1 n C hk1 ih
set_option maxHeartbeats 4000000 in
theorem c_X0_drawYear (l : Launch) (D : va_G) (cA : Nat → ClassId) (ad : Nat → Nat) (hI : Inj ad) (σ0 : Nat → Nat → Int32) (τ0 : Nat → Nat → Int64) (hR : Rg σ0) (k1 : Nat) (hk1 : 7 ≤ k1 ∧ k1 ≤ 9) : Met l yX0_drawYear wsX0_drawYear ({ frames := 5, cells := 0, slots := 0, locals := 117 } : Room) (WQc D cA ad [.ref (ad 22), .ref (ad k1)] σ0 τ0) (va_Qv (fun u : SS => P_X0_drawYear σ0 τ0 k1 u.1 u.2) (WB D cA ad) (AA ad)) 0 0 (AA ad) := by
  refine Met.ofW (cc := cX0_drawYear) (maxL := 3) (ret := none) (by decide) rfl ?_
  intro p e s m args below meth c s₁ B hml hv
  obtain ⟨rfl, hP, hK, hN⟩ := hv
  have C : Cy p s m _ meth c cX0_drawYear 3 wsX0_drawYear RX0 D cA ad none := ⟨B.exec, B.bytes, hml, findClass_of_methodNamed B.named, atoms_spec (ws := wsX0_drawYear) B.pre, hK, B.notSynchronized, B.returns, hI, hN⟩
  have hl := lv_entry ([.ref (ad 22), .ref (ad k1)]) (n := 3) (Nat.le_of_ble_eq_true rfl)
  rw [lg_entry_eq]
  generalize (lg_sl ([.ref (ad 22), .ref (ad k1)]) ++ List.replicate (3 - (lg_sl ([.ref (ad 22), .ref (ad k1)])).length) Slot.unset).toArray = ls at hl ⊢
  have hl : lv_has ls 3 [(0, .ref (ad 22)), (1, .ref (ad k1))] := hl
  have hS : va_S (AA ad) s.heap s.heap [] := va_S.rf
  have hF : Fr L_X0_drawYear σ0 σ0 := Fr.rf
  have hFL : FrL LL_X0_drawYear τ0 τ0 := FrL.rf
  have hA := A_X0_drawYear p l e s m _ below meth c D cA ad σ0 τ0 k1 C hk1 42
  have K2 := hA
  clear hA
  obtain ⟨hx, hb, _, hown, hts, _, hk, hr, _, _⟩ := C
  refine r_iconst hx hb dX0_drawYear_0 (by decide) (fun z1 ez1 => ?_)
  refine lv_istore_n (lv' := [(2, .int z1), (0, .ref (ad 22)), (1, .ref (ad k1))]) hx hb dX0_drawYear_1 rfl hl (by decide) rfl (fun ls hl => ?_)
  exact K2 σ0 τ0 s.heap [] z1 ls hR hF hFL hP hS (by omega) (lv_sub hl [1, 2, 0] rfl) (by omega)
theorem in_X0_drawYears_0 : ∀ w ∈ u_ws RX0 TX0 3, w ∈ wsX0_drawYears := by decide +kernel
theorem in_X0_drawYears_2 : ∀ w ∈ u_ws RX2 TX2 7, w ∈ wsX0_drawYears := by decide +kernel
theorem lk_X0_drawYears_110 : Cond.fieldLink RX0 110 "CuckooShares$Acts" "seed" "I" ∈ wsX0_drawYears := by decide +kernel
abbrev L_X0_drawYears : List Rc := [(22, 22, 2, 2), (308, 310, 0, 7), (360, 360, 0, 7), (361, 361, 0, 7), (362, 362, 0, 7), (363, 363, 0, 39), (365, 365, 0, 1), (366, 366, 0, 1), (367, 367, 0, 1), (7, 9, 0, 2), (347, 349, 0, 7), (334, 336, 0, 7)]
abbrev LL_X0_drawYears : List Rc := []
def P_X0_drawYears (σ0 : Nat → Nat → Int32) (τ0 : Nat → Nat → Int64) (k1 : Nat) (a2 : Int32) (a3 : Int32) (r : Int32) (σ : Nat → Nat → Int32) (τ : Nat → Nat → Int64) : Prop := Rg σ ∧ Fr L_X0_drawYears σ0 σ ∧ FrL LL_X0_drawYears τ0 τ ∧ (0 ≤ r.toInt ∧ r.toInt ≤ 40)
def J_X0_drawYears_8 (p : Program) (l : Launch) (e : Env) (s : State) (m : MethodId) (args : Array Value) (below : List Frame) (meth : Method) (c : Code) (D : va_G) (cA : Nat → ClassId) (ad : Nat → Nat) (σ0 : Nat → Nat → Int32) (τ0 : Nat → Nat → Int64) (k1 : Nat) (a2 : Int32) (a3 : Int32) (n : Nat) : Prop := ∀ (σ : Nat → Nat → Int32) (τ : Nat → Nat → Int64) (H : Heap) (locs : List Loc) (x4 : Int32) (ls : Array Slot), Rg σ → Fr L_X0_drawYears σ0 σ → FrL LL_X0_drawYears τ0 τ → va_P D vwCl (gw cA ad σ τ) H → va_S (AA ad) s.heap H locs → (0 ≤ x4.toInt ∧ x4.toInt ≤ 40) → lv_has ls 5 [(0, .ref (ad 22)), (1, .ref (ad k1)), (2, .int a2), (3, .int a3), (4, .int x4)] → 2 * (40 - x4.toInt) + 1 < (n : Int) → W p l e ({ frames := 6, cells := 0, slots := 0, locals := 139 } : Room) s m args below meth c H locs 0 0 (MQ below (va_Qi (fun (r : Int32) (u : SS) => P_X0_drawYears σ0 τ0 k1 a2 a3 r u.1 u.2) (WB D cA ad) (AA ad)) args s 0 0 (AA ad)) (F0 m 8 ls [])
set_option maxHeartbeats 4000000 in
theorem B_X0_drawYears_8 (p : Program) (l : Launch) (e : Env) (s : State) (m : MethodId) (args : Array Value) (below : List Frame) (meth : Method) (c : Code) (D : va_G) (cA : Nat → ClassId) (ad : Nat → Nat) (σ0 : Nat → Nat → Int32) (τ0 : Nat → Nat → Int64) (k1 : Nat) (a2 : Int32) (a3 : Int32) (n : Nat) (C : Cy p s m args meth c cX0_drawYears 5 wsX0_drawYears RX0 D cA ad (some .int)) (hk1 : 7 ≤ k1 ∧ k1 ≤ 9) (ha2 : 1 ≤ a2.toInt ∧ a2.toInt ≤ 40) (K8 : J_X0_drawYears_8 p l e s m args below meth c D cA ad σ0 τ0 k1 a2 a3 n) : J_X0_drawYears_8 p l e s m args below meth c D cA ad σ0 τ0 k1 a2 a3 (n + 1) := by
  obtain ⟨hx, hb, hml, hown, hts, hK, hk, hr, hI, hN⟩ := C
  intro σ τ H locs x4 ls hR hF hFL hP hS hc0 hl hm
  obtain rfl := FrL.nil hFL
  refine lv_iload hx hb dX0_drawYears_8 (lv_at hl 4 rfl) ?_
  refine lv_iload_n hx hb dX0_drawYears_10 rfl (lv_at hl 2 rfl) ?_
  refine r_icmp_ge (tgt := 34) hx hb dX0_drawYears_11 (by decide) (fun c1 => ?_) (fun c1 => ?_)
  · refine lv_iload hx hb dX0_drawYears_34 (lv_at hl 4 rfl) ?_
    exact r_iret hx hb hr hK hP hS hk dX0_drawYears_36 (show P_X0_drawYears σ0 τ0 k1 a2 a3 x4 σ τ0 from ⟨hR, hF, hFL, by omega⟩)
  · refine lv_aload_n hx hb dX0_drawYears_14 rfl (lv_at hl 1 rfl) ?_
    refine fgN_2_0 (k := k1) hx hb hts in_X0_drawYears_2 hown hK hP (by omega) (by omega) (hN.use nw_0_88) dX0_drawYears_15 ?_
    refine r_bipush hx hb dX0_drawYears_18 (by decide) (fun z2 ez2 => ?_)
    refine r_icmp_ge (tgt := 34) hx hb dX0_drawYears_20 (by decide) (fun c3 => ?_) (fun c3 => ?_)
    · refine lv_iload hx hb dX0_drawYears_34 (lv_at hl 4 rfl) ?_
      exact r_iret hx hb hr hK hP hS hk dX0_drawYears_36 (show P_X0_drawYears σ0 τ0 k1 a2 a3 x4 σ τ0 from ⟨hR, hF, hFL, by omega⟩)
    · refine lv_aload_n hx hb dX0_drawYears_23 rfl (lv_at hl 0 rfl) ?_
      refine lv_aload_n hx hb dX0_drawYears_24 rfl (lv_at hl 1 rfl) ?_
      refine r_cVv (k := 22) (As := [.ref (ad k1)]) (rest := []) ⟨hx, hb, hml, hown, hts⟩ hK hP hN hS (c_X0_drawYear l D cA ad hI σ τ0 hR k1 ⟨by omega, by omega⟩) (cwV 1 hts gX0_drawYears_X0_drawYear rfl rfl rfl (by decide +kernel) ⟨by decide, by decide⟩) (rv_Acts hK hP (by decide) (by decide)) rfl hl.1 rfl (Nat.le_of_ble_eq_true rfl) dX0_drawYears_25 (Nat.zero_le _) (Nat.zero_le _) (fun u4 H4 locs4 hp4 hP hS => ?_)
      obtain ⟨σ4, τ4⟩ := u4
      obtain ⟨hR, f4, fL4⟩ : P_X0_drawYear σ τ0 k1 σ4 τ4 := hp4
      have hP : va_P D vwCl (gw cA ad σ4 τ4) H4 := hP
      obtain rfl := FrL.nil fL4
      have hF := hF.step f4 (by decide)
      refine r_iinc (k := 4) (lv1 := fun z5 => [(4, .int z5), (0, .ref (ad 22)), (1, .ref (ad k1)), (2, .int a2), (3, .int a3)]) hx hb dX0_drawYears_28 hl rfl (by decide) (fun _ => rfl) (by decide) (by omega) (fun z5 ls ez5 hl => ?_)
      refine lv_goto (tgt := 8) hx hb dX0_drawYears_31 (by decide) ?_
      exact K8 σ4 τ0 H4 locs4 z5 ls hR hF hFL hP hS (by omega) (lv_sub hl [1, 2, 3, 4, 0] rfl) (by omega)
theorem A_X0_drawYears (p : Program) (l : Launch) (e : Env) (s : State) (m : MethodId) (args : Array Value) (below : List Frame) (meth : Method) (c : Code) (D : va_G) (cA : Nat → ClassId) (ad : Nat → Nat) (σ0 : Nat → Nat → Int32) (τ0 : Nat → Nat → Int64) (k1 : Nat) (a2 : Int32) (a3 : Int32) (C : Cy p s m args meth c cX0_drawYears 5 wsX0_drawYears RX0 D cA ad (some .int)) (hk1 : 7 ≤ k1 ∧ k1 ≤ 9) (ha2 : 1 ≤ a2.toInt ∧ a2.toInt ≤ 40) : ∀ n : Nat, J_X0_drawYears_8 p l e s m args below meth c D cA ad σ0 τ0 k1 a2 a3 n := by
  intro n
  induction n with
  | zero =>
    exact (by intro σ τ H locs x4 ls hR hF hFL hP hS hc0 hl hm; exfalso; omega)
  | succ n ih =>
    exact B_X0_drawYears_8 p l e s m args below meth c D cA ad σ0 τ0 k1 a2 a3 n C hk1 ha2 ih
set_option maxHeartbeats 4000000 in
theorem c_X0_drawYears (l : Launch) (D : va_G) (cA : Nat → ClassId) (ad : Nat → Nat) (hI : Inj ad) (σ0 : Nat → Nat → Int32) (τ0 : Nat → Nat → Int64) (hR : Rg σ0) (k1 : Nat) (a2 : Int32) (a3 : Int32) (hk1 : 7 ≤ k1 ∧ k1 ≤ 9) (ha2 : 1 ≤ a2.toInt ∧ a2.toInt ≤ 40) : Met l yX0_drawYears wsX0_drawYears ({ frames := 6, cells := 0, slots := 0, locals := 139 } : Room) (WQc D cA ad [.ref (ad 22), .ref (ad k1), .int a2, .int a3] σ0 τ0) (va_Qi (fun (r : Int32) (u : SS) => P_X0_drawYears σ0 τ0 k1 a2 a3 r u.1 u.2) (WB D cA ad) (AA ad)) 0 0 (AA ad) := by
  refine Met.ofW (cc := cX0_drawYears) (maxL := 5) (ret := (some .int)) (by decide) rfl ?_
  intro p e s m args below meth c s₁ B hml hv
  obtain ⟨rfl, hP, hK, hN⟩ := hv
  have C : Cy p s m _ meth c cX0_drawYears 5 wsX0_drawYears RX0 D cA ad (some .int) := ⟨B.exec, B.bytes, hml, findClass_of_methodNamed B.named, atoms_spec (ws := wsX0_drawYears) B.pre, hK, B.notSynchronized, B.returns, hI, hN⟩
  have hl := lv_entry ([.ref (ad 22), .ref (ad k1), .int a2, .int a3]) (n := 5) (Nat.le_of_ble_eq_true rfl)
  rw [lg_entry_eq]
  generalize (lg_sl ([.ref (ad 22), .ref (ad k1), .int a2, .int a3]) ++ List.replicate (5 - (lg_sl ([.ref (ad 22), .ref (ad k1), .int a2, .int a3])).length) Slot.unset).toArray = ls at hl ⊢
  have hl : lv_has ls 5 [(0, .ref (ad 22)), (1, .ref (ad k1)), (2, .int a2), (3, .int a3)] := hl
  have hS : va_S (AA ad) s.heap s.heap [] := va_S.rf
  have hF : Fr L_X0_drawYears σ0 σ0 := Fr.rf
  have hFL : FrL LL_X0_drawYears τ0 τ0 := FrL.rf
  have hA := A_X0_drawYears p l e s m _ below meth c D cA ad σ0 τ0 k1 a2 a3 C hk1 ha2 170
  have K8 := hA
  clear hA
  obtain ⟨hx, hb, _, hown, hts, _, hk, hr, _, _⟩ := C
  refine lv_aload_n hx hb dX0_drawYears_0 rfl (lv_at hl 0 rfl) ?_
  refine lv_iload_n hx hb dX0_drawYears_1 rfl (lv_at hl 3 rfl) ?_
  refine fp_0_2 (k := 22) hx hb hts in_X0_drawYears_0 hown hK hP (by decide) (by decide) (hts _ lk_X0_drawYears_110) hI hR hS dX0_drawYears_2 (fun σ1 H1 locs1 u1 v1 hR hP hS => ?_)
  have hF := hF.puts u1 0 rfl (by decide) (by decide) (by decide) (by decide)
  refine r_iconst hx hb dX0_drawYears_5 (by decide) (fun z2 ez2 => ?_)
  refine lv_istore (lv' := [(4, .int z2), (0, .ref (ad 22)), (1, .ref (ad k1)), (2, .int a2), (3, .int a3)]) hx hb dX0_drawYears_6 hl (by decide) rfl (fun ls hl => ?_)
  exact K8 σ1 τ0 H1 locs1 z2 ls hR hF hFL hP hS (by omega) (lv_sub hl [1, 2, 3, 4, 0] rfl) (by omega)
abbrev L_X5_above : List Rc := []
abbrev LL_X5_above : List Rc := []
def P_X5_above (σ0 : Nat → Nat → Int32) (τ0 : Nat → Nat → Int64) (a0 : Int32) (a1 : Int32) (r : Int32) (σ : Nat → Nat → Int32) (τ : Nat → Nat → Int64) : Prop := Rg σ ∧ Fr L_X5_above σ0 σ ∧ FrL LL_X5_above τ0 τ ∧ (0 ≤ r.toInt ∧ r.toInt ≤ 44)
set_option maxHeartbeats 4000000 in
theorem c_X5_above (l : Launch) (D : va_G) (cA : Nat → ClassId) (ad : Nat → Nat) (hI : Inj ad) (σ0 : Nat → Nat → Int32) (τ0 : Nat → Nat → Int64) (hR : Rg σ0) (a0 : Int32) (a1 : Int32) (ha0 : 10 ≤ a0.toInt ∧ a0.toInt ≤ 40) (ha1 : 0 ≤ a1.toInt ∧ a1.toInt ≤ 4) : Met l yX5_above wsX5_above ({ frames := 0, cells := 0, slots := 0, locals := 0 } : Room) (WQc D cA ad [.int a0, .int a1] σ0 τ0) (va_Qi (fun (r : Int32) (u : SS) => P_X5_above σ0 τ0 a0 a1 r u.1 u.2) (WB D cA ad) (AA ad)) 0 0 (AA ad) := by
  refine Met.ofW (cc := cX5_above) (maxL := 2) (ret := (some .int)) (by decide) rfl ?_
  intro p e s m args below meth c s₁ B hml hv
  obtain ⟨rfl, hP, hK, hN⟩ := hv
  have C : Cy p s m _ meth c cX5_above 2 wsX5_above RX5 D cA ad (some .int) := ⟨B.exec, B.bytes, hml, findClass_of_methodNamed B.named, atoms_spec (ws := wsX5_above) B.pre, hK, B.notSynchronized, B.returns, hI, hN⟩
  have hl := lv_entry ([.int a0, .int a1]) (n := 2) (Nat.le_of_ble_eq_true rfl)
  rw [lg_entry_eq]
  generalize (lg_sl ([.int a0, .int a1]) ++ List.replicate (2 - (lg_sl ([.int a0, .int a1])).length) Slot.unset).toArray = ls at hl ⊢
  have hl : lv_has ls 2 [(0, .int a0), (1, .int a1)] := hl
  have hS : va_S (AA ad) s.heap s.heap [] := va_S.rf
  have hF : Fr L_X5_above σ0 σ0 := Fr.rf
  have hFL : FrL LL_X5_above τ0 τ0 := FrL.rf
  obtain ⟨hx, hb, _, hown, hts, _, hk, hr, _, _⟩ := C
  refine lv_iload_n hx hb dX5_above_0 rfl (lv_at hl 1 rfl) ?_
  refine r_if_ne (tgt := 8) hx hb dX5_above_1 (by decide) (fun c1 => ?_) (fun c1 => ?_)
  · refine lv_iload_n hx hb dX5_above_8 rfl (lv_at hl 0 rfl) ?_
    refine lv_iload_n hx hb dX5_above_9 rfl (lv_at hl 1 rfl) ?_
    refine r_iadd hx hb dX5_above_10 (by omega) (fun z2 ez2 => ?_)
    exact r_iret hx hb hr hK hP hS hk dX5_above_11 (show P_X5_above σ0 τ0 a0 a1 z2 σ0 τ0 from ⟨hR, hF, hFL, by omega⟩)
  · refine r_iconst hx hb dX5_above_4 (by decide) (fun z3 ez3 => ?_)
    refine lv_goto (tgt := 11) hx hb dX5_above_5 (by decide) ?_
    exact r_iret hx hb hr hK hP hS hk dX5_above_11 (show P_X5_above σ0 τ0 a0 a1 z3 σ0 τ0 from ⟨hR, hF, hFL, by omega⟩)
theorem in_X5_whyWrong_5 : ∀ w ∈ u_ws RX5 TX5 8, w ∈ wsX5_whyWrong := by decide +kernel
theorem lk_X5_whyWrong_25 : Cond.fieldLink RX5 25 "CuckooShares$Roll" "valley" "LCuckooShares$Valley;" ∈ wsX5_whyWrong := by decide +kernel
theorem lk_X5_whyWrong_29 : Cond.fieldLink RX5 29 "CuckooShares$Roll" "acts" "LCuckooShares$Acts;" ∈ wsX5_whyWrong := by decide +kernel
abbrev L_X5_whyWrong : List Rc := [(308, 310, 0, 7), (334, 336, 0, 7), (321, 323, 0, 7), (360, 360, 0, 7), (361, 361, 0, 7), (362, 362, 0, 7), (365, 365, 0, 1), (366, 366, 0, 1), (367, 367, 0, 1), (7, 9, 0, 2), (347, 349, 0, 7)]
abbrev LL_X5_whyWrong : List Rc := []
def P_X5_whyWrong (σ0 : Nat → Nat → Int32) (τ0 : Nat → Nat → Int64) (a2 : Int32) (a3 : Int32) (a4 : Int32) (r : Int32) (σ : Nat → Nat → Int32) (τ : Nat → Nat → Int64) : Prop := Rg σ ∧ Fr L_X5_whyWrong σ0 σ ∧ FrL LL_X5_whyWrong τ0 τ ∧ (0 ≤ r.toInt ∧ r.toInt ≤ 44)
set_option maxHeartbeats 4000000 in
theorem c_X5_whyWrong (l : Launch) (D : va_G) (cA : Nat → ClassId) (ad : Nat → Nat) (hI : Inj ad) (σ0 : Nat → Nat → Int32) (τ0 : Nat → Nat → Int64) (hR : Rg σ0) (a2 : Int32) (a3 : Int32) (a4 : Int32) (hpre0 : a2.toInt < 16 ∨ 18 < a2.toInt ∨ (0 ≤ a3.toInt ∧ a3.toInt ≤ 7)) (hpre1 : a2.toInt ≠ 18 ∨ (0 ≤ a4.toInt ∧ a4.toInt ≤ 7)) : Met l yX5_whyWrong wsX5_whyWrong ({ frames := 5, cells := 0, slots := 0, locals := 119 } : Room) (WQc D cA ad [.ref (ad 28), .ref (ad 9), .int a2, .int a3, .int a4] σ0 τ0) (va_Qi (fun (r : Int32) (u : SS) => P_X5_whyWrong σ0 τ0 a2 a3 a4 r u.1 u.2) (WB D cA ad) (AA ad)) 0 0 (AA ad) := by
  refine Met.ofW (cc := cX5_whyWrong) (maxL := 5) (ret := (some .int)) (by decide) rfl ?_
  intro p e s m args below meth c s₁ B hml hv
  obtain ⟨rfl, hP, hK, hN⟩ := hv
  have C : Cy p s m _ meth c cX5_whyWrong 5 wsX5_whyWrong RX5 D cA ad (some .int) := ⟨B.exec, B.bytes, hml, findClass_of_methodNamed B.named, atoms_spec (ws := wsX5_whyWrong) B.pre, hK, B.notSynchronized, B.returns, hI, hN⟩
  have hl := lv_entry ([.ref (ad 28), .ref (ad 9), .int a2, .int a3, .int a4]) (n := 5) (Nat.le_of_ble_eq_true rfl)
  rw [lg_entry_eq]
  generalize (lg_sl ([.ref (ad 28), .ref (ad 9), .int a2, .int a3, .int a4]) ++ List.replicate (5 - (lg_sl ([.ref (ad 28), .ref (ad 9), .int a2, .int a3, .int a4])).length) Slot.unset).toArray = ls at hl ⊢
  have hl : lv_has ls 5 [(0, .ref (ad 28)), (1, .ref (ad 9)), (2, .int a2), (3, .int a3), (4, .int a4)] := hl
  have hS : va_S (AA ad) s.heap s.heap [] := va_S.rf
  have hF : Fr L_X5_whyWrong σ0 σ0 := Fr.rf
  have hFL : FrL LL_X5_whyWrong τ0 τ0 := FrL.rf
  obtain ⟨hx, hb, _, hown, hts, _, hk, hr, _, _⟩ := C
  refine lv_iload_n hx hb dX5_whyWrong_0 rfl (lv_at hl 2 rfl) ?_
  by_cases c1 : a2.toInt = 14
  · refine lv_tableIn (off := 35) (tgt := 36) hx hb dX5_whyWrong_1 (by omega) (by omega) (by rw [c1]; rfl) (by decide) ?_
    refine lv_aload_n hx hb dX5_whyWrong_36 rfl (lv_at hl 0 rfl) ?_
    refine fg_5_1 (k := 28) hx hb hts in_X5_whyWrong_5 hown hK hP (by decide) (by decide) (hts _ lk_X5_whyWrong_25) dX5_whyWrong_37 ?_
    refine lv_iload hx hb dX5_whyWrong_40 (lv_at hl 4 rfl) ?_
    refine r_cVi (k := 2) (As := [.int a4]) (rest := []) ⟨hx, hb, hml, hown, hts⟩ hK hP hN hS (c_X9_hasFlight l D cA ad hI σ0 τ0 hR 2 a4 ⟨by omega, by omega⟩) (cwV 1 hts gX5_whyWrong_X9_hasFlight rfl rfl rfl (by decide +kernel) ⟨by decide, by decide⟩) (rv_Valley hK hP (by decide) (by decide)) rfl hl.1 rfl (Nat.le_of_ble_eq_true rfl) dX5_whyWrong_42 (Nat.zero_le _) (Nat.zero_le _) (fun r2 u2 H2 locs2 hp2 hP hS => ?_)
    obtain ⟨σ2, τ2⟩ := u2
    obtain ⟨hR, f2, fL2, hq2, hp2_0, hp2_1⟩ : P_X9_hasFlight σ0 τ0 2 a4 r2 σ2 τ2 := hp2
    have hP : va_P D vwCl (gw cA ad σ2 τ2) H2 := hP
    obtain rfl := FrL.nil fL2
    obtain rfl := Fr.nil f2
    refine r_if_eq (tgt := 61) hx hb dX5_whyWrong_45 (by decide) (fun c3 => ?_) (fun c3 => ?_)
    · refine r_bipush hx hb dX5_whyWrong_61 (by decide) (fun z4 ez4 => ?_)
      exact r_iret hx hb hr hK hP hS hk dX5_whyWrong_63 (show P_X5_whyWrong σ0 τ0 a2 a3 a4 z4 σ0 τ0 from ⟨hR, hF, hFL, by omega⟩)
    · refine lv_aload_n hx hb dX5_whyWrong_48 rfl (lv_at hl 0 rfl) ?_
      refine fg_5_2 (k := 28) hx hb hts in_X5_whyWrong_5 hown hK hP (by decide) (by decide) (hts _ lk_X5_whyWrong_29) dX5_whyWrong_49 ?_
      refine lv_aload_n hx hb dX5_whyWrong_52 rfl (lv_at hl 1 rfl) ?_
      refine lv_iload hx hb dX5_whyWrong_53 (lv_at hl 4 rfl) ?_
      refine r_cVi (k := 22) (As := [.ref (ad 9), .int a4]) (rest := []) ⟨hx, hb, hml, hown, hts⟩ hK hP hN hS (c_X0_arrive l D cA ad hI σ0 τ0 hR 9 a4 ⟨by omega, by omega⟩ (by omega)) (cwV 2 hts gX5_whyWrong_X0_arrive rfl rfl rfl (by decide +kernel) ⟨by decide, by decide⟩) (rv_Acts hK hP (by decide) (by decide)) rfl hl.1 rfl (Nat.le_of_ble_eq_true rfl) dX5_whyWrong_55 (Nat.zero_le _) (Nat.zero_le _) (fun r5 u5 H5 locs5 hp5 hP hS => ?_)
      obtain ⟨σ5, τ5⟩ := u5
      obtain ⟨hR, f5, fL5, hq5⟩ : P_X0_arrive σ0 τ0 9 a4 r5 σ5 τ5 := hp5
      have hP : va_P D vwCl (gw cA ad σ5 τ5) H5 := hP
      obtain rfl := FrL.nil fL5
      have hF := hF.step f5 (by decide)
      refine lv_goto (tgt := 63) hx hb dX5_whyWrong_58 (by decide) ?_
      exact r_iret hx hb hr hK hP hS hk dX5_whyWrong_63 (show P_X5_whyWrong σ0 τ0 a2 a3 a4 r5 σ5 τ0 from ⟨hR, hF, hFL, by omega⟩)
  by_cases c6 : a2.toInt = 15
  · refine lv_tableIn (off := 63) (tgt := 64) hx hb dX5_whyWrong_1 (by omega) (by omega) (by rw [c6]; rfl) (by decide) ?_
    refine lv_aload_n hx hb dX5_whyWrong_64 rfl (lv_at hl 0 rfl) ?_
    refine fg_5_2 (k := 28) hx hb hts in_X5_whyWrong_5 hown hK hP (by decide) (by decide) (hts _ lk_X5_whyWrong_29) dX5_whyWrong_65 ?_
    refine lv_aload_n hx hb dX5_whyWrong_68 rfl (lv_at hl 1 rfl) ?_
    refine lv_iload hx hb dX5_whyWrong_69 (lv_at hl 4 rfl) ?_
    refine r_cVv (k := 22) (As := [.ref (ad 9), .int a4]) (rest := []) ⟨hx, hb, hml, hown, hts⟩ hK hP hN hS (c_X0_passHours l D cA ad hI σ0 τ0 hR 9 a4 ⟨by omega, by omega⟩) (cwV 2 hts gX5_whyWrong_X0_passHours rfl rfl rfl (by decide +kernel) ⟨by decide, by decide⟩) (rv_Acts hK hP (by decide) (by decide)) rfl hl.1 rfl (Nat.le_of_ble_eq_true rfl) dX5_whyWrong_71 (Nat.zero_le _) (Nat.zero_le _) (fun u7 H7 locs7 hp7 hP hS => ?_)
    obtain ⟨σ7, τ7⟩ := u7
    obtain ⟨hR, f7, fL7⟩ : P_X0_passHours σ0 τ0 9 a4 σ7 τ7 := hp7
    have hP : va_P D vwCl (gw cA ad σ7 τ7) H7 := hP
    obtain rfl := FrL.nil fL7
    have hF := hF.step f7 (by decide)
    refine r_iconst hx hb dX5_whyWrong_74 (by decide) (fun z8 ez8 => ?_)
    exact r_iret hx hb hr hK hP hS hk dX5_whyWrong_75 (show P_X5_whyWrong σ0 τ0 a2 a3 a4 z8 σ7 τ0 from ⟨hR, hF, hFL, by omega⟩)
  by_cases c9 : a2.toInt = 16
  · refine lv_tableIn (off := 75) (tgt := 76) hx hb dX5_whyWrong_1 (by omega) (by omega) (by rw [c9]; rfl) (by decide) ?_
    refine r_bipush hx hb dX5_whyWrong_76 (by decide) (fun z10 ez10 => ?_)
    refine lv_aload_n hx hb dX5_whyWrong_78 rfl (lv_at hl 0 rfl) ?_
    refine fg_5_2 (k := 28) hx hb hts in_X5_whyWrong_5 hown hK hP (by decide) (by decide) (hts _ lk_X5_whyWrong_29) dX5_whyWrong_79 ?_
    refine lv_aload_n hx hb dX5_whyWrong_82 rfl (lv_at hl 1 rfl) ?_
    refine lv_iload_n hx hb dX5_whyWrong_83 rfl (lv_at hl 3 rfl) ?_
    refine lv_iload hx hb dX5_whyWrong_84 (lv_at hl 4 rfl) ?_
    refine r_cVi (k := 22) (As := [.ref (ad 9), .int a3, .int a4]) (rest := [.int z10]) ⟨hx, hb, hml, hown, hts⟩ hK hP hN hS (c_X0_walk l D cA ad hI σ0 τ0 hR 9 a3 a4 ⟨by omega, by omega⟩ (by omega)) (cwV 3 hts gX5_whyWrong_X0_walk rfl rfl rfl (by decide +kernel) ⟨by decide, by decide⟩) (rv_Acts hK hP (by decide) (by decide)) rfl hl.1 rfl (Nat.le_of_ble_eq_true rfl) dX5_whyWrong_86 (Nat.zero_le _) (Nat.zero_le _) (fun r11 u11 H11 locs11 hp11 hP hS => ?_)
    obtain ⟨σ11, τ11⟩ := u11
    obtain ⟨hR, f11, fL11, hq11⟩ : P_X0_walk σ0 τ0 9 a3 a4 r11 σ11 τ11 := hp11
    have hP : va_P D vwCl (gw cA ad σ11 τ11) H11 := hP
    obtain rfl := FrL.nil fL11
    have hF := hF.step f11 (by decide)
    refine r_cSi (As := [.int z10, .int r11]) (rest := []) ⟨hx, hb, hml, hown, hts⟩ hK hP hN hS (c_X5_above l D cA ad hI σ11 τ0 hR z10 r11 (by omega) (by omega)) (va_cwS 2 hts gX5_whyWrong_X5_above rfl rfl rfl (by decide +kernel) ⟨by decide, by decide⟩) rfl hl.1 rfl (Nat.le_of_ble_eq_true rfl) dX5_whyWrong_89 (Nat.zero_le _) (Nat.zero_le _) (fun r12 u12 H12 locs12 hp12 hP hS => ?_)
    obtain ⟨σ12, τ12⟩ := u12
    obtain ⟨hR, f12, fL12, hq12⟩ : P_X5_above σ11 τ0 z10 r11 r12 σ12 τ12 := hp12
    have hP : va_P D vwCl (gw cA ad σ12 τ12) H12 := hP
    obtain rfl := FrL.nil fL12
    obtain rfl := Fr.nil f12
    exact r_iret hx hb hr hK hP hS hk dX5_whyWrong_92 (show P_X5_whyWrong σ0 τ0 a2 a3 a4 r12 σ11 τ0 from ⟨hR, hF, hFL, by omega⟩)
  by_cases c13 : a2.toInt = 17
  · refine lv_tableIn (off := 92) (tgt := 93) hx hb dX5_whyWrong_1 (by omega) (by omega) (by rw [c13]; rfl) (by decide) ?_
    refine r_bipush hx hb dX5_whyWrong_93 (by decide) (fun z14 ez14 => ?_)
    refine lv_aload_n hx hb dX5_whyWrong_95 rfl (lv_at hl 0 rfl) ?_
    refine fg_5_2 (k := 28) hx hb hts in_X5_whyWrong_5 hown hK hP (by decide) (by decide) (hts _ lk_X5_whyWrong_29) dX5_whyWrong_96 ?_
    refine lv_aload_n hx hb dX5_whyWrong_99 rfl (lv_at hl 1 rfl) ?_
    refine lv_iload_n hx hb dX5_whyWrong_100 rfl (lv_at hl 3 rfl) ?_
    refine lv_iload hx hb dX5_whyWrong_101 (lv_at hl 4 rfl) ?_
    refine r_cVi (k := 22) (As := [.ref (ad 9), .int a3, .int a4]) (rest := [.int z14]) ⟨hx, hb, hml, hown, hts⟩ hK hP hN hS (c_X0_takeOath l D cA ad hI σ0 τ0 hR 9 a3 a4 ⟨by omega, by omega⟩ (by omega)) (cwV 3 hts gX5_whyWrong_X0_takeOath rfl rfl rfl (by decide +kernel) ⟨by decide, by decide⟩) (rv_Acts hK hP (by decide) (by decide)) rfl hl.1 rfl (Nat.le_of_ble_eq_true rfl) dX5_whyWrong_103 (Nat.zero_le _) (Nat.zero_le _) (fun r15 u15 H15 locs15 hp15 hP hS => ?_)
    obtain ⟨σ15, τ15⟩ := u15
    obtain ⟨hR, f15, fL15, hq15⟩ : P_X0_takeOath σ0 τ0 9 a3 a4 r15 σ15 τ15 := hp15
    have hP : va_P D vwCl (gw cA ad σ15 τ15) H15 := hP
    obtain rfl := FrL.nil fL15
    have hF := hF.step f15 (by decide)
    refine r_cSi (As := [.int z14, .int r15]) (rest := []) ⟨hx, hb, hml, hown, hts⟩ hK hP hN hS (c_X5_above l D cA ad hI σ15 τ0 hR z14 r15 (by omega) (by omega)) (va_cwS 2 hts gX5_whyWrong_X5_above rfl rfl rfl (by decide +kernel) ⟨by decide, by decide⟩) rfl hl.1 rfl (Nat.le_of_ble_eq_true rfl) dX5_whyWrong_106 (Nat.zero_le _) (Nat.zero_le _) (fun r16 u16 H16 locs16 hp16 hP hS => ?_)
    obtain ⟨σ16, τ16⟩ := u16
    obtain ⟨hR, f16, fL16, hq16⟩ : P_X5_above σ15 τ0 z14 r15 r16 σ16 τ16 := hp16
    have hP : va_P D vwCl (gw cA ad σ16 τ16) H16 := hP
    obtain rfl := FrL.nil fL16
    obtain rfl := Fr.nil f16
    exact r_iret hx hb hr hK hP hS hk dX5_whyWrong_109 (show P_X5_whyWrong σ0 τ0 a2 a3 a4 r16 σ15 τ0 from ⟨hR, hF, hFL, by omega⟩)
  by_cases c17 : a2.toInt = 18
  · refine lv_tableIn (off := 109) (tgt := 110) hx hb dX5_whyWrong_1 (by omega) (by omega) (by rw [c17]; rfl) (by decide) ?_
    refine lv_iload_n hx hb dX5_whyWrong_110 rfl (lv_at hl 3 rfl) ?_
    refine lv_iload hx hb dX5_whyWrong_111 (lv_at hl 4 rfl) ?_
    refine r_icmp_ne (tgt := 121) hx hb dX5_whyWrong_113 (by decide) (fun c18 => ?_) (fun c18 => ?_)
    · refine r_bipush hx hb dX5_whyWrong_121 (by decide) (fun z19 ez19 => ?_)
      refine lv_aload_n hx hb dX5_whyWrong_123 rfl (lv_at hl 0 rfl) ?_
      refine fg_5_2 (k := 28) hx hb hts in_X5_whyWrong_5 hown hK hP (by decide) (by decide) (hts _ lk_X5_whyWrong_29) dX5_whyWrong_124 ?_
      refine lv_aload_n hx hb dX5_whyWrong_127 rfl (lv_at hl 1 rfl) ?_
      refine lv_iload_n hx hb dX5_whyWrong_128 rfl (lv_at hl 3 rfl) ?_
      refine lv_iload hx hb dX5_whyWrong_129 (lv_at hl 4 rfl) ?_
      refine r_cVi (k := 22) (As := [.ref (ad 9), .int a3, .int a4]) (rest := [.int z19]) ⟨hx, hb, hml, hown, hts⟩ hK hP hN hS (c_X0_callOath l D cA ad hI σ0 τ0 hR 9 a3 a4 ⟨by omega, by omega⟩ (by omega) (by omega)) (cwV 3 hts gX5_whyWrong_X0_callOath rfl rfl rfl (by decide +kernel) ⟨by decide, by decide⟩) (rv_Acts hK hP (by decide) (by decide)) rfl hl.1 rfl (Nat.le_of_ble_eq_true rfl) dX5_whyWrong_131 (Nat.zero_le _) (Nat.zero_le _) (fun r20 u20 H20 locs20 hp20 hP hS => ?_)
      obtain ⟨σ20, τ20⟩ := u20
      obtain ⟨hR, f20, fL20, hq20⟩ : P_X0_callOath σ0 τ0 9 a3 a4 r20 σ20 τ20 := hp20
      have hP : va_P D vwCl (gw cA ad σ20 τ20) H20 := hP
      obtain rfl := FrL.nil fL20
      have hF := hF.step f20 (by decide)
      refine r_cSi (As := [.int z19, .int r20]) (rest := []) ⟨hx, hb, hml, hown, hts⟩ hK hP hN hS (c_X5_above l D cA ad hI σ20 τ0 hR z19 r20 (by omega) (by omega)) (va_cwS 2 hts gX5_whyWrong_X5_above rfl rfl rfl (by decide +kernel) ⟨by decide, by decide⟩) rfl hl.1 rfl (Nat.le_of_ble_eq_true rfl) dX5_whyWrong_134 (Nat.zero_le _) (Nat.zero_le _) (fun r21 u21 H21 locs21 hp21 hP hS => ?_)
      obtain ⟨σ21, τ21⟩ := u21
      obtain ⟨hR, f21, fL21, hq21⟩ : P_X5_above σ20 τ0 z19 r20 r21 σ21 τ21 := hp21
      have hP : va_P D vwCl (gw cA ad σ21 τ21) H21 := hP
      obtain rfl := FrL.nil fL21
      obtain rfl := Fr.nil f21
      exact r_iret hx hb hr hK hP hS hk dX5_whyWrong_137 (show P_X5_whyWrong σ0 τ0 a2 a3 a4 r21 σ20 τ0 from ⟨hR, hF, hFL, by omega⟩)
    · refine r_bipush hx hb dX5_whyWrong_116 (by decide) (fun z22 ez22 => ?_)
      refine lv_goto (tgt := 137) hx hb dX5_whyWrong_118 (by decide) ?_
      exact r_iret hx hb hr hK hP hS hk dX5_whyWrong_137 (show P_X5_whyWrong σ0 τ0 a2 a3 a4 z22 σ0 τ0 from ⟨hR, hF, hFL, by omega⟩)
  refine lv_tableOut (tgt := 138) hx hb dX5_whyWrong_1 (by omega) (by decide) ?_
  refine r_bipush hx hb dX5_whyWrong_138 (by decide) (fun z23 ez23 => ?_)
  refine lv_aload_n hx hb dX5_whyWrong_140 rfl (lv_at hl 0 rfl) ?_
  refine fg_5_2 (k := 28) hx hb hts in_X5_whyWrong_5 hown hK hP (by decide) (by decide) (hts _ lk_X5_whyWrong_29) dX5_whyWrong_141 ?_
  refine lv_aload_n hx hb dX5_whyWrong_144 rfl (lv_at hl 1 rfl) ?_
  refine r_cVi (k := 22) (As := [.ref (ad 9)]) (rest := [.int z23]) ⟨hx, hb, hml, hown, hts⟩ hK hP hN hS (c_X0_shareOut l D cA ad hI σ0 τ0 hR 9 ⟨by omega, by omega⟩) (cwV 1 hts gX5_whyWrong_X0_shareOut rfl rfl rfl (by decide +kernel) ⟨by decide, by decide⟩) (rv_Acts hK hP (by decide) (by decide)) rfl hl.1 rfl (Nat.le_of_ble_eq_true rfl) dX5_whyWrong_145 (Nat.zero_le _) (Nat.zero_le _) (fun r24 u24 H24 locs24 hp24 hP hS => ?_)
  obtain ⟨σ24, τ24⟩ := u24
  obtain ⟨hR, f24, fL24, hq24⟩ : P_X0_shareOut σ0 τ0 9 r24 σ24 τ24 := hp24
  have hP : va_P D vwCl (gw cA ad σ24 τ24) H24 := hP
  obtain rfl := FrL.nil fL24
  have hF := hF.step f24 (by decide)
  refine r_cSi (As := [.int z23, .int r24]) (rest := []) ⟨hx, hb, hml, hown, hts⟩ hK hP hN hS (c_X5_above l D cA ad hI σ24 τ0 hR z23 r24 (by omega) (by omega)) (va_cwS 2 hts gX5_whyWrong_X5_above rfl rfl rfl (by decide +kernel) ⟨by decide, by decide⟩) rfl hl.1 rfl (Nat.le_of_ble_eq_true rfl) dX5_whyWrong_148 (Nat.zero_le _) (Nat.zero_le _) (fun r25 u25 H25 locs25 hp25 hP hS => ?_)
  obtain ⟨σ25, τ25⟩ := u25
  obtain ⟨hR, f25, fL25, hq25⟩ : P_X5_above σ24 τ0 z23 r24 r25 σ25 τ25 := hp25
  have hP : va_P D vwCl (gw cA ad σ25 τ25) H25 := hP
  obtain rfl := FrL.nil fL25
  obtain rfl := Fr.nil f25
  exact r_iret hx hb hr hK hP hS hk dX5_whyWrong_151 (show P_X5_whyWrong σ0 τ0 a2 a3 a4 r25 σ24 τ0 from ⟨hR, hF, hFL, by omega⟩)
theorem in_X5_live_5 : ∀ w ∈ u_ws RX5 TX5 8, w ∈ wsX5_live := by decide +kernel
theorem lk_X5_live_15 : Cond.fieldLink RX5 15 "CuckooShares$Roll" "who" "[I" ∈ wsX5_live := by decide +kernel
theorem lk_X5_live_18 : Cond.fieldLink RX5 18 "CuckooShares$Roll" "object" "[I" ∈ wsX5_live := by decide +kernel
theorem lk_X5_live_33 : Cond.fieldLink RX5 33 "CuckooShares$Roll" "lines" "I" ∈ wsX5_live := by decide +kernel
theorem lk_X5_live_77 : Cond.fieldLink RX5 77 "CuckooShares$Roll" "why" "I" ∈ wsX5_live := by decide +kernel
theorem lk_X5_live_9 : Cond.fieldLink RX5 9 "CuckooShares$Roll" "act" "[I" ∈ wsX5_live := by decide +kernel
abbrev L_X5_live : List Rc := [(28, 28, 7, 7), (308, 310, 0, 7), (334, 336, 0, 7), (321, 323, 0, 7), (360, 360, 0, 7), (361, 361, 0, 7), (362, 362, 0, 7), (365, 365, 0, 1), (366, 366, 0, 1), (367, 367, 0, 1), (7, 9, 0, 2), (347, 349, 0, 7)]
abbrev LL_X5_live : List Rc := []
def P_X5_live (σ0 : Nat → Nat → Int32) (τ0 : Nat → Nat → Int64)  (r : Int32) (σ : Nat → Nat → Int32) (τ : Nat → Nat → Int64) : Prop := Rg σ ∧ Fr L_X5_live σ0 σ ∧ FrL LL_X5_live τ0 τ ∧ (-1 ≤ r.toInt ∧ r.toInt ≤ 39) ∧ RI σ
def J_X5_live_7 (p : Program) (l : Launch) (e : Env) (s : State) (m : MethodId) (args : Array Value) (below : List Frame) (meth : Method) (c : Code) (D : va_G) (cA : Nat → ClassId) (ad : Nat → Nat) (σ0 : Nat → Nat → Int32) (τ0 : Nat → Nat → Int64)  (n : Nat) : Prop := ∀ (σ : Nat → Nat → Int32) (τ : Nat → Nat → Int64) (H : Heap) (locs : List Loc) (x2 : Int32) (ls : Array Slot), Rg σ → Fr L_X5_live σ0 σ → FrL LL_X5_live τ0 τ → va_P D vwCl (gw cA ad σ τ) H → va_S (AA ad) s.heap H locs → (0 ≤ x2.toInt ∧ x2.toInt ≤ 40) → (RI σ) → lv_has ls 3 [(0, .ref (ad 28)), (1, .ref (ad 9)), (2, .int x2)] → 2 * (40 - x2.toInt) + 1 < (n : Int) → W p l e ({ frames := 6, cells := 0, slots := 0, locals := 143 } : Room) s m args below meth c H locs 0 0 (MQ below (va_Qi (fun (r : Int32) (u : SS) => P_X5_live σ0 τ0 r u.1 u.2) (WB D cA ad) (AA ad)) args s 0 0 (AA ad)) (F0 m 7 ls [])
set_option maxHeartbeats 4000000 in
theorem B_X5_live_7 (p : Program) (l : Launch) (e : Env) (s : State) (m : MethodId) (args : Array Value) (below : List Frame) (meth : Method) (c : Code) (D : va_G) (cA : Nat → ClassId) (ad : Nat → Nat) (σ0 : Nat → Nat → Int32) (τ0 : Nat → Nat → Int64)  (n : Nat) (C : Cy p s m args meth c cX5_live 3 wsX5_live RX5 D cA ad (some .int)) (gRI0 : RI σ0) (K7 : J_X5_live_7 p l e s m args below meth c D cA ad σ0 τ0 n) : J_X5_live_7 p l e s m args below meth c D cA ad σ0 τ0 (n + 1) := by
  obtain ⟨hx, hb, hml, hown, hts, hK, hk, hr, hI, hN⟩ := C
  intro σ τ H locs x2 ls hR hF hFL hP hS hc0 gRI hl hm
  obtain rfl := FrL.nil hFL
  refine lv_iload_n hx hb dX5_live_7 rfl (lv_at hl 2 rfl) ?_
  refine lv_aload_n hx hb dX5_live_8 rfl (lv_at hl 0 rfl) ?_
  refine fg_5_6 (k := 28) hx hb hts in_X5_live_5 hown hK hP (by decide) (by decide) (hts _ lk_X5_live_33) dX5_live_9 ?_
  have hr1 := rg_5_6 hR (k := 28) (by decide) (by decide)
  refine r_icmp_ge (tgt := 63) hx hb dX5_live_12 (by decide) (fun c2 => ?_) (fun c2 => ?_)
  · refine r_iconst hx hb dX5_live_63 (by decide) (fun z3 ez3 => ?_)
    exact r_iret hx hb hr hK hP hS hk dX5_live_64 (show P_X5_live σ0 τ0 z3 σ τ0 from ⟨hR, hF, hFL, by omega, gRI⟩)
  · refine lv_iload_n hx hb dX5_live_15 rfl (lv_at hl 2 rfl) ?_
    refine r_bipush hx hb dX5_live_16 (by decide) (fun z4 ez4 => ?_)
    refine r_icmp_ge (tgt := 63) hx hb dX5_live_18 (by decide) (fun c5 => ?_) (fun c5 => ?_)
    · refine r_iconst hx hb dX5_live_63 (by decide) (fun z6 ez6 => ?_)
      exact r_iret hx hb hr hK hP hS hk dX5_live_64 (show P_X5_live σ0 τ0 z6 σ τ0 from ⟨hR, hF, hFL, by omega, gRI⟩)
    · refine lv_aload_n hx hb dX5_live_21 rfl (lv_at hl 0 rfl) ?_
      refine lv_aload_n hx hb dX5_live_22 rfl (lv_at hl 0 rfl) ?_
      refine lv_aload_n hx hb dX5_live_23 rfl (lv_at hl 1 rfl) ?_
      refine lv_aload_n hx hb dX5_live_24 rfl (lv_at hl 0 rfl) ?_
      refine fg_5_3 (k := 28) hx hb hts in_X5_live_5 hown hK hP (by decide) (by decide) (hts _ lk_X5_live_9) dX5_live_25 ?_
      refine lv_iload_n hx hb dX5_live_28 rfl (lv_at hl 2 rfl) ?_
      obtain ⟨j7, ej7⟩ : ∃ j : Nat, x2.toInt = (j : Int) := ⟨_, ti_nat (by omega)⟩
      refine ad_roll40 (k := 368) (j := j7) hx hb hK hP (by decide) (by decide) ej7 (by omega) dX5_live_29 ?_
      refine lv_aload_n hx hb dX5_live_30 rfl (lv_at hl 0 rfl) ?_
      refine fg_5_4 (k := 28) hx hb hts in_X5_live_5 hown hK hP (by decide) (by decide) (hts _ lk_X5_live_15) dX5_live_31 ?_
      refine lv_iload_n hx hb dX5_live_34 rfl (lv_at hl 2 rfl) ?_
      refine ad_roll40 (k := 369) (j := j7) hx hb hK hP (by decide) (by decide) ej7 (by omega) dX5_live_35 ?_
      refine lv_aload_n hx hb dX5_live_36 rfl (lv_at hl 0 rfl) ?_
      refine fg_5_5 (k := 28) hx hb hts in_X5_live_5 hown hK hP (by decide) (by decide) (hts _ lk_X5_live_18) dX5_live_37 ?_
      refine lv_iload_n hx hb dX5_live_40 rfl (lv_at hl 2 rfl) ?_
      refine ad_roll40 (k := 370) (j := j7) hx hb hK hP (by decide) (by decide) ej7 (by omega) dX5_live_41 ?_
      have hz := gRI j7 (by omega)
      refine r_cVi (k := 28) (As := [.ref (ad 9), .int (σ 368 j7), .int (σ 369 j7), .int (σ 370 j7)]) (rest := [.ref (ad 28)]) ⟨hx, hb, hml, hown, hts⟩ hK hP hN hS (c_X5_whyWrong l D cA ad hI σ τ0 hR (σ 368 j7) (σ 369 j7) (σ 370 j7) (by omega) (by omega)) (cwV 4 hts gX5_live_X5_whyWrong rfl rfl rfl (by decide +kernel) ⟨by decide, by decide⟩) (rv_Roll hK hP (by decide) (by decide)) rfl hl.1 rfl (Nat.le_of_ble_eq_true rfl) dX5_live_42 (Nat.zero_le _) (Nat.zero_le _) (fun r8 u8 H8 locs8 hp8 hP hS => ?_)
      obtain ⟨σ8, τ8⟩ := u8
      obtain ⟨hR, f8, fL8, hq8⟩ : P_X5_whyWrong σ τ0 (σ 368 j7) (σ 369 j7) (σ 370 j7) r8 σ8 τ8 := hp8
      have hP : va_P D vwCl (gw cA ad σ8 τ8) H8 := hP
      obtain rfl := FrL.nil fL8
      have hF := hF.step f8 (by decide)
      have gRI := RI.fr gRI f8 (by decide)
      refine fp_5_7 (k := 28) hx hb hts in_X5_live_5 hown hK hP (by decide) (by decide) (hts _ lk_X5_live_77) hI hR hS dX5_live_45 (fun σ9 H9 locs9 u9 v9 hR hP hS => ?_)
      have hF := hF.puts u9 0 rfl (by decide) (by decide) (by decide) (by decide)
      have gRI := RI.put gRI u9 (by decide)
      refine lv_aload_n hx hb dX5_live_48 rfl (lv_at hl 0 rfl) ?_
      refine fg_5_7 (k := 28) hx hb hts in_X5_live_5 hown hK hP (by decide) (by decide) (hts _ lk_X5_live_77) dX5_live_49 ?_
      refine r_if_eq (tgt := 57) hx hb dX5_live_52 (by decide) (fun c10 => ?_) (fun c10 => ?_)
      · refine r_iinc (k := 2) (lv1 := fun z11 => [(2, .int z11), (0, .ref (ad 28)), (1, .ref (ad 9))]) hx hb dX5_live_57 hl rfl (by decide) (fun _ => rfl) (by decide) (by omega) (fun z11 ls ez11 hl => ?_)
        refine lv_goto (tgt := 7) hx hb dX5_live_60 (by decide) ?_
        exact K7 σ9 τ0 H9 locs9 z11 ls hR hF hFL hP hS (by omega) gRI (lv_sub hl [1, 2, 0] rfl) (by omega)
      · refine lv_iload_n hx hb dX5_live_55 rfl (lv_at hl 2 rfl) ?_
        exact r_iret hx hb hr hK hP hS hk dX5_live_56 (show P_X5_live σ0 τ0 x2 σ9 τ0 from ⟨hR, hF, hFL, by omega, gRI⟩)
theorem A_X5_live (p : Program) (l : Launch) (e : Env) (s : State) (m : MethodId) (args : Array Value) (below : List Frame) (meth : Method) (c : Code) (D : va_G) (cA : Nat → ClassId) (ad : Nat → Nat) (σ0 : Nat → Nat → Int32) (τ0 : Nat → Nat → Int64)  (C : Cy p s m args meth c cX5_live 3 wsX5_live RX5 D cA ad (some .int)) (gRI0 : RI σ0) : ∀ n : Nat, J_X5_live_7 p l e s m args below meth c D cA ad σ0 τ0 n := by
  intro n
  induction n with
  | zero =>
    exact (by intro σ τ H locs x2 ls hR hF hFL hP hS hc0 gRI hl hm; exfalso; omega)
  | succ n ih =>
    exact B_X5_live_7 p l e s m args below meth c D cA ad σ0 τ0 n C gRI0 ih
set_option maxHeartbeats 4000000 in
theorem c_X5_live (l : Launch) (D : va_G) (cA : Nat → ClassId) (ad : Nat → Nat) (hI : Inj ad) (σ0 : Nat → Nat → Int32) (τ0 : Nat → Nat → Int64) (hR : Rg σ0)  (gRI0 : RI σ0) : Met l yX5_live wsX5_live ({ frames := 6, cells := 0, slots := 0, locals := 143 } : Room) (WQc D cA ad [.ref (ad 28), .ref (ad 9)] σ0 τ0) (va_Qi (fun (r : Int32) (u : SS) => P_X5_live σ0 τ0 r u.1 u.2) (WB D cA ad) (AA ad)) 0 0 (AA ad) := by
  refine Met.ofW (cc := cX5_live) (maxL := 3) (ret := (some .int)) (by decide) rfl ?_
  intro p e s m args below meth c s₁ B hml hv
  obtain ⟨rfl, hP, hK, hN⟩ := hv
  have C : Cy p s m _ meth c cX5_live 3 wsX5_live RX5 D cA ad (some .int) := ⟨B.exec, B.bytes, hml, findClass_of_methodNamed B.named, atoms_spec (ws := wsX5_live) B.pre, hK, B.notSynchronized, B.returns, hI, hN⟩
  have hl := lv_entry ([.ref (ad 28), .ref (ad 9)]) (n := 3) (Nat.le_of_ble_eq_true rfl)
  rw [lg_entry_eq]
  generalize (lg_sl ([.ref (ad 28), .ref (ad 9)]) ++ List.replicate (3 - (lg_sl ([.ref (ad 28), .ref (ad 9)])).length) Slot.unset).toArray = ls at hl ⊢
  have hl : lv_has ls 3 [(0, .ref (ad 28)), (1, .ref (ad 9))] := hl
  have hS : va_S (AA ad) s.heap s.heap [] := va_S.rf
  have hF : Fr L_X5_live σ0 σ0 := Fr.rf
  have hFL : FrL LL_X5_live τ0 τ0 := FrL.rf
  have gRI := gRI0
  have hA := A_X5_live p l e s m _ below meth c D cA ad σ0 τ0 C gRI0 170
  have K7 := hA
  clear hA
  obtain ⟨hx, hb, _, hown, hts, _, hk, hr, _, _⟩ := C
  refine lv_aload_n hx hb dX5_live_0 rfl (lv_at hl 0 rfl) ?_
  refine r_iconst hx hb dX5_live_1 (by decide) (fun z1 ez1 => ?_)
  refine fp_5_7 (k := 28) hx hb hts in_X5_live_5 hown hK hP (by decide) (by decide) (hts _ lk_X5_live_77) hI hR hS dX5_live_2 (fun σ2 H2 locs2 u2 v2 hR hP hS => ?_)
  have hF := hF.puts u2 0 rfl (by decide) (by decide) (by decide) (by decide)
  have gRI := RI.put gRI u2 (by decide)
  refine r_iconst hx hb dX5_live_5 (by decide) (fun z3 ez3 => ?_)
  refine lv_istore_n (lv' := [(2, .int z3), (0, .ref (ad 28)), (1, .ref (ad 9))]) hx hb dX5_live_6 rfl hl (by decide) rfl (fun ls hl => ?_)
  exact K7 σ2 τ0 H2 locs2 z3 ls hR hF hFL hP hS (by omega) gRI (lv_sub hl [1, 2, 0] rfl) (by omega)
theorem in_X5_note_5 : ∀ w ∈ u_ws RX5 TX5 8, w ∈ wsX5_note := by decide +kernel
theorem lk_X5_note_15 : Cond.fieldLink RX5 15 "CuckooShares$Roll" "who" "[I" ∈ wsX5_note := by decide +kernel
theorem lk_X5_note_18 : Cond.fieldLink RX5 18 "CuckooShares$Roll" "object" "[I" ∈ wsX5_note := by decide +kernel
theorem lk_X5_note_33 : Cond.fieldLink RX5 33 "CuckooShares$Roll" "lines" "I" ∈ wsX5_note := by decide +kernel
theorem lk_X5_note_9 : Cond.fieldLink RX5 9 "CuckooShares$Roll" "act" "[I" ∈ wsX5_note := by decide +kernel
abbrev L_X5_note : List Rc := [(368, 368, 0, 39), (369, 369, 0, 39), (370, 370, 0, 39)]
abbrev LL_X5_note : List Rc := []
def P_X5_note (σ0 : Nat → Nat → Int32) (τ0 : Nat → Nat → Int64) (a1 : Int32) (a2 : Int32) (a3 : Int32) (r : Int32) (σ : Nat → Nat → Int32) (τ : Nat → Nat → Int64) : Prop := Rg σ ∧ Fr L_X5_note σ0 σ ∧ FrL LL_X5_note τ0 τ ∧ (0 ≤ r.toInt ∧ r.toInt ≤ 1) ∧ ((r.toInt = 1 ∧ 0 ≤ (σ0 28 6).toInt ∧ (σ0 28 6).toInt < 40) ∨ (r.toInt = 0 ∧ ((σ0 28 6).toInt < 0 ∨ 40 ≤ (σ0 28 6).toInt))) ∧ RI σ
set_option maxHeartbeats 4000000 in
theorem c_X5_note (l : Launch) (D : va_G) (cA : Nat → ClassId) (ad : Nat → Nat) (hI : Inj ad) (σ0 : Nat → Nat → Int32) (τ0 : Nat → Nat → Int64) (hR : Rg σ0) (a1 : Int32) (a2 : Int32) (a3 : Int32) (ha1 : 14 ≤ a1.toInt ∧ a1.toInt ≤ 19) (ha2 : -1 ≤ a2.toInt ∧ a2.toInt ≤ 7) (hpre0 : a1.toInt < 16 ∨ 18 < a1.toInt ∨ (0 ≤ a2.toInt ∧ a2.toInt ≤ 7)) (hpre1 : a1.toInt ≠ 18 ∨ (0 ≤ a3.toInt ∧ a3.toInt ≤ 7)) (gRI0 : RI σ0) : Met l yX5_note wsX5_note ({ frames := 0, cells := 0, slots := 0, locals := 0 } : Room) (WQc D cA ad [.ref (ad 28), .int a1, .int a2, .int a3] σ0 τ0) (va_Qi (fun (r : Int32) (u : SS) => P_X5_note σ0 τ0 a1 a2 a3 r u.1 u.2) (WB D cA ad) (AA ad)) 0 0 (AA ad) := by
  refine Met.ofW (cc := cX5_note) (maxL := 4) (ret := (some .boolean)) (by decide) rfl ?_
  intro p e s m args below meth c s₁ B hml hv
  obtain ⟨rfl, hP, hK, hN⟩ := hv
  have C : Cy p s m _ meth c cX5_note 4 wsX5_note RX5 D cA ad (some .boolean) := ⟨B.exec, B.bytes, hml, findClass_of_methodNamed B.named, atoms_spec (ws := wsX5_note) B.pre, hK, B.notSynchronized, B.returns, hI, hN⟩
  have hl := lv_entry ([.ref (ad 28), .int a1, .int a2, .int a3]) (n := 4) (Nat.le_of_ble_eq_true rfl)
  rw [lg_entry_eq]
  generalize (lg_sl ([.ref (ad 28), .int a1, .int a2, .int a3]) ++ List.replicate (4 - (lg_sl ([.ref (ad 28), .int a1, .int a2, .int a3])).length) Slot.unset).toArray = ls at hl ⊢
  have hl : lv_has ls 4 [(0, .ref (ad 28)), (1, .int a1), (2, .int a2), (3, .int a3)] := hl
  have hS : va_S (AA ad) s.heap s.heap [] := va_S.rf
  have hF : Fr L_X5_note σ0 σ0 := Fr.rf
  have hFL : FrL LL_X5_note τ0 τ0 := FrL.rf
  have gRI := gRI0
  obtain ⟨hx, hb, _, hown, hts, _, hk, hr, _, _⟩ := C
  refine lv_aload_n hx hb dX5_note_0 rfl (lv_at hl 0 rfl) ?_
  refine fg_5_6 (k := 28) hx hb hts in_X5_note_5 hown hK hP (by decide) (by decide) (hts _ lk_X5_note_33) dX5_note_1 ?_
  have hr1 := rg_5_6 hR (k := 28) (by decide) (by decide)
  refine r_if_lt (tgt := 16) hx hb dX5_note_4 (by decide) (fun c2 => ?_) (fun c2 => ?_)
  · exfalso; omega
  · refine lv_aload_n hx hb dX5_note_7 rfl (lv_at hl 0 rfl) ?_
    refine fg_5_6 (k := 28) hx hb hts in_X5_note_5 hown hK hP (by decide) (by decide) (hts _ lk_X5_note_33) dX5_note_8 ?_
    refine r_bipush hx hb dX5_note_11 (by decide) (fun z3 ez3 => ?_)
    refine r_icmp_lt (tgt := 18) hx hb dX5_note_13 (by decide) (fun c4 => ?_) (fun c4 => ?_)
    · refine lv_aload_n hx hb dX5_note_18 rfl (lv_at hl 0 rfl) ?_
      refine fg_5_3 (k := 28) hx hb hts in_X5_note_5 hown hK hP (by decide) (by decide) (hts _ lk_X5_note_9) dX5_note_19 ?_
      refine lv_aload_n hx hb dX5_note_22 rfl (lv_at hl 0 rfl) ?_
      refine fg_5_6 (k := 28) hx hb hts in_X5_note_5 hown hK hP (by decide) (by decide) (hts _ lk_X5_note_33) dX5_note_23 ?_
      refine lv_iload_n hx hb dX5_note_26 rfl (lv_at hl 1 rfl) ?_
      obtain ⟨j5, ej5⟩ : ∃ j : Nat, (σ0 28 6).toInt = (j : Int) := ⟨_, ti_nat (by omega)⟩
      refine as_roll40 (k := 368) (j := j5) hx hb hK hP hI hR hS (by decide) (by decide) ej5 (by omega) dX5_note_27 (fun σ6 H6 locs6 u6 v6 hR hP hS => ?_)
      have ua := u6
      have va := v6
      have hF := hF.puts u6 0 rfl (by decide) (by decide) (by omega) (by omega)
      have t7 : (σ6 28 6).toInt = (σ0 28 6).toInt := congrArg Int32.toInt (u6 28 6 (by omega))
      refine lv_aload_n hx hb dX5_note_28 rfl (lv_at hl 0 rfl) ?_
      refine fg_5_4 (k := 28) hx hb hts in_X5_note_5 hown hK hP (by decide) (by decide) (hts _ lk_X5_note_15) dX5_note_29 ?_
      refine lv_aload_n hx hb dX5_note_32 rfl (lv_at hl 0 rfl) ?_
      refine fg_5_6 (k := 28) hx hb hts in_X5_note_5 hown hK hP (by decide) (by decide) (hts _ lk_X5_note_33) dX5_note_33 ?_
      refine lv_iload_n hx hb dX5_note_36 rfl (lv_at hl 2 rfl) ?_
      refine as_roll40 (k := 369) (j := j5) hx hb hK hP hI hR hS (by decide) (by decide) (by omega) (by omega) dX5_note_37 (fun σ8 H8 locs8 u8 v8 hR hP hS => ?_)
      have ub := u8
      have vb := v8
      have hF := hF.puts u8 1 rfl (by decide) (by decide) (by omega) (by omega)
      have t9 : (σ8 28 6).toInt = (σ6 28 6).toInt := congrArg Int32.toInt (u8 28 6 (by omega))
      refine lv_aload_n hx hb dX5_note_38 rfl (lv_at hl 0 rfl) ?_
      refine fg_5_5 (k := 28) hx hb hts in_X5_note_5 hown hK hP (by decide) (by decide) (hts _ lk_X5_note_18) dX5_note_39 ?_
      refine lv_aload_n hx hb dX5_note_42 rfl (lv_at hl 0 rfl) ?_
      refine fg_5_6 (k := 28) hx hb hts in_X5_note_5 hown hK hP (by decide) (by decide) (hts _ lk_X5_note_33) dX5_note_43 ?_
      refine lv_iload_n hx hb dX5_note_46 rfl (lv_at hl 3 rfl) ?_
      refine as_roll40 (k := 370) (j := j5) hx hb hK hP hI hR hS (by decide) (by decide) (by omega) (by omega) dX5_note_47 (fun σ10 H10 locs10 u10 v10 hR hP hS => ?_)
      have uc := u10
      have vc := v10
      have hF := hF.puts u10 2 rfl (by decide) (by decide) (by omega) (by omega)
      have t11 : (σ10 28 6).toInt = (σ8 28 6).toInt := congrArg Int32.toInt (u10 28 6 (by omega))
      refine r_iconst hx hb dX5_note_48 (by decide) (fun z12 ez12 => ?_)
      exact r_zret hx hb hr hK hP hS hk (by omega) dX5_note_49 (show P_X5_note σ0 τ0 a1 a2 a3 z12 σ10 τ0 from ⟨hR, hF, hFL, by omega, by omega, RI.note3 gRI ua va ub vb uc vc (by omega) (by omega) hpre0 hpre1⟩)
    · refine r_iconst hx hb dX5_note_16 (by decide) (fun z13 ez13 => ?_)
      exact r_zret hx hb hr hK hP hS hk (by omega) dX5_note_17 (show P_X5_note σ0 τ0 a1 a2 a3 z13 σ0 τ0 from ⟨hR, hF, hFL, by omega, by omega, gRI⟩)
abbrev L_X8_hillHere_w : List Rc := [(1, 1, 13, 14)]
abbrev LL_X8_hillHere_w : List Rc := []
def P_X8_hillHere_w (σ0 : Nat → Nat → Int32) (τ0 : Nat → Nat → Int64) (b : Nat → Int) (N : Nat) (mo : Nat) (q : Nat) (nm : Nat → Int) (hc : Nat) (r : Int32) (σ : Nat → Nat → Int32) (τ : Nat → Nat → Int64) : Prop := Rg σ ∧ Fr L_X8_hillHere_w σ0 σ ∧ FrL LL_X8_hillHere_w τ0 τ ∧ (-1 ≤ r.toInt ∧ r.toInt ≤ 7) ∧ (RH r σ (lokP b N mo nm hc q) True) ∧ (r.toInt = -1 ∨ (σ 1 13).toInt = (σ0 1 13).toInt) ∧ CT σ τ b N mo q ∧ WH σ τ nm hc
set_option maxHeartbeats 4000000 in
theorem c_X8_hillHere_w (l : Launch) (D : va_G) (cA : Nat → ClassId) (ad : Nat → Nat) (hI : Inj ad) (σ0 : Nat → Nat → Int32) (τ0 : Nat → Nat → Int64) (hR : Rg σ0) (b : Nat → Int) (N : Nat) (mo : Nat) (q : Nat) (nm : Nat → Int) (hc : Nat) (gCT0 : CT σ0 τ0 b N mo q) (gWH0 : WH σ0 τ0 nm hc) : Met l yX8_hillHere wsX8_hillHere ({ frames := 2, cells := 0, slots := 0, locals := 42 } : Room) (WQc D cA ad [.ref (ad 1), .ref (ad 2)] σ0 τ0) (va_Qi (fun (r : Int32) (u : SS) => P_X8_hillHere_w σ0 τ0 b N mo q nm hc r u.1 u.2) (WB D cA ad) (AA ad)) 0 0 (AA ad) := by
  refine Met.ofW (cc := cX8_hillHere) (maxL := 2) (ret := (some .int)) (by decide) rfl ?_
  intro p e s m args below meth c s₁ B hml hv
  obtain ⟨rfl, hP, hK, hN⟩ := hv
  have C : Cy p s m _ meth c cX8_hillHere 2 wsX8_hillHere RX8 D cA ad (some .int) := ⟨B.exec, B.bytes, hml, findClass_of_methodNamed B.named, atoms_spec (ws := wsX8_hillHere) B.pre, hK, B.notSynchronized, B.returns, hI, hN⟩
  have hl := lv_entry ([.ref (ad 1), .ref (ad 2)]) (n := 2) (Nat.le_of_ble_eq_true rfl)
  rw [lg_entry_eq]
  generalize (lg_sl ([.ref (ad 1), .ref (ad 2)]) ++ List.replicate (2 - (lg_sl ([.ref (ad 1), .ref (ad 2)])).length) Slot.unset).toArray = ls at hl ⊢
  have hl : lv_has ls 2 [(0, .ref (ad 1)), (1, .ref (ad 2))] := hl
  have hS : va_S (AA ad) s.heap s.heap [] := va_S.rf
  have hF : Fr L_X8_hillHere_w σ0 σ0 := Fr.rf
  have hFL : FrL LL_X8_hillHere_w τ0 τ0 := FrL.rf
  have gCT := gCT0
  have gWH := gWH0
  obtain ⟨hx, hb, _, hown, hts, _, hk, hr, _, _⟩ := C
  have hr8 := rg_9_4 hR (k := 2) (by decide) (by decide)
  refine lv_aload_n hx hb dX8_hillHere_0 rfl (lv_at hl 0 rfl) ?_
  refine lv_aload_n hx hb dX8_hillHere_1 rfl (lv_at hl 1 rfl) ?_
  refine lv_aload_n hx hb dX8_hillHere_2 rfl (lv_at hl 0 rfl) ?_
  refine fg_8_11 (k := 1) hx hb hts in_X8_hillHere_8 hown hK hP (by decide) (by decide) (hts _ lk_X8_hillHere_94) dX8_hillHere_3 ?_
  refine lv_aload_n hx hb dX8_hillHere_6 rfl (lv_at hl 1 rfl) ?_
  refine fgN_9_7 (k := 2) hx hb hts in_X8_hillHere_9 hown hK hP (by decide) (by decide) (hN.use nw_8_128) dX8_hillHere_7 ?_
  refine lv_aload_n hx hb dX8_hillHere_10 rfl (lv_at hl 1 rfl) ?_
  refine fgN_9_4 (k := 2) hx hb hts in_X8_hillHere_9 hown hK hP (by decide) (by decide) (hN.use nw_8_133) dX8_hillHere_11 ?_
  have hr1 := rg_9_4 hR (k := 2) (by decide) (by decide)
  refine r_cVi (k := 2) (As := [.long (τ0 1 11), .ref (ad 40), .int (σ0 2 4)]) (rest := [.ref (ad 1)]) ⟨hx, hb, hml, hown, hts⟩ hK hP hN hS (c_X9_numberOf l D cA ad hI σ0 τ0 hR 2 (τ0 1 11) 40 (σ0 2 4) ⟨by omega, by omega⟩ ⟨by omega, by omega⟩ (by omega)) (cwV 3 hts gX8_hillHere_X9_numberOf rfl rfl rfl (by decide +kernel) ⟨by decide, by decide⟩) (rv_Valley hK hP (by decide) (by decide)) rfl hl.1 rfl (Nat.le_of_ble_eq_true rfl) dX8_hillHere_14 (Nat.zero_le _) (Nat.zero_le _) (fun r2 u2 H2 locs2 hp2 hP hS => ?_)
  obtain ⟨σ2, τ2⟩ := u2
  obtain ⟨hR, f2, fL2, hq2, hp2_0⟩ : P_X9_numberOf σ0 τ0 2 (τ0 1 11) 40 (σ0 2 4) r2 σ2 τ2 := hp2
  have hP : va_P D vwCl (gw cA ad σ2 τ2) H2 := hP
  obtain rfl := FrL.nil fL2
  obtain rfl := Fr.nil f2
  rw [gWH.1, show ((hc : Nat) : Int).toNat = hc from rfl] at hp2_0
  refine r_cVi (k := 1) (As := [.int r2]) (rest := []) ⟨hx, hb, hml, hown, hts⟩ hK hP hN hS (c_X8_toldHere_v l D cA ad hI σ0 τ0 hR r2 _ _ _ _ (by omega) gCT) (cwV 1 hts gX8_hillHere_X8_toldHere rfl rfl rfl (by decide +kernel) ⟨by decide, by decide⟩) (rv_Tape hK hP (by decide) (by decide)) rfl hl.1 rfl (Nat.le_of_ble_eq_true rfl) dX8_hillHere_17 (Nat.zero_le _) (Nat.zero_le _) (fun r3 u3 H3 locs3 hp3 hP hS => ?_)
  obtain ⟨σ3, τ3⟩ := u3
  obtain ⟨hR, f3, fL3, hq3, hp3_0, hp3_1, gnCT⟩ : P_X8_toldHere_v σ0 τ0 r2 _ _ _ _ r3 σ3 τ3 := hp3
  have ot := hp3_0
  have hP : va_P D vwCl (gw cA ad σ3 τ3) H3 := hP
  obtain rfl := FrL.nil fL3
  have hF := hF.step f3 (by decide)
  have gCT := gCT.ag (Agr.fr f3 (by decide))
  have gWH := gWH.ag (Agr.fr f3 (by decide))
  have hrg := fndq_rg nm (wdq b N q) hc
  exact r_iret hx hb hr hK hP hS hk dX8_hillHere_20 (show P_X8_hillHere_w σ0 τ0 b N mo q nm hc r3 σ3 τ0 from ⟨hR, hF, hFL, by omega, by rcases ot with ot | ot | ot <;> first | exact RH.ofk (by unfold lokP; rw [if_pos (by omega)]) (by omega) (by omega) (by omega) | (have hf := WN.f gWH (NZ.of (gCT.nr (by omega))); exact RH.ofk (by unfold lokP; rw [if_neg (by omega), if_pos (by omega)]) (by omega) (by omega) (by omega)) | (have hf := WN.f gWH (NZ.of (gCT.nr (by omega))); exact RH.ofr (by unfold lokP; rw [if_neg (by omega), if_neg (by omega)]) (by omega) (by omega) trivial), by omega, gCT, gWH⟩)
abbrev L_X8_manHere_w : List Rc := [(1, 1, 13, 14)]
abbrev LL_X8_manHere_w : List Rc := []
def P_X8_manHere_w (σ0 : Nat → Nat → Int32) (τ0 : Nat → Nat → Int64) (b : Nat → Int) (N : Nat) (mo : Nat) (q : Nat) (mm : Nat → Int) (mc : Nat) (r : Int32) (σ : Nat → Nat → Int32) (τ : Nat → Nat → Int64) : Prop := Rg σ ∧ Fr L_X8_manHere_w σ0 σ ∧ FrL LL_X8_manHere_w τ0 τ ∧ (-1 ≤ r.toInt ∧ r.toInt ≤ 7) ∧ (RH r σ (lokP b N mo mm mc q) True) ∧ (r.toInt = -1 ∨ (σ 1 13).toInt = (σ0 1 13).toInt) ∧ CT σ τ b N mo q ∧ WM σ τ mm mc
set_option maxHeartbeats 4000000 in
theorem c_X8_manHere_w (l : Launch) (D : va_G) (cA : Nat → ClassId) (ad : Nat → Nat) (hI : Inj ad) (σ0 : Nat → Nat → Int32) (τ0 : Nat → Nat → Int64) (hR : Rg σ0) (b : Nat → Int) (N : Nat) (mo : Nat) (q : Nat) (mm : Nat → Int) (mc : Nat) (gCT0 : CT σ0 τ0 b N mo q) (gWM0 : WM σ0 τ0 mm mc) : Met l yX8_manHere wsX8_manHere ({ frames := 2, cells := 0, slots := 0, locals := 42 } : Room) (WQc D cA ad [.ref (ad 1), .ref (ad 2)] σ0 τ0) (va_Qi (fun (r : Int32) (u : SS) => P_X8_manHere_w σ0 τ0 b N mo q mm mc r u.1 u.2) (WB D cA ad) (AA ad)) 0 0 (AA ad) := by
  refine Met.ofW (cc := cX8_manHere) (maxL := 2) (ret := (some .int)) (by decide) rfl ?_
  intro p e s m args below meth c s₁ B hml hv
  obtain ⟨rfl, hP, hK, hN⟩ := hv
  have C : Cy p s m _ meth c cX8_manHere 2 wsX8_manHere RX8 D cA ad (some .int) := ⟨B.exec, B.bytes, hml, findClass_of_methodNamed B.named, atoms_spec (ws := wsX8_manHere) B.pre, hK, B.notSynchronized, B.returns, hI, hN⟩
  have hl := lv_entry ([.ref (ad 1), .ref (ad 2)]) (n := 2) (Nat.le_of_ble_eq_true rfl)
  rw [lg_entry_eq]
  generalize (lg_sl ([.ref (ad 1), .ref (ad 2)]) ++ List.replicate (2 - (lg_sl ([.ref (ad 1), .ref (ad 2)])).length) Slot.unset).toArray = ls at hl ⊢
  have hl : lv_has ls 2 [(0, .ref (ad 1)), (1, .ref (ad 2))] := hl
  have hS : va_S (AA ad) s.heap s.heap [] := va_S.rf
  have hF : Fr L_X8_manHere_w σ0 σ0 := Fr.rf
  have hFL : FrL LL_X8_manHere_w τ0 τ0 := FrL.rf
  have gCT := gCT0
  have gWM := gWM0
  obtain ⟨hx, hb, _, hown, hts, _, hk, hr, _, _⟩ := C
  have hr8 := rg_9_5 hR (k := 2) (by decide) (by decide)
  refine lv_aload_n hx hb dX8_manHere_0 rfl (lv_at hl 0 rfl) ?_
  refine lv_aload_n hx hb dX8_manHere_1 rfl (lv_at hl 1 rfl) ?_
  refine lv_aload_n hx hb dX8_manHere_2 rfl (lv_at hl 0 rfl) ?_
  refine fg_8_11 (k := 1) hx hb hts in_X8_manHere_8 hown hK hP (by decide) (by decide) (hts _ lk_X8_manHere_94) dX8_manHere_3 ?_
  refine lv_aload_n hx hb dX8_manHere_6 rfl (lv_at hl 1 rfl) ?_
  refine fgN_9_8 (k := 2) hx hb hts in_X8_manHere_9 hown hK hP (by decide) (by decide) (hN.use nw_8_143) dX8_manHere_7 ?_
  refine lv_aload_n hx hb dX8_manHere_10 rfl (lv_at hl 1 rfl) ?_
  refine fgN_9_5 (k := 2) hx hb hts in_X8_manHere_9 hown hK hP (by decide) (by decide) (hN.use nw_8_146) dX8_manHere_11 ?_
  have hr1 := rg_9_5 hR (k := 2) (by decide) (by decide)
  refine r_cVi (k := 2) (As := [.long (τ0 1 11), .ref (ad 44), .int (σ0 2 5)]) (rest := [.ref (ad 1)]) ⟨hx, hb, hml, hown, hts⟩ hK hP hN hS (c_X9_numberOf l D cA ad hI σ0 τ0 hR 2 (τ0 1 11) 44 (σ0 2 5) ⟨by omega, by omega⟩ ⟨by omega, by omega⟩ (by omega)) (cwV 3 hts gX8_manHere_X9_numberOf rfl rfl rfl (by decide +kernel) ⟨by decide, by decide⟩) (rv_Valley hK hP (by decide) (by decide)) rfl hl.1 rfl (Nat.le_of_ble_eq_true rfl) dX8_manHere_14 (Nat.zero_le _) (Nat.zero_le _) (fun r2 u2 H2 locs2 hp2 hP hS => ?_)
  obtain ⟨σ2, τ2⟩ := u2
  obtain ⟨hR, f2, fL2, hq2, hp2_0⟩ : P_X9_numberOf σ0 τ0 2 (τ0 1 11) 44 (σ0 2 5) r2 σ2 τ2 := hp2
  have hP : va_P D vwCl (gw cA ad σ2 τ2) H2 := hP
  obtain rfl := FrL.nil fL2
  obtain rfl := Fr.nil f2
  rw [gWM.1, show ((mc : Nat) : Int).toNat = mc from rfl] at hp2_0
  refine r_cVi (k := 1) (As := [.int r2]) (rest := []) ⟨hx, hb, hml, hown, hts⟩ hK hP hN hS (c_X8_toldHere_v l D cA ad hI σ0 τ0 hR r2 _ _ _ _ (by omega) gCT) (cwV 1 hts gX8_manHere_X8_toldHere rfl rfl rfl (by decide +kernel) ⟨by decide, by decide⟩) (rv_Tape hK hP (by decide) (by decide)) rfl hl.1 rfl (Nat.le_of_ble_eq_true rfl) dX8_manHere_17 (Nat.zero_le _) (Nat.zero_le _) (fun r3 u3 H3 locs3 hp3 hP hS => ?_)
  obtain ⟨σ3, τ3⟩ := u3
  obtain ⟨hR, f3, fL3, hq3, hp3_0, hp3_1, gnCT⟩ : P_X8_toldHere_v σ0 τ0 r2 _ _ _ _ r3 σ3 τ3 := hp3
  have ot := hp3_0
  have hP : va_P D vwCl (gw cA ad σ3 τ3) H3 := hP
  obtain rfl := FrL.nil fL3
  have hF := hF.step f3 (by decide)
  have gCT := gCT.ag (Agr.fr f3 (by decide))
  have gWM := gWM.ag (Agr.fr f3 (by decide))
  have hrg := fndq_rg mm (wdq b N q) mc
  exact r_iret hx hb hr hK hP hS hk dX8_manHere_20 (show P_X8_manHere_w σ0 τ0 b N mo q mm mc r3 σ3 τ0 from ⟨hR, hF, hFL, by omega, by rcases ot with ot | ot | ot <;> first | exact RH.ofk (by unfold lokP; rw [if_pos (by omega)]) (by omega) (by omega) (by omega) | (have hf := WN.f gWM (NZ.of (gCT.nr (by omega))); exact RH.ofk (by unfold lokP; rw [if_neg (by omega), if_pos (by omega)]) (by omega) (by omega) (by omega)) | (have hf := WN.f gWM (NZ.of (gCT.nr (by omega))); exact RH.ofr (by unfold lokP; rw [if_neg (by omega), if_neg (by omega)]) (by omega) (by omega) trivial), by omega, gCT, gWM⟩)
theorem in_X5_readActOf_5 : ∀ w ∈ u_ws RX5 TX5 8, w ∈ wsX5_readActOf := by decide +kernel
theorem in_X5_readActOf_8 : ∀ w ∈ u_ws RX8 TX8 15, w ∈ wsX5_readActOf := by decide +kernel
theorem lk_X5_readActOf_21 : Cond.fieldLink RX5 21 "CuckooShares$Roll" "tape" "LCuckooShares$Tape;" ∈ wsX5_readActOf := by decide +kernel
theorem lk_X5_readActOf_25 : Cond.fieldLink RX5 25 "CuckooShares$Roll" "valley" "LCuckooShares$Valley;" ∈ wsX5_readActOf := by decide +kernel
abbrev L_X5_readActOf : List Rc := [(1, 1, 7, 10), (1, 1, 12, 14), (368, 368, 0, 39), (369, 369, 0, 39), (370, 370, 0, 39)]
abbrev LL_X5_readActOf : List Rc := [(1, 1, 11, 11)]
def P_X5_readActOf (σ0 : Nat → Nat → Int32) (τ0 : Nat → Nat → Int64) (a1 : Int32) (b : Nat → Int) (N : Nat) (mo : Nat) (q : Nat) (nm : Nat → Int) (hc : Nat) (mm : Nat → Int) (mc : Nat) (r : Int32) (σ : Nat → Nat → Int32) (τ : Nat → Nat → Int64) : Prop := Rg σ ∧ Fr L_X5_readActOf σ0 σ ∧ FrL LL_X5_readActOf τ0 τ ∧ (0 ≤ r.toInt ∧ r.toInt ≤ 1) ∧ (RO r σ (actP b N mo nm hc mm mc q) (fun q1 => CT σ τ b N mo q1)) ∧ (r.toInt = 0 ∨ (σ 1 13).toInt = (σ0 1 13).toInt) ∧ RI σ ∧ WH σ τ nm hc ∧ WM σ τ mm mc
set_option maxHeartbeats 4000000 in
theorem c_X5_readActOf (l : Launch) (D : va_G) (cA : Nat → ClassId) (ad : Nat → Nat) (hI : Inj ad) (σ0 : Nat → Nat → Int32) (τ0 : Nat → Nat → Int64) (hR : Rg σ0) (a1 : Int32) (b : Nat → Int) (N : Nat) (mo : Nat) (q : Nat) (nm : Nat → Int) (hc : Nat) (mm : Nat → Int) (mc : Nat) (ha1 : 0 ≤ a1.toInt ∧ a1.toInt ≤ 7) (hpre0 : 0 ≤ (σ0 28 6).toInt ∧ (σ0 28 6).toInt < 40) (gRI0 : RI σ0) (gCT0 : CT σ0 τ0 b N mo q) (gWH0 : WH σ0 τ0 nm hc) (gWM0 : WM σ0 τ0 mm mc) : Met l yX5_readActOf wsX5_readActOf ({ frames := 3, cells := 0, slots := 0, locals := 63 } : Room) (WQc D cA ad [.ref (ad 28), .int a1] σ0 τ0) (va_Qi (fun (r : Int32) (u : SS) => P_X5_readActOf σ0 τ0 a1 b N mo q nm hc mm mc r u.1 u.2) (WB D cA ad) (AA ad)) 0 0 (AA ad) := by
  refine Met.ofW (cc := cX5_readActOf) (maxL := 4) (ret := (some .boolean)) (by decide) rfl ?_
  intro p e s m args below meth c s₁ B hml hv
  obtain ⟨rfl, hP, hK, hN⟩ := hv
  have C : Cy p s m _ meth c cX5_readActOf 4 wsX5_readActOf RX5 D cA ad (some .boolean) := ⟨B.exec, B.bytes, hml, findClass_of_methodNamed B.named, atoms_spec (ws := wsX5_readActOf) B.pre, hK, B.notSynchronized, B.returns, hI, hN⟩
  have hl := lv_entry ([.ref (ad 28), .int a1]) (n := 4) (Nat.le_of_ble_eq_true rfl)
  rw [lg_entry_eq]
  generalize (lg_sl ([.ref (ad 28), .int a1]) ++ List.replicate (4 - (lg_sl ([.ref (ad 28), .int a1])).length) Slot.unset).toArray = ls at hl ⊢
  have hl : lv_has ls 4 [(0, .ref (ad 28)), (1, .int a1)] := hl
  have hS : va_S (AA ad) s.heap s.heap [] := va_S.rf
  have hF : Fr L_X5_readActOf σ0 σ0 := Fr.rf
  have hFL : FrL LL_X5_readActOf τ0 τ0 := FrL.rf
  have gRI := gRI0
  have gCT := gCT0
  have gWH := gWH0
  have gWM := gWM0
  obtain ⟨hx, hb, _, hown, hts, _, hk, hr, _, _⟩ := C
  have htk := gCT.tk
  refine lv_aload_n hx hb dX5_readActOf_0 rfl (lv_at hl 0 rfl) ?_
  refine fg_5_0 (k := 28) hx hb hts in_X5_readActOf_5 hown hK hP (by decide) (by decide) (hts _ lk_X5_readActOf_21) dX5_readActOf_1 ?_
  refine fgN_8_9 (k := 1) hx hb hts in_X5_readActOf_8 hown hK hP (by decide) (by decide) (hN.use nw_5_37) dX5_readActOf_4 ?_
  refine lv_istore_n (lv' := [(2, .int (σ0 1 9)), (0, .ref (ad 28)), (1, .int a1)]) hx hb dX5_readActOf_7 rfl hl (by decide) rfl (fun ls hl => ?_)
  refine lv_iload_n hx hb dX5_readActOf_8 rfl (lv_at hl 0 rfl) ?_
  refine r_bipush hx hb dX5_readActOf_9 (by decide) (fun z1 ez1 => ?_)
  refine r_icmp_eq (tgt := 35) hx hb dX5_readActOf_11 (by decide) (fun c2 => ?_) (fun c2 => ?_)
  · refine lv_aload_n hx hb dX5_readActOf_35 rfl (lv_at hl 1 rfl) ?_
    refine fg_5_0 (k := 28) hx hb hts in_X5_readActOf_5 hown hK hP (by decide) (by decide) (hts _ lk_X5_readActOf_21) dX5_readActOf_36 ?_
    refine r_cVv (k := 1) (As := []) (rest := []) ⟨hx, hb, hml, hown, hts⟩ hK hP hN hS (c_X8_next_v l D cA ad hI σ0 τ0 hR _ _ _ _ gCT) (cwV 0 hts gX5_readActOf_X8_next rfl rfl rfl (by decide +kernel) ⟨by decide, by decide⟩) (rv_Tape hK hP (by decide) (by decide)) rfl hl.1 rfl (Nat.le_of_ble_eq_true rfl) dX5_readActOf_39 (Nat.zero_le _) (Nat.zero_le _) (fun u3 H3 locs3 hp3 hP hS => ?_)
    obtain ⟨σ3, τ3⟩ := u3
    obtain ⟨hR, f3, fL3, hp3_0⟩ : P_X8_next_v σ0 τ0 _ _ _ _ σ3 τ3 := hp3
    have hP : va_P D vwCl (gw cA ad σ3 τ3) H3 := hP
    have hFL := hFL.step fL3 (by decide)
    have gWH := gWH.agL (AgrL.fr fL3 (by decide))
    have gWM := gWM.agL (AgrL.fr fL3 (by decide))
    have hF := hF.step f3 (by decide)
    have gRI := RI.fr gRI f3 (by decide)
    have gWH := gWH.ag (Agr.fr f3 (by decide))
    have gWM := gWM.ag (Agr.fr f3 (by decide))
    have t4 : (σ3 28 6).toInt = (σ0 28 6).toInt := congrArg Int32.toInt (f3.at 28 6 (by decide))
    have t5 : (σ3 1 13).toInt = (σ0 1 13).toInt := congrArg Int32.toInt (f3.at 1 13 (by decide))
    have gCT := hp3_0
    refine lv_iload_n hx hb dX5_readActOf_42 rfl (lv_at hl 0 rfl) ?_
    refine r_bipush hx hb dX5_readActOf_43 (by decide) (fun z6 ez6 => ?_)
    refine r_icmp_ne (tgt := 83) hx hb dX5_readActOf_45 (by decide) (fun c7 => ?_) (fun c7 => ?_)
    · refine lv_iload_n hx hb dX5_readActOf_83 rfl (lv_at hl 0 rfl) ?_
      refine r_bipush hx hb dX5_readActOf_84 (by decide) (fun z8 ez8 => ?_)
      refine r_icmp_ne (tgt := 103) hx hb dX5_readActOf_86 (by decide) (fun c9 => ?_) (fun c9 => ?_)
      · exfalso; omega
      · refine lv_aload_n hx hb dX5_readActOf_89 rfl (lv_at hl 1 rfl) ?_
        refine fg_5_0 (k := 28) hx hb hts in_X5_readActOf_5 hown hK hP (by decide) (by decide) (hts _ lk_X5_readActOf_21) dX5_readActOf_90 ?_
        refine lv_aload_n hx hb dX5_readActOf_93 rfl (lv_at hl 1 rfl) ?_
        refine fg_5_1 (k := 28) hx hb hts in_X5_readActOf_5 hown hK hP (by decide) (by decide) (hts _ lk_X5_readActOf_25) dX5_readActOf_94 ?_
        refine r_cVi (k := 1) (As := [.ref (ad 2)]) (rest := []) ⟨hx, hb, hml, hown, hts⟩ hK hP hN hS (c_X8_hillHere_w l D cA ad hI σ3 τ3 hR b N mo _ nm hc gCT gWH) (cwV 1 hts gX5_readActOf_X8_hillHere rfl rfl rfl (by decide +kernel) ⟨by decide, by decide⟩) (rv_Tape hK hP (by decide) (by decide)) rfl hl.1 rfl (Nat.le_of_ble_eq_true rfl) dX5_readActOf_97 (Nat.zero_le _) (Nat.zero_le _) (fun r10 u10 H10 locs10 hp10 hP hS => ?_)
        obtain ⟨σ10, τ10⟩ := u10
        obtain ⟨hR, f10, fL10, hq10, hp10_0, hp10_1, gnCT, gnWH⟩ : P_X8_hillHere_w σ3 τ3 b N mo _ nm hc r10 σ10 τ10 := hp10
        have o2 := hp10_0
        have hP : va_P D vwCl (gw cA ad σ10 τ10) H10 := hP
        obtain rfl := FrL.nil fL10
        have hF := hF.step f10 (by decide)
        have gCT := gCT.ag (Agr.fr f10 (by decide))
        have gRI := RI.fr gRI f10 (by decide)
        have gWH := gWH.ag (Agr.fr f10 (by decide))
        have gWM := gWM.ag (Agr.fr f10 (by decide))
        have t11 : (σ10 28 6).toInt = (σ3 28 6).toInt := congrArg Int32.toInt (f10.at 28 6 (by decide))
        refine lv_goto (tgt := 114) hx hb dX5_readActOf_100 (by decide) ?_
        refine lv_istore_n (lv' := [(3, .int r10), (2, .int (σ0 1 9)), (0, .ref (ad 28)), (1, .int a1)]) hx hb dX5_readActOf_114 rfl hl (by decide) rfl (fun ls hl => ?_)
        refine lv_iload_n hx hb dX5_readActOf_115 rfl (lv_at hl 0 rfl) ?_
        refine r_iconst hx hb dX5_readActOf_116 (by decide) (fun z12 ez12 => ?_)
        refine r_icmp_ne (tgt := 122) hx hb dX5_readActOf_117 (by decide) (fun c13 => ?_) (fun c13 => ?_)
        · first | (obtain ⟨e2, _, _, _⟩ := o2.ye (by omega)) | (obtain ⟨e3, _, _, _⟩ := o3.ye (by omega))
          refine lv_aload_n hx hb dX5_readActOf_122 rfl (lv_at hl 2 rfl) ?_
          refine fg_5_0 (k := 28) hx hb hts in_X5_readActOf_5 hown hK hP (by decide) (by decide) (hts _ lk_X5_readActOf_21) dX5_readActOf_123 ?_
          refine r_cVv (k := 1) (As := []) (rest := []) ⟨hx, hb, hml, hown, hts⟩ hK hP hN hS (c_X8_next_v l D cA ad hI σ10 τ3 hR _ _ _ _ gCT) (cwV 0 hts gX5_readActOf_X8_next rfl rfl rfl (by decide +kernel) ⟨by decide, by decide⟩) (rv_Tape hK hP (by decide) (by decide)) rfl hl.1 rfl (Nat.le_of_ble_eq_true rfl) dX5_readActOf_126 (Nat.zero_le _) (Nat.zero_le _) (fun u14 H14 locs14 hp14 hP hS => ?_)
          obtain ⟨σ14, τ14⟩ := u14
          obtain ⟨hR, f14, fL14, hp14_0⟩ : P_X8_next_v σ10 τ3 _ _ _ _ σ14 τ14 := hp14
          have hP : va_P D vwCl (gw cA ad σ14 τ14) H14 := hP
          have hFL := hFL.step fL14 (by decide)
          have gWH := gWH.agL (AgrL.fr fL14 (by decide))
          have gWM := gWM.agL (AgrL.fr fL14 (by decide))
          have hF := hF.step f14 (by decide)
          have gRI := RI.fr gRI f14 (by decide)
          have gWH := gWH.ag (Agr.fr f14 (by decide))
          have gWM := gWM.ag (Agr.fr f14 (by decide))
          have t15 : (σ14 28 6).toInt = (σ10 28 6).toInt := congrArg Int32.toInt (f14.at 28 6 (by decide))
          have t16 : (σ14 1 13).toInt = (σ10 1 13).toInt := congrArg Int32.toInt (f14.at 1 13 (by decide))
          have gCT := hp14_0
          refine lv_aload_n hx hb dX5_readActOf_129 rfl (lv_at hl 2 rfl) ?_
          refine lv_iload_n hx hb dX5_readActOf_130 rfl (lv_at hl 1 rfl) ?_
          refine lv_iload_n hx hb dX5_readActOf_131 rfl (lv_at hl 3 rfl) ?_
          refine lv_iload_n hx hb dX5_readActOf_132 rfl (lv_at hl 0 rfl) ?_
          refine r_cVi (k := 28) (As := [.int (σ0 1 9), .int a1, .int r10]) (rest := []) ⟨hx, hb, hml, hown, hts⟩ hK hP hN hS (c_X5_note l D cA ad hI σ14 τ14 hR (σ0 1 9) a1 r10 (by omega) (by omega) (by omega) (by omega) gRI) (cwV 3 hts gX5_readActOf_X5_note rfl rfl rfl (by decide +kernel) ⟨by decide, by decide⟩) (rv_Roll hK hP (by decide) (by decide)) rfl hl.1 rfl (Nat.le_of_ble_eq_true rfl) dX5_readActOf_133 (Nat.zero_le _) (Nat.zero_le _) (fun r17 u17 H17 locs17 hp17 hP hS => ?_)
          obtain ⟨σ17, τ17⟩ := u17
          obtain ⟨hR, f17, fL17, hq17, hp17_0, gnRI⟩ : P_X5_note σ14 τ14 (σ0 1 9) a1 r10 r17 σ17 τ17 := hp17
          have hP : va_P D vwCl (gw cA ad σ17 τ17) H17 := hP
          obtain rfl := FrL.nil fL17
          have hF := hF.step f17 (by decide)
          have gCT := gCT.ag (Agr.fr f17 (by decide))
          have gWH := gWH.ag (Agr.fr f17 (by decide))
          have gWM := gWM.ag (Agr.fr f17 (by decide))
          have t18 : (σ17 28 6).toInt = (σ14 28 6).toInt := congrArg Int32.toInt (f17.at 28 6 (by decide))
          have t19 : (σ17 1 13).toInt = (σ14 1 13).toInt := congrArg Int32.toInt (f17.at 1 13 (by decide))
          have gRI := gnRI
          exact r_zret hx hb hr hK hP hS hk (by omega) dX5_readActOf_136 (show P_X5_readActOf σ0 τ0 a1 b N mo q nm hc mm mc r17 σ17 τ14 from ⟨hR, hF, hFL, by omega, by first | (exfalso; omega) | exact RO.ofk (act_x (by omega)) (by omega) (by omega) (by omega) | (obtain ⟨f, e1, x1, x2⟩ := o1.no (by omega); exact RO.ofl (by rw [act_17 (by omega), e1, bnd_l]) (by omega) x1 x2) | exact RO.ofr (by rw [act_17 (by omega), e1, bnd_r]) (by omega) gCT | (obtain ⟨f, e2, x1, x2⟩ := o2.no (by omega); exact RO.ofl (by rw [act_16 (by omega), e2, bnd_l]) (by omega) x1 x2) | exact RO.ofr (by rw [act_16 (by omega), e2, bnd_r]) (by omega) gCT | (obtain ⟨f, e3, x1, x2⟩ := o3.no (by omega); exact RO.ofl (by rw [act_18 (by omega), e3, bnd_l]) (by omega) x1 x2) | exact RO.ofr (by rw [act_18 (by omega), e3, bnd_r]) (by omega) gCT, by omega, gRI, gWH, gWM⟩)
        · refine r_iconst hx hb dX5_readActOf_120 (by decide) (fun z20 ez20 => ?_)
          exact r_zret hx hb hr hK hP hS hk (by omega) dX5_readActOf_121 (show P_X5_readActOf σ0 τ0 a1 b N mo q nm hc mm mc z20 σ10 τ3 from ⟨hR, hF, hFL, by omega, by first | (exfalso; omega) | exact RO.ofk (act_x (by omega)) (by omega) (by omega) (by omega) | (obtain ⟨f, e1, x1, x2⟩ := o1.no (by omega); exact RO.ofl (by rw [act_17 (by omega), e1, bnd_l]) (by omega) x1 x2) | exact RO.ofr (by rw [act_17 (by omega), e1, bnd_r]) (by omega) gCT | (obtain ⟨f, e2, x1, x2⟩ := o2.no (by omega); exact RO.ofl (by rw [act_16 (by omega), e2, bnd_l]) (by omega) x1 x2) | exact RO.ofr (by rw [act_16 (by omega), e2, bnd_r]) (by omega) gCT | (obtain ⟨f, e3, x1, x2⟩ := o3.no (by omega); exact RO.ofl (by rw [act_18 (by omega), e3, bnd_l]) (by omega) x1 x2) | exact RO.ofr (by rw [act_18 (by omega), e3, bnd_r]) (by omega) gCT, by omega, gRI, gWH, gWM⟩)
    · exfalso; omega
  · refine lv_iload_n hx hb dX5_readActOf_14 rfl (lv_at hl 0 rfl) ?_
    refine r_bipush hx hb dX5_readActOf_15 (by decide) (fun z21 ez21 => ?_)
    refine r_icmp_eq (tgt := 35) hx hb dX5_readActOf_17 (by decide) (fun c22 => ?_) (fun c22 => ?_)
    · refine lv_aload_n hx hb dX5_readActOf_35 rfl (lv_at hl 1 rfl) ?_
      refine fg_5_0 (k := 28) hx hb hts in_X5_readActOf_5 hown hK hP (by decide) (by decide) (hts _ lk_X5_readActOf_21) dX5_readActOf_36 ?_
      refine r_cVv (k := 1) (As := []) (rest := []) ⟨hx, hb, hml, hown, hts⟩ hK hP hN hS (c_X8_next_v l D cA ad hI σ0 τ0 hR _ _ _ _ gCT) (cwV 0 hts gX5_readActOf_X8_next rfl rfl rfl (by decide +kernel) ⟨by decide, by decide⟩) (rv_Tape hK hP (by decide) (by decide)) rfl hl.1 rfl (Nat.le_of_ble_eq_true rfl) dX5_readActOf_39 (Nat.zero_le _) (Nat.zero_le _) (fun u23 H23 locs23 hp23 hP hS => ?_)
      obtain ⟨σ23, τ23⟩ := u23
      obtain ⟨hR, f23, fL23, hp23_0⟩ : P_X8_next_v σ0 τ0 _ _ _ _ σ23 τ23 := hp23
      have hP : va_P D vwCl (gw cA ad σ23 τ23) H23 := hP
      have hFL := hFL.step fL23 (by decide)
      have gWH := gWH.agL (AgrL.fr fL23 (by decide))
      have gWM := gWM.agL (AgrL.fr fL23 (by decide))
      have hF := hF.step f23 (by decide)
      have gRI := RI.fr gRI f23 (by decide)
      have gWH := gWH.ag (Agr.fr f23 (by decide))
      have gWM := gWM.ag (Agr.fr f23 (by decide))
      have t24 : (σ23 28 6).toInt = (σ0 28 6).toInt := congrArg Int32.toInt (f23.at 28 6 (by decide))
      have t25 : (σ23 1 13).toInt = (σ0 1 13).toInt := congrArg Int32.toInt (f23.at 1 13 (by decide))
      have gCT := hp23_0
      refine lv_iload_n hx hb dX5_readActOf_42 rfl (lv_at hl 0 rfl) ?_
      refine r_bipush hx hb dX5_readActOf_43 (by decide) (fun z26 ez26 => ?_)
      refine r_icmp_ne (tgt := 83) hx hb dX5_readActOf_45 (by decide) (fun c27 => ?_) (fun c27 => ?_)
      · exfalso; omega
      · refine lv_aload_n hx hb dX5_readActOf_48 rfl (lv_at hl 1 rfl) ?_
        refine fg_5_0 (k := 28) hx hb hts in_X5_readActOf_5 hown hK hP (by decide) (by decide) (hts _ lk_X5_readActOf_21) dX5_readActOf_49 ?_
        refine r_iconst hx hb dX5_readActOf_52 (by decide) (fun z28 ez28 => ?_)
        refine r_bipush hx hb dX5_readActOf_53 (by decide) (fun z29 ez29 => ?_)
        refine r_cVi (k := 1) (As := [.int z28, .int z29]) (rest := []) ⟨hx, hb, hml, hown, hts⟩ hK hP hN hS (c_X8_takeNumber_v l D cA ad hI σ23 τ23 hR z28 z29 b N mo _ 0 9 (by omega) (by omega) (by omega) (by omega) gCT) (cwV 2 hts gX5_readActOf_X8_takeNumber rfl rfl rfl (by decide +kernel) ⟨by decide, by decide⟩) (rv_Tape hK hP (by decide) (by decide)) rfl hl.1 rfl (Nat.le_of_ble_eq_true rfl) dX5_readActOf_55 (Nat.zero_le _) (Nat.zero_le _) (fun r30 u30 H30 locs30 hp30 hP hS => ?_)
        obtain ⟨σ30, τ30⟩ := u30
        obtain ⟨hR, f30, fL30, hq30, hp30_0, hp30_1⟩ : P_X8_takeNumber_v σ23 τ23 z28 z29 b N mo _ 0 9 r30 σ30 τ30 := hp30
        have o1 := hp30_0
        have hP : va_P D vwCl (gw cA ad σ30 τ30) H30 := hP
        have hFL := hFL.step fL30 (by decide)
        have gWH := gWH.agL (AgrL.fr fL30 (by decide))
        have gWM := gWM.agL (AgrL.fr fL30 (by decide))
        have hF := hF.step f30 (by decide)
        have gRI := RI.fr gRI f30 (by decide)
        have gWH := gWH.ag (Agr.fr f30 (by decide))
        have gWM := gWM.ag (Agr.fr f30 (by decide))
        have t31 : (σ30 28 6).toInt = (σ23 28 6).toInt := congrArg Int32.toInt (f30.at 28 6 (by decide))
        refine r_if_eq (tgt := 81) hx hb dX5_readActOf_58 (by decide) (fun c32 => ?_) (fun c32 => ?_)
        · clear hp30_1
          refine r_iconst hx hb dX5_readActOf_81 (by decide) (fun z33 ez33 => ?_)
          exact r_zret hx hb hr hK hP hS hk (by omega) dX5_readActOf_82 (show P_X5_readActOf σ0 τ0 a1 b N mo q nm hc mm mc z33 σ30 τ30 from ⟨hR, hF, hFL, by omega, by first | (exfalso; omega) | exact RO.ofk (act_x (by omega)) (by omega) (by omega) (by omega) | (obtain ⟨f, e1, x1, x2⟩ := o1.no (by omega); exact RO.ofl (by rw [act_17 (by omega), e1, bnd_l]) (by omega) x1 x2) | exact RO.ofr (by rw [act_17 (by omega), e1, bnd_r]) (by omega) gCT | (obtain ⟨f, e2, x1, x2⟩ := o2.no (by omega); exact RO.ofl (by rw [act_16 (by omega), e2, bnd_l]) (by omega) x1 x2) | exact RO.ofr (by rw [act_16 (by omega), e2, bnd_r]) (by omega) gCT | (obtain ⟨f, e3, x1, x2⟩ := o3.no (by omega); exact RO.ofl (by rw [act_18 (by omega), e3, bnd_l]) (by omega) x1 x2) | exact RO.ofr (by rw [act_18 (by omega), e3, bnd_r]) (by omega) gCT, by omega, gRI, gWH, gWM⟩)
        · replace hp30_1 := hp30_1.resolve_left (by omega)
          obtain ⟨y, e1, gCT, _⟩ := o1.ye (by omega)
          refine lv_aload_n hx hb dX5_readActOf_61 rfl (lv_at hl 1 rfl) ?_
          refine lv_iload_n hx hb dX5_readActOf_62 rfl (lv_at hl 0 rfl) ?_
          refine lv_iload_n hx hb dX5_readActOf_63 rfl (lv_at hl 2 rfl) ?_
          refine lv_aload_n hx hb dX5_readActOf_64 rfl (lv_at hl 1 rfl) ?_
          refine fg_5_0 (k := 28) hx hb hts in_X5_readActOf_5 hown hK hP (by decide) (by decide) (hts _ lk_X5_readActOf_21) dX5_readActOf_65 ?_
          refine fgN_8_12 (k := 1) hx hb hts in_X5_readActOf_8 hown hK hP (by decide) (by decide) (hN.use nw_5_71) dX5_readActOf_68 ?_
          refine r_cVi (k := 28) (As := [.int (σ0 1 9), .int a1, .int (σ30 1 12)]) (rest := []) ⟨hx, hb, hml, hown, hts⟩ hK hP hN hS (c_X5_note l D cA ad hI σ30 τ30 hR (σ0 1 9) a1 (σ30 1 12) (by omega) (by omega) (by omega) (by omega) gRI) (cwV 3 hts gX5_readActOf_X5_note rfl rfl rfl (by decide +kernel) ⟨by decide, by decide⟩) (rv_Roll hK hP (by decide) (by decide)) rfl hl.1 rfl (Nat.le_of_ble_eq_true rfl) dX5_readActOf_71 (Nat.zero_le _) (Nat.zero_le _) (fun r34 u34 H34 locs34 hp34 hP hS => ?_)
          obtain ⟨σ34, τ34⟩ := u34
          obtain ⟨hR, f34, fL34, hq34, hp34_0, gnRI⟩ : P_X5_note σ30 τ30 (σ0 1 9) a1 (σ30 1 12) r34 σ34 τ34 := hp34
          have hP : va_P D vwCl (gw cA ad σ34 τ34) H34 := hP
          obtain rfl := FrL.nil fL34
          have hF := hF.step f34 (by decide)
          have gCT := gCT.ag (Agr.fr f34 (by decide))
          have gWH := gWH.ag (Agr.fr f34 (by decide))
          have gWM := gWM.ag (Agr.fr f34 (by decide))
          have t35 : (σ34 28 6).toInt = (σ30 28 6).toInt := congrArg Int32.toInt (f34.at 28 6 (by decide))
          have t36 : (σ34 1 13).toInt = (σ30 1 13).toInt := congrArg Int32.toInt (f34.at 1 13 (by decide))
          have gRI := gnRI
          refine r_if_eq (tgt := 81) hx hb dX5_readActOf_74 (by decide) (fun c37 => ?_) (fun c37 => ?_)
          · refine r_iconst hx hb dX5_readActOf_81 (by decide) (fun z38 ez38 => ?_)
            exact r_zret hx hb hr hK hP hS hk (by omega) dX5_readActOf_82 (show P_X5_readActOf σ0 τ0 a1 b N mo q nm hc mm mc z38 σ34 τ30 from ⟨hR, hF, hFL, by omega, by first | (exfalso; omega) | exact RO.ofk (act_x (by omega)) (by omega) (by omega) (by omega) | (obtain ⟨f, e1, x1, x2⟩ := o1.no (by omega); exact RO.ofl (by rw [act_17 (by omega), e1, bnd_l]) (by omega) x1 x2) | exact RO.ofr (by rw [act_17 (by omega), e1, bnd_r]) (by omega) gCT | (obtain ⟨f, e2, x1, x2⟩ := o2.no (by omega); exact RO.ofl (by rw [act_16 (by omega), e2, bnd_l]) (by omega) x1 x2) | exact RO.ofr (by rw [act_16 (by omega), e2, bnd_r]) (by omega) gCT | (obtain ⟨f, e3, x1, x2⟩ := o3.no (by omega); exact RO.ofl (by rw [act_18 (by omega), e3, bnd_l]) (by omega) x1 x2) | exact RO.ofr (by rw [act_18 (by omega), e3, bnd_r]) (by omega) gCT, by omega, gRI, gWH, gWM⟩)
          · refine r_iconst hx hb dX5_readActOf_77 (by decide) (fun z39 ez39 => ?_)
            refine lv_goto (tgt := 82) hx hb dX5_readActOf_78 (by decide) ?_
            exact r_zret hx hb hr hK hP hS hk (by omega) dX5_readActOf_82 (show P_X5_readActOf σ0 τ0 a1 b N mo q nm hc mm mc z39 σ34 τ30 from ⟨hR, hF, hFL, by omega, by first | (exfalso; omega) | exact RO.ofk (act_x (by omega)) (by omega) (by omega) (by omega) | (obtain ⟨f, e1, x1, x2⟩ := o1.no (by omega); exact RO.ofl (by rw [act_17 (by omega), e1, bnd_l]) (by omega) x1 x2) | exact RO.ofr (by rw [act_17 (by omega), e1, bnd_r]) (by omega) gCT | (obtain ⟨f, e2, x1, x2⟩ := o2.no (by omega); exact RO.ofl (by rw [act_16 (by omega), e2, bnd_l]) (by omega) x1 x2) | exact RO.ofr (by rw [act_16 (by omega), e2, bnd_r]) (by omega) gCT | (obtain ⟨f, e3, x1, x2⟩ := o3.no (by omega); exact RO.ofl (by rw [act_18 (by omega), e3, bnd_l]) (by omega) x1 x2) | exact RO.ofr (by rw [act_18 (by omega), e3, bnd_r]) (by omega) gCT, by omega, gRI, gWH, gWM⟩)
    · refine lv_iload_n hx hb dX5_readActOf_20 rfl (lv_at hl 0 rfl) ?_
      refine r_bipush hx hb dX5_readActOf_21 (by decide) (fun z40 ez40 => ?_)
      refine r_icmp_eq (tgt := 35) hx hb dX5_readActOf_23 (by decide) (fun c41 => ?_) (fun c41 => ?_)
      · refine lv_aload_n hx hb dX5_readActOf_35 rfl (lv_at hl 1 rfl) ?_
        refine fg_5_0 (k := 28) hx hb hts in_X5_readActOf_5 hown hK hP (by decide) (by decide) (hts _ lk_X5_readActOf_21) dX5_readActOf_36 ?_
        refine r_cVv (k := 1) (As := []) (rest := []) ⟨hx, hb, hml, hown, hts⟩ hK hP hN hS (c_X8_next_v l D cA ad hI σ0 τ0 hR _ _ _ _ gCT) (cwV 0 hts gX5_readActOf_X8_next rfl rfl rfl (by decide +kernel) ⟨by decide, by decide⟩) (rv_Tape hK hP (by decide) (by decide)) rfl hl.1 rfl (Nat.le_of_ble_eq_true rfl) dX5_readActOf_39 (Nat.zero_le _) (Nat.zero_le _) (fun u42 H42 locs42 hp42 hP hS => ?_)
        obtain ⟨σ42, τ42⟩ := u42
        obtain ⟨hR, f42, fL42, hp42_0⟩ : P_X8_next_v σ0 τ0 _ _ _ _ σ42 τ42 := hp42
        have hP : va_P D vwCl (gw cA ad σ42 τ42) H42 := hP
        have hFL := hFL.step fL42 (by decide)
        have gWH := gWH.agL (AgrL.fr fL42 (by decide))
        have gWM := gWM.agL (AgrL.fr fL42 (by decide))
        have hF := hF.step f42 (by decide)
        have gRI := RI.fr gRI f42 (by decide)
        have gWH := gWH.ag (Agr.fr f42 (by decide))
        have gWM := gWM.ag (Agr.fr f42 (by decide))
        have t43 : (σ42 28 6).toInt = (σ0 28 6).toInt := congrArg Int32.toInt (f42.at 28 6 (by decide))
        have t44 : (σ42 1 13).toInt = (σ0 1 13).toInt := congrArg Int32.toInt (f42.at 1 13 (by decide))
        have gCT := hp42_0
        refine lv_iload_n hx hb dX5_readActOf_42 rfl (lv_at hl 0 rfl) ?_
        refine r_bipush hx hb dX5_readActOf_43 (by decide) (fun z45 ez45 => ?_)
        refine r_icmp_ne (tgt := 83) hx hb dX5_readActOf_45 (by decide) (fun c46 => ?_) (fun c46 => ?_)
        · refine lv_iload_n hx hb dX5_readActOf_83 rfl (lv_at hl 0 rfl) ?_
          refine r_bipush hx hb dX5_readActOf_84 (by decide) (fun z47 ez47 => ?_)
          refine r_icmp_ne (tgt := 103) hx hb dX5_readActOf_86 (by decide) (fun c48 => ?_) (fun c48 => ?_)
          · refine lv_aload_n hx hb dX5_readActOf_103 rfl (lv_at hl 1 rfl) ?_
            refine fg_5_0 (k := 28) hx hb hts in_X5_readActOf_5 hown hK hP (by decide) (by decide) (hts _ lk_X5_readActOf_21) dX5_readActOf_104 ?_
            refine lv_aload_n hx hb dX5_readActOf_107 rfl (lv_at hl 1 rfl) ?_
            refine fg_5_1 (k := 28) hx hb hts in_X5_readActOf_5 hown hK hP (by decide) (by decide) (hts _ lk_X5_readActOf_25) dX5_readActOf_108 ?_
            refine r_cVi (k := 1) (As := [.ref (ad 2)]) (rest := []) ⟨hx, hb, hml, hown, hts⟩ hK hP hN hS (c_X8_manHere_w l D cA ad hI σ42 τ42 hR b N mo _ mm mc gCT gWM) (cwV 1 hts gX5_readActOf_X8_manHere rfl rfl rfl (by decide +kernel) ⟨by decide, by decide⟩) (rv_Tape hK hP (by decide) (by decide)) rfl hl.1 rfl (Nat.le_of_ble_eq_true rfl) dX5_readActOf_111 (Nat.zero_le _) (Nat.zero_le _) (fun r49 u49 H49 locs49 hp49 hP hS => ?_)
            obtain ⟨σ49, τ49⟩ := u49
            obtain ⟨hR, f49, fL49, hq49, hp49_0, hp49_1, gnCT, gnWM⟩ : P_X8_manHere_w σ42 τ42 b N mo _ mm mc r49 σ49 τ49 := hp49
            have o3 := hp49_0
            have hP : va_P D vwCl (gw cA ad σ49 τ49) H49 := hP
            obtain rfl := FrL.nil fL49
            have hF := hF.step f49 (by decide)
            have gCT := gCT.ag (Agr.fr f49 (by decide))
            have gRI := RI.fr gRI f49 (by decide)
            have gWH := gWH.ag (Agr.fr f49 (by decide))
            have gWM := gWM.ag (Agr.fr f49 (by decide))
            have t50 : (σ49 28 6).toInt = (σ42 28 6).toInt := congrArg Int32.toInt (f49.at 28 6 (by decide))
            refine lv_istore_n (lv' := [(3, .int r49), (2, .int (σ0 1 9)), (0, .ref (ad 28)), (1, .int a1)]) hx hb dX5_readActOf_114 rfl hl (by decide) rfl (fun ls hl => ?_)
            refine lv_iload_n hx hb dX5_readActOf_115 rfl (lv_at hl 0 rfl) ?_
            refine r_iconst hx hb dX5_readActOf_116 (by decide) (fun z51 ez51 => ?_)
            refine r_icmp_ne (tgt := 122) hx hb dX5_readActOf_117 (by decide) (fun c52 => ?_) (fun c52 => ?_)
            · first | (obtain ⟨e2, _, _, _⟩ := o2.ye (by omega)) | (obtain ⟨e3, _, _, _⟩ := o3.ye (by omega))
              refine lv_aload_n hx hb dX5_readActOf_122 rfl (lv_at hl 2 rfl) ?_
              refine fg_5_0 (k := 28) hx hb hts in_X5_readActOf_5 hown hK hP (by decide) (by decide) (hts _ lk_X5_readActOf_21) dX5_readActOf_123 ?_
              refine r_cVv (k := 1) (As := []) (rest := []) ⟨hx, hb, hml, hown, hts⟩ hK hP hN hS (c_X8_next_v l D cA ad hI σ49 τ42 hR _ _ _ _ gCT) (cwV 0 hts gX5_readActOf_X8_next rfl rfl rfl (by decide +kernel) ⟨by decide, by decide⟩) (rv_Tape hK hP (by decide) (by decide)) rfl hl.1 rfl (Nat.le_of_ble_eq_true rfl) dX5_readActOf_126 (Nat.zero_le _) (Nat.zero_le _) (fun u53 H53 locs53 hp53 hP hS => ?_)
              obtain ⟨σ53, τ53⟩ := u53
              obtain ⟨hR, f53, fL53, hp53_0⟩ : P_X8_next_v σ49 τ42 _ _ _ _ σ53 τ53 := hp53
              have hP : va_P D vwCl (gw cA ad σ53 τ53) H53 := hP
              have hFL := hFL.step fL53 (by decide)
              have gWH := gWH.agL (AgrL.fr fL53 (by decide))
              have gWM := gWM.agL (AgrL.fr fL53 (by decide))
              have hF := hF.step f53 (by decide)
              have gRI := RI.fr gRI f53 (by decide)
              have gWH := gWH.ag (Agr.fr f53 (by decide))
              have gWM := gWM.ag (Agr.fr f53 (by decide))
              have t54 : (σ53 28 6).toInt = (σ49 28 6).toInt := congrArg Int32.toInt (f53.at 28 6 (by decide))
              have t55 : (σ53 1 13).toInt = (σ49 1 13).toInt := congrArg Int32.toInt (f53.at 1 13 (by decide))
              have gCT := hp53_0
              refine lv_aload_n hx hb dX5_readActOf_129 rfl (lv_at hl 2 rfl) ?_
              refine lv_iload_n hx hb dX5_readActOf_130 rfl (lv_at hl 1 rfl) ?_
              refine lv_iload_n hx hb dX5_readActOf_131 rfl (lv_at hl 3 rfl) ?_
              refine lv_iload_n hx hb dX5_readActOf_132 rfl (lv_at hl 0 rfl) ?_
              refine r_cVi (k := 28) (As := [.int (σ0 1 9), .int a1, .int r49]) (rest := []) ⟨hx, hb, hml, hown, hts⟩ hK hP hN hS (c_X5_note l D cA ad hI σ53 τ53 hR (σ0 1 9) a1 r49 (by omega) (by omega) (by omega) (by omega) gRI) (cwV 3 hts gX5_readActOf_X5_note rfl rfl rfl (by decide +kernel) ⟨by decide, by decide⟩) (rv_Roll hK hP (by decide) (by decide)) rfl hl.1 rfl (Nat.le_of_ble_eq_true rfl) dX5_readActOf_133 (Nat.zero_le _) (Nat.zero_le _) (fun r56 u56 H56 locs56 hp56 hP hS => ?_)
              obtain ⟨σ56, τ56⟩ := u56
              obtain ⟨hR, f56, fL56, hq56, hp56_0, gnRI⟩ : P_X5_note σ53 τ53 (σ0 1 9) a1 r49 r56 σ56 τ56 := hp56
              have hP : va_P D vwCl (gw cA ad σ56 τ56) H56 := hP
              obtain rfl := FrL.nil fL56
              have hF := hF.step f56 (by decide)
              have gCT := gCT.ag (Agr.fr f56 (by decide))
              have gWH := gWH.ag (Agr.fr f56 (by decide))
              have gWM := gWM.ag (Agr.fr f56 (by decide))
              have t57 : (σ56 28 6).toInt = (σ53 28 6).toInt := congrArg Int32.toInt (f56.at 28 6 (by decide))
              have t58 : (σ56 1 13).toInt = (σ53 1 13).toInt := congrArg Int32.toInt (f56.at 1 13 (by decide))
              have gRI := gnRI
              exact r_zret hx hb hr hK hP hS hk (by omega) dX5_readActOf_136 (show P_X5_readActOf σ0 τ0 a1 b N mo q nm hc mm mc r56 σ56 τ53 from ⟨hR, hF, hFL, by omega, by first | (exfalso; omega) | exact RO.ofk (act_x (by omega)) (by omega) (by omega) (by omega) | (obtain ⟨f, e1, x1, x2⟩ := o1.no (by omega); exact RO.ofl (by rw [act_17 (by omega), e1, bnd_l]) (by omega) x1 x2) | exact RO.ofr (by rw [act_17 (by omega), e1, bnd_r]) (by omega) gCT | (obtain ⟨f, e2, x1, x2⟩ := o2.no (by omega); exact RO.ofl (by rw [act_16 (by omega), e2, bnd_l]) (by omega) x1 x2) | exact RO.ofr (by rw [act_16 (by omega), e2, bnd_r]) (by omega) gCT | (obtain ⟨f, e3, x1, x2⟩ := o3.no (by omega); exact RO.ofl (by rw [act_18 (by omega), e3, bnd_l]) (by omega) x1 x2) | exact RO.ofr (by rw [act_18 (by omega), e3, bnd_r]) (by omega) gCT, by omega, gRI, gWH, gWM⟩)
            · refine r_iconst hx hb dX5_readActOf_120 (by decide) (fun z59 ez59 => ?_)
              exact r_zret hx hb hr hK hP hS hk (by omega) dX5_readActOf_121 (show P_X5_readActOf σ0 τ0 a1 b N mo q nm hc mm mc z59 σ49 τ42 from ⟨hR, hF, hFL, by omega, by first | (exfalso; omega) | exact RO.ofk (act_x (by omega)) (by omega) (by omega) (by omega) | (obtain ⟨f, e1, x1, x2⟩ := o1.no (by omega); exact RO.ofl (by rw [act_17 (by omega), e1, bnd_l]) (by omega) x1 x2) | exact RO.ofr (by rw [act_17 (by omega), e1, bnd_r]) (by omega) gCT | (obtain ⟨f, e2, x1, x2⟩ := o2.no (by omega); exact RO.ofl (by rw [act_16 (by omega), e2, bnd_l]) (by omega) x1 x2) | exact RO.ofr (by rw [act_16 (by omega), e2, bnd_r]) (by omega) gCT | (obtain ⟨f, e3, x1, x2⟩ := o3.no (by omega); exact RO.ofl (by rw [act_18 (by omega), e3, bnd_l]) (by omega) x1 x2) | exact RO.ofr (by rw [act_18 (by omega), e3, bnd_r]) (by omega) gCT, by omega, gRI, gWH, gWM⟩)
          · exfalso; omega
        · exfalso; omega
      · refine lv_aload_n hx hb dX5_readActOf_26 rfl (lv_at hl 1 rfl) ?_
        refine fg_5_0 (k := 28) hx hb hts in_X5_readActOf_5 hown hK hP (by decide) (by decide) (hts _ lk_X5_readActOf_21) dX5_readActOf_27 ?_
        refine r_iconst hx hb dX5_readActOf_30 (by decide) (fun z60 ez60 => ?_)
        refine r_cVi (k := 1) (As := [.int z60]) (rest := []) ⟨hx, hb, hml, hown, hts⟩ hK hP hN hS (c_X8_blame_v l D cA ad hI σ0 τ0 hR z60 _ _ _ _ (by omega) gCT) (cwV 1 hts gX5_readActOf_X8_blame rfl rfl rfl (by decide +kernel) ⟨by decide, by decide⟩) (rv_Tape hK hP (by decide) (by decide)) rfl hl.1 rfl (Nat.le_of_ble_eq_true rfl) dX5_readActOf_31 (Nat.zero_le _) (Nat.zero_le _) (fun r61 u61 H61 locs61 hp61 hP hS => ?_)
        obtain ⟨σ61, τ61⟩ := u61
        obtain ⟨hR, f61, fL61, hq61, hp61_0, hp61_1, hp61_2, gnCT⟩ : P_X8_blame_v σ0 τ0 z60 _ _ _ _ r61 σ61 τ61 := hp61
        have hP : va_P D vwCl (gw cA ad σ61 τ61) H61 := hP
        obtain rfl := FrL.nil fL61
        have hF := hF.step f61 (by decide)
        have gCT := gCT.ag (Agr.fr f61 (by decide))
        have gRI := RI.fr gRI f61 (by decide)
        have gWH := gWH.ag (Agr.fr f61 (by decide))
        have gWM := gWM.ag (Agr.fr f61 (by decide))
        have t62 : (σ61 28 6).toInt = (σ0 28 6).toInt := congrArg Int32.toInt (f61.at 28 6 (by decide))
        exact r_zret hx hb hr hK hP hS hk (by omega) dX5_readActOf_34 (show P_X5_readActOf σ0 τ0 a1 b N mo q nm hc mm mc r61 σ61 τ0 from ⟨hR, hF, hFL, by omega, by first | (exfalso; omega) | exact RO.ofk (act_x (by omega)) (by omega) (by omega) (by omega) | (obtain ⟨f, e1, x1, x2⟩ := o1.no (by omega); exact RO.ofl (by rw [act_17 (by omega), e1, bnd_l]) (by omega) x1 x2) | exact RO.ofr (by rw [act_17 (by omega), e1, bnd_r]) (by omega) gCT | (obtain ⟨f, e2, x1, x2⟩ := o2.no (by omega); exact RO.ofl (by rw [act_16 (by omega), e2, bnd_l]) (by omega) x1 x2) | exact RO.ofr (by rw [act_16 (by omega), e2, bnd_r]) (by omega) gCT | (obtain ⟨f, e3, x1, x2⟩ := o3.no (by omega); exact RO.ofl (by rw [act_18 (by omega), e3, bnd_l]) (by omega) x1 x2) | exact RO.ofr (by rw [act_18 (by omega), e3, bnd_r]) (by omega) gCT, by omega, gRI, gWH, gWM⟩)
theorem in_X5_readLine_5 : ∀ w ∈ u_ws RX5 TX5 8, w ∈ wsX5_readLine := by decide +kernel
theorem in_X5_readLine_8 : ∀ w ∈ u_ws RX8 TX8 15, w ∈ wsX5_readLine := by decide +kernel
theorem lk_X5_readLine_21 : Cond.fieldLink RX5 21 "CuckooShares$Roll" "tape" "LCuckooShares$Tape;" ∈ wsX5_readLine := by decide +kernel
theorem lk_X5_readLine_25 : Cond.fieldLink RX5 25 "CuckooShares$Roll" "valley" "LCuckooShares$Valley;" ∈ wsX5_readLine := by decide +kernel
theorem lk_X5_readLine_33 : Cond.fieldLink RX5 33 "CuckooShares$Roll" "lines" "I" ∈ wsX5_readLine := by decide +kernel
abbrev L_X5_readLine : List Rc := [(1, 1, 7, 10), (1, 1, 12, 14), (368, 368, 0, 39), (369, 369, 0, 39), (370, 370, 0, 39)]
abbrev LL_X5_readLine : List Rc := [(1, 1, 11, 11)]
def P_X5_readLine (σ0 : Nat → Nat → Int32) (τ0 : Nat → Nat → Int64) (b : Nat → Int) (N : Nat) (mo : Nat) (q : Nat) (nm : Nat → Int) (hc : Nat) (mm : Nat → Int) (mc : Nat) (nn : Nat) (r : Int32) (σ : Nat → Nat → Int32) (τ : Nat → Nat → Int64) : Prop := Rg σ ∧ Fr L_X5_readLine σ0 σ ∧ FrL LL_X5_readLine τ0 τ ∧ (0 ≤ r.toInt ∧ r.toInt ≤ 1) ∧ (RO r σ (rolL b N mo nm hc mm mc nn q) (fun q1 => CT σ τ b N mo q1)) ∧ (r.toInt = 0 ∨ (σ 1 13).toInt = (σ0 1 13).toInt) ∧ RI σ ∧ WH σ τ nm hc ∧ WM σ τ mm mc
set_option maxHeartbeats 4000000 in
theorem c_X5_readLine (l : Launch) (D : va_G) (cA : Nat → ClassId) (ad : Nat → Nat) (hI : Inj ad) (σ0 : Nat → Nat → Int32) (τ0 : Nat → Nat → Int64) (hR : Rg σ0) (b : Nat → Int) (N : Nat) (mo : Nat) (q : Nat) (nm : Nat → Int) (hc : Nat) (mm : Nat → Int) (mc : Nat) (nn : Nat) (hpre0 : (σ0 28 6).toInt = (nn : Int)) (hpre1 : nn ≤ 40) (gRI0 : RI σ0) (gCT0 : CT σ0 τ0 b N mo q) (gWH0 : WH σ0 τ0 nm hc) (gWM0 : WM σ0 τ0 mm mc) : Met l yX5_readLine wsX5_readLine ({ frames := 4, cells := 0, slots := 0, locals := 86 } : Room) (WQc D cA ad [.ref (ad 28)] σ0 τ0) (va_Qi (fun (r : Int32) (u : SS) => P_X5_readLine σ0 τ0 b N mo q nm hc mm mc nn r u.1 u.2) (WB D cA ad) (AA ad)) 0 0 (AA ad) := by
  refine Met.ofW (cc := cX5_readLine) (maxL := 5) (ret := (some .boolean)) (by decide) rfl ?_
  intro p e s m args below meth c s₁ B hml hv
  obtain ⟨rfl, hP, hK, hN⟩ := hv
  have C : Cy p s m _ meth c cX5_readLine 5 wsX5_readLine RX5 D cA ad (some .boolean) := ⟨B.exec, B.bytes, hml, findClass_of_methodNamed B.named, atoms_spec (ws := wsX5_readLine) B.pre, hK, B.notSynchronized, B.returns, hI, hN⟩
  have hl := lv_entry ([.ref (ad 28)]) (n := 5) (Nat.le_of_ble_eq_true rfl)
  rw [lg_entry_eq]
  generalize (lg_sl ([.ref (ad 28)]) ++ List.replicate (5 - (lg_sl ([.ref (ad 28)])).length) Slot.unset).toArray = ls at hl ⊢
  have hl : lv_has ls 5 [(0, .ref (ad 28))] := hl
  have hS : va_S (AA ad) s.heap s.heap [] := va_S.rf
  have hF : Fr L_X5_readLine σ0 σ0 := Fr.rf
  have hFL : FrL LL_X5_readLine τ0 τ0 := FrL.rf
  have gRI := gRI0
  have gCT := gCT0
  have gWH := gWH0
  have gWM := gWM0
  obtain ⟨hx, hb, _, hown, hts, _, hk, hr, _, _⟩ := C
  have htk := gCT.tk
  refine lv_aload_n hx hb dX5_readLine_0 rfl (lv_at hl 0 rfl) ?_
  refine fg_5_0 (k := 28) hx hb hts in_X5_readLine_5 hown hK hP (by decide) (by decide) (hts _ lk_X5_readLine_21) dX5_readLine_1 ?_
  refine fgN_8_9 (k := 1) hx hb hts in_X5_readLine_8 hown hK hP (by decide) (by decide) (hN.use nw_5_37) dX5_readLine_4 ?_
  refine lv_istore_n (lv' := [(1, .int (σ0 1 9)), (0, .ref (ad 28))]) hx hb dX5_readLine_7 rfl hl (by decide) rfl (fun ls hl => ?_)
  refine lv_iload_n hx hb dX5_readLine_8 rfl (lv_at hl 0 rfl) ?_
  refine r_bipush hx hb dX5_readLine_9 (by decide) (fun z1 ez1 => ?_)
  refine r_icmp_eq (tgt := 26) hx hb dX5_readLine_11 (by decide) (fun c2 => ?_) (fun c2 => ?_)
  · refine r_iconst hx hb dX5_readLine_26 (by decide) (fun z3 ez3 => ?_)
    refine lv_goto (tgt := 31) hx hb dX5_readLine_27 (by decide) ?_
    refine lv_istore_n (lv' := [(2, .int z3), (1, .int (σ0 1 9)), (0, .ref (ad 28))]) hx hb dX5_readLine_31 rfl hl (by decide) rfl (fun ls hl => ?_)
    refine lv_iload_n hx hb dX5_readLine_32 rfl (lv_at hl 0 rfl) ?_
    refine r_if_eq (tgt := 40) hx hb dX5_readLine_33 (by decide) (fun c4 => ?_) (fun c4 => ?_)
    · exfalso; omega
    · refine r_iconst hx hb dX5_readLine_36 (by decide) (fun z5 ez5 => ?_)
      refine lv_goto (tgt := 51) hx hb dX5_readLine_37 (by decide) ?_
      refine lv_istore_n (lv' := [(3, .int z5), (2, .int z3), (1, .int (σ0 1 9)), (0, .ref (ad 28))]) hx hb dX5_readLine_51 rfl hl (by decide) rfl (fun ls hl => ?_)
      refine lv_iload_n hx hb dX5_readLine_52 rfl (lv_at hl 1 rfl) ?_
      refine r_if_ne (tgt := 63) hx hb dX5_readLine_53 (by decide) (fun c6 => ?_) (fun c6 => ?_)
      · try (obtain ⟨e1, _, _, _⟩ := o1.ye (by omega))
        refine lv_aload_n hx hb dX5_readLine_63 rfl (lv_at hl 3 rfl) ?_
        refine fg_5_6 (k := 28) hx hb hts in_X5_readLine_5 hown hK hP (by decide) (by decide) (hts _ lk_X5_readLine_33) dX5_readLine_64 ?_
        refine r_bipush hx hb dX5_readLine_67 (by decide) (fun z7 ez7 => ?_)
        refine r_icmp_lt (tgt := 81) hx hb dX5_readLine_69 (by decide) (fun c8 => ?_) (fun c8 => ?_)
        · refine lv_aload_n hx hb dX5_readLine_81 rfl (lv_at hl 3 rfl) ?_
          refine fg_5_0 (k := 28) hx hb hts in_X5_readLine_5 hown hK hP (by decide) (by decide) (hts _ lk_X5_readLine_21) dX5_readLine_82 ?_
          refine r_cVv (k := 1) (As := []) (rest := []) ⟨hx, hb, hml, hown, hts⟩ hK hP hN hS (c_X8_next_v l D cA ad hI σ0 τ0 hR _ _ _ _ gCT) (cwV 0 hts gX5_readLine_X8_next rfl rfl rfl (by decide +kernel) ⟨by decide, by decide⟩) (rv_Tape hK hP (by decide) (by decide)) rfl hl.1 rfl (Nat.le_of_ble_eq_true rfl) dX5_readLine_85 (Nat.zero_le _) (Nat.zero_le _) (fun u9 H9 locs9 hp9 hP hS => ?_)
          obtain ⟨σ9, τ9⟩ := u9
          obtain ⟨hR, f9, fL9, hp9_0⟩ : P_X8_next_v σ0 τ0 _ _ _ _ σ9 τ9 := hp9
          have hP : va_P D vwCl (gw cA ad σ9 τ9) H9 := hP
          have hFL := hFL.step fL9 (by decide)
          have gWH := gWH.agL (AgrL.fr fL9 (by decide))
          have gWM := gWM.agL (AgrL.fr fL9 (by decide))
          have hF := hF.step f9 (by decide)
          have gRI := RI.fr gRI f9 (by decide)
          have gWH := gWH.ag (Agr.fr f9 (by decide))
          have gWM := gWM.ag (Agr.fr f9 (by decide))
          have t10 : (σ9 28 6).toInt = (σ0 28 6).toInt := congrArg Int32.toInt (f9.at 28 6 (by decide))
          have t11 : (σ9 1 13).toInt = (σ0 1 13).toInt := congrArg Int32.toInt (f9.at 1 13 (by decide))
          have gCT := hp9_0
          refine lv_iload_n hx hb dX5_readLine_88 rfl (lv_at hl 1 rfl) ?_
          refine r_if_ne (tgt := 98) hx hb dX5_readLine_89 (by decide) (fun c12 => ?_) (fun c12 => ?_)
          · refine lv_iload_n hx hb dX5_readLine_98 rfl (lv_at hl 2 rfl) ?_
            refine r_bipush hx hb dX5_readLine_99 (by decide) (fun z13 ez13 => ?_)
            refine r_icmp_ne (tgt := 112) hx hb dX5_readLine_101 (by decide) (fun c14 => ?_) (fun c14 => ?_)
            · refine lv_iload_n hx hb dX5_readLine_112 rfl (lv_at hl 2 rfl) ?_
              refine r_bipush hx hb dX5_readLine_113 (by decide) (fun z15 ez15 => ?_)
              refine r_icmp_ne (tgt := 130) hx hb dX5_readLine_115 (by decide) (fun c16 => ?_) (fun c16 => ?_)
              · exfalso; omega
              · refine lv_aload_n hx hb dX5_readLine_118 rfl (lv_at hl 3 rfl) ?_
                refine fg_5_0 (k := 28) hx hb hts in_X5_readLine_5 hown hK hP (by decide) (by decide) (hts _ lk_X5_readLine_21) dX5_readLine_119 ?_
                refine r_iconst hx hb dX5_readLine_122 (by decide) (fun z17 ez17 => ?_)
                refine r_iconst hx hb dX5_readLine_123 (by decide) (fun z18 ez18 => ?_)
                refine r_cVi (k := 1) (As := [.int z17, .int z18]) (rest := []) ⟨hx, hb, hml, hown, hts⟩ hK hP hN hS (c_X8_takeNumber_v l D cA ad hI σ9 τ9 hR z17 z18 b N mo _ 0 3 (by omega) (by omega) (by omega) (by omega) gCT) (cwV 2 hts gX5_readLine_X8_takeNumber rfl rfl rfl (by decide +kernel) ⟨by decide, by decide⟩) (rv_Tape hK hP (by decide) (by decide)) rfl hl.1 rfl (Nat.le_of_ble_eq_true rfl) dX5_readLine_124 (Nat.zero_le _) (Nat.zero_le _) (fun r19 u19 H19 locs19 hp19 hP hS => ?_)
                obtain ⟨σ19, τ19⟩ := u19
                obtain ⟨hR, f19, fL19, hq19, hp19_0, hp19_1⟩ : P_X8_takeNumber_v σ9 τ9 z17 z18 b N mo _ 0 3 r19 σ19 τ19 := hp19
                have o3 := hp19_0
                have hP : va_P D vwCl (gw cA ad σ19 τ19) H19 := hP
                have hFL := hFL.step fL19 (by decide)
                have gWH := gWH.agL (AgrL.fr fL19 (by decide))
                have gWM := gWM.agL (AgrL.fr fL19 (by decide))
                have hF := hF.step f19 (by decide)
                have gRI := RI.fr gRI f19 (by decide)
                have gWH := gWH.ag (Agr.fr f19 (by decide))
                have gWM := gWM.ag (Agr.fr f19 (by decide))
                have t20 : (σ19 28 6).toInt = (σ9 28 6).toInt := congrArg Int32.toInt (f19.at 28 6 (by decide))
                refine lv_goto (tgt := 140) hx hb dX5_readLine_127 (by decide) ?_
                refine lv_istore (lv' := [(4, .int r19), (3, .int z5), (2, .int z3), (1, .int (σ0 1 9)), (0, .ref (ad 28))]) hx hb dX5_readLine_140 hl (by decide) rfl (fun ls hl => ?_)
                refine lv_iload hx hb dX5_readLine_142 (lv_at hl 0 rfl) ?_
                refine r_if_eq (tgt := 167) hx hb dX5_readLine_144 (by decide) (fun c21 => ?_) (fun c21 => ?_)
                · clear hp19_1
                  refine r_iconst hx hb dX5_readLine_167 (by decide) (fun z22 ez22 => ?_)
                  exact r_zret hx hb hr hK hP hS hk (by omega) dX5_readLine_168 (show P_X5_readLine σ0 τ0 b N mo q nm hc mm mc nn z22 σ19 τ19 from ⟨hR, hF, hFL, by omega, by first | (exfalso; omega) | (obtain ⟨f, e1, x1, x2⟩ := o1.no (by omega); exact RO.ofl (by rw [rol_m (by omega), e1, bnd_l]) (by omega) x1 x2) | exact RO.ofk (rol_4 (by omega) (by omega)) (by omega) (by omega) (by omega) | exact RO.ofk (by rw [rol_m (by omega), e1, bnd_r, if_pos (by omega)]) (by omega) (by omega) (by omega) | (rw [rol_m (by omega), e1, bnd_r, if_neg (by omega)]; exact o2) | exact RO.ofr (rol_19 (by omega) (by omega)) (by omega) gCT | (obtain ⟨f, e3, x1, x2⟩ := o3.no (by omega); exact RO.ofl (by rw [rol_14 (by omega) (by omega), e3, bnd_l]) (by omega) x1 x2) | exact RO.ofr (by rw [rol_14 (by omega) (by omega), e3, bnd_r]) (by omega) gCT | (obtain ⟨f, e4, x1, x2⟩ := o4.no (by omega); exact RO.ofl (by rw [rol_15 (by omega) (by omega), e4, bnd_l]) (by omega) x1 x2) | exact RO.ofr (by rw [rol_15 (by omega) (by omega), e4, bnd_r]) (by omega) gCT, by omega, gRI, gWH, gWM⟩)
                · replace hp19_1 := hp19_1.resolve_left (by omega)
                  first | (obtain ⟨y, e3, gCT, _⟩ := o3.ye (by omega)) | (obtain ⟨y, e4, gCT, _⟩ := o4.ye (by omega))
                  refine lv_aload_n hx hb dX5_readLine_147 rfl (lv_at hl 4 rfl) ?_
                  refine lv_iload_n hx hb dX5_readLine_148 rfl (lv_at hl 3 rfl) ?_
                  refine r_iconst hx hb dX5_readLine_149 (by decide) (fun z23 ez23 => ?_)
                  refine lv_aload_n hx hb dX5_readLine_150 rfl (lv_at hl 4 rfl) ?_
                  refine fg_5_0 (k := 28) hx hb hts in_X5_readLine_5 hown hK hP (by decide) (by decide) (hts _ lk_X5_readLine_21) dX5_readLine_151 ?_
                  refine fgN_8_12 (k := 1) hx hb hts in_X5_readLine_8 hown hK hP (by decide) (by decide) (hN.use nw_5_71) dX5_readLine_154 ?_
                  refine r_cVi (k := 28) (As := [.int (σ0 1 9), .int z23, .int (σ19 1 12)]) (rest := []) ⟨hx, hb, hml, hown, hts⟩ hK hP hN hS (c_X5_note l D cA ad hI σ19 τ19 hR (σ0 1 9) z23 (σ19 1 12) (by omega) (by omega) (by omega) (by omega) gRI) (cwV 3 hts gX5_readLine_X5_note rfl rfl rfl (by decide +kernel) ⟨by decide, by decide⟩) (rv_Roll hK hP (by decide) (by decide)) rfl hl.1 rfl (Nat.le_of_ble_eq_true rfl) dX5_readLine_157 (Nat.zero_le _) (Nat.zero_le _) (fun r24 u24 H24 locs24 hp24 hP hS => ?_)
                  obtain ⟨σ24, τ24⟩ := u24
                  obtain ⟨hR, f24, fL24, hq24, hp24_0, gnRI⟩ : P_X5_note σ19 τ19 (σ0 1 9) z23 (σ19 1 12) r24 σ24 τ24 := hp24
                  have hP : va_P D vwCl (gw cA ad σ24 τ24) H24 := hP
                  obtain rfl := FrL.nil fL24
                  have hF := hF.step f24 (by decide)
                  have gCT := gCT.ag (Agr.fr f24 (by decide))
                  have gWH := gWH.ag (Agr.fr f24 (by decide))
                  have gWM := gWM.ag (Agr.fr f24 (by decide))
                  have t25 : (σ24 28 6).toInt = (σ19 28 6).toInt := congrArg Int32.toInt (f24.at 28 6 (by decide))
                  have t26 : (σ24 1 13).toInt = (σ19 1 13).toInt := congrArg Int32.toInt (f24.at 1 13 (by decide))
                  have gRI := gnRI
                  refine r_if_eq (tgt := 167) hx hb dX5_readLine_160 (by decide) (fun c27 => ?_) (fun c27 => ?_)
                  · refine r_iconst hx hb dX5_readLine_167 (by decide) (fun z28 ez28 => ?_)
                    exact r_zret hx hb hr hK hP hS hk (by omega) dX5_readLine_168 (show P_X5_readLine σ0 τ0 b N mo q nm hc mm mc nn z28 σ24 τ19 from ⟨hR, hF, hFL, by omega, by first | (exfalso; omega) | (obtain ⟨f, e1, x1, x2⟩ := o1.no (by omega); exact RO.ofl (by rw [rol_m (by omega), e1, bnd_l]) (by omega) x1 x2) | exact RO.ofk (rol_4 (by omega) (by omega)) (by omega) (by omega) (by omega) | exact RO.ofk (by rw [rol_m (by omega), e1, bnd_r, if_pos (by omega)]) (by omega) (by omega) (by omega) | (rw [rol_m (by omega), e1, bnd_r, if_neg (by omega)]; exact o2) | exact RO.ofr (rol_19 (by omega) (by omega)) (by omega) gCT | (obtain ⟨f, e3, x1, x2⟩ := o3.no (by omega); exact RO.ofl (by rw [rol_14 (by omega) (by omega), e3, bnd_l]) (by omega) x1 x2) | exact RO.ofr (by rw [rol_14 (by omega) (by omega), e3, bnd_r]) (by omega) gCT | (obtain ⟨f, e4, x1, x2⟩ := o4.no (by omega); exact RO.ofl (by rw [rol_15 (by omega) (by omega), e4, bnd_l]) (by omega) x1 x2) | exact RO.ofr (by rw [rol_15 (by omega) (by omega), e4, bnd_r]) (by omega) gCT, by omega, gRI, gWH, gWM⟩)
                  · refine r_iconst hx hb dX5_readLine_163 (by decide) (fun z29 ez29 => ?_)
                    refine lv_goto (tgt := 168) hx hb dX5_readLine_164 (by decide) ?_
                    exact r_zret hx hb hr hK hP hS hk (by omega) dX5_readLine_168 (show P_X5_readLine σ0 τ0 b N mo q nm hc mm mc nn z29 σ24 τ19 from ⟨hR, hF, hFL, by omega, by first | (exfalso; omega) | (obtain ⟨f, e1, x1, x2⟩ := o1.no (by omega); exact RO.ofl (by rw [rol_m (by omega), e1, bnd_l]) (by omega) x1 x2) | exact RO.ofk (rol_4 (by omega) (by omega)) (by omega) (by omega) (by omega) | exact RO.ofk (by rw [rol_m (by omega), e1, bnd_r, if_pos (by omega)]) (by omega) (by omega) (by omega) | (rw [rol_m (by omega), e1, bnd_r, if_neg (by omega)]; exact o2) | exact RO.ofr (rol_19 (by omega) (by omega)) (by omega) gCT | (obtain ⟨f, e3, x1, x2⟩ := o3.no (by omega); exact RO.ofl (by rw [rol_14 (by omega) (by omega), e3, bnd_l]) (by omega) x1 x2) | exact RO.ofr (by rw [rol_14 (by omega) (by omega), e3, bnd_r]) (by omega) gCT | (obtain ⟨f, e4, x1, x2⟩ := o4.no (by omega); exact RO.ofl (by rw [rol_15 (by omega) (by omega), e4, bnd_l]) (by omega) x1 x2) | exact RO.ofr (by rw [rol_15 (by omega) (by omega), e4, bnd_r]) (by omega) gCT, by omega, gRI, gWH, gWM⟩)
            · exfalso; omega
          · exfalso; omega
        · refine lv_aload_n hx hb dX5_readLine_72 rfl (lv_at hl 3 rfl) ?_
          refine fg_5_0 (k := 28) hx hb hts in_X5_readLine_5 hown hK hP (by decide) (by decide) (hts _ lk_X5_readLine_21) dX5_readLine_73 ?_
          refine r_iconst hx hb dX5_readLine_76 (by decide) (fun z30 ez30 => ?_)
          refine r_cVi (k := 1) (As := [.int z30]) (rest := []) ⟨hx, hb, hml, hown, hts⟩ hK hP hN hS (c_X8_blame_v l D cA ad hI σ0 τ0 hR z30 _ _ _ _ (by omega) gCT) (cwV 1 hts gX5_readLine_X8_blame rfl rfl rfl (by decide +kernel) ⟨by decide, by decide⟩) (rv_Tape hK hP (by decide) (by decide)) rfl hl.1 rfl (Nat.le_of_ble_eq_true rfl) dX5_readLine_77 (Nat.zero_le _) (Nat.zero_le _) (fun r31 u31 H31 locs31 hp31 hP hS => ?_)
          obtain ⟨σ31, τ31⟩ := u31
          obtain ⟨hR, f31, fL31, hq31, hp31_0, hp31_1, hp31_2, gnCT⟩ : P_X8_blame_v σ0 τ0 z30 _ _ _ _ r31 σ31 τ31 := hp31
          have hP : va_P D vwCl (gw cA ad σ31 τ31) H31 := hP
          obtain rfl := FrL.nil fL31
          have hF := hF.step f31 (by decide)
          have gCT := gCT.ag (Agr.fr f31 (by decide))
          have gRI := RI.fr gRI f31 (by decide)
          have gWH := gWH.ag (Agr.fr f31 (by decide))
          have gWM := gWM.ag (Agr.fr f31 (by decide))
          have t32 : (σ31 28 6).toInt = (σ0 28 6).toInt := congrArg Int32.toInt (f31.at 28 6 (by decide))
          exact r_zret hx hb hr hK hP hS hk (by omega) dX5_readLine_80 (show P_X5_readLine σ0 τ0 b N mo q nm hc mm mc nn r31 σ31 τ0 from ⟨hR, hF, hFL, by omega, by first | (exfalso; omega) | (obtain ⟨f, e1, x1, x2⟩ := o1.no (by omega); exact RO.ofl (by rw [rol_m (by omega), e1, bnd_l]) (by omega) x1 x2) | exact RO.ofk (rol_4 (by omega) (by omega)) (by omega) (by omega) (by omega) | exact RO.ofk (by rw [rol_m (by omega), e1, bnd_r, if_pos (by omega)]) (by omega) (by omega) (by omega) | (rw [rol_m (by omega), e1, bnd_r, if_neg (by omega)]; exact o2) | exact RO.ofr (rol_19 (by omega) (by omega)) (by omega) gCT | (obtain ⟨f, e3, x1, x2⟩ := o3.no (by omega); exact RO.ofl (by rw [rol_14 (by omega) (by omega), e3, bnd_l]) (by omega) x1 x2) | exact RO.ofr (by rw [rol_14 (by omega) (by omega), e3, bnd_r]) (by omega) gCT | (obtain ⟨f, e4, x1, x2⟩ := o4.no (by omega); exact RO.ofl (by rw [rol_15 (by omega) (by omega), e4, bnd_l]) (by omega) x1 x2) | exact RO.ofr (by rw [rol_15 (by omega) (by omega), e4, bnd_r]) (by omega) gCT, by omega, gRI, gWH, gWM⟩)
      · exfalso; omega
  · refine lv_iload_n hx hb dX5_readLine_14 rfl (lv_at hl 0 rfl) ?_
    refine r_bipush hx hb dX5_readLine_15 (by decide) (fun z33 ez33 => ?_)
    refine r_icmp_eq (tgt := 26) hx hb dX5_readLine_17 (by decide) (fun c34 => ?_) (fun c34 => ?_)
    · refine r_iconst hx hb dX5_readLine_26 (by decide) (fun z35 ez35 => ?_)
      refine lv_goto (tgt := 31) hx hb dX5_readLine_27 (by decide) ?_
      refine lv_istore_n (lv' := [(2, .int z35), (1, .int (σ0 1 9)), (0, .ref (ad 28))]) hx hb dX5_readLine_31 rfl hl (by decide) rfl (fun ls hl => ?_)
      refine lv_iload_n hx hb dX5_readLine_32 rfl (lv_at hl 0 rfl) ?_
      refine r_if_eq (tgt := 40) hx hb dX5_readLine_33 (by decide) (fun c36 => ?_) (fun c36 => ?_)
      · exfalso; omega
      · refine r_iconst hx hb dX5_readLine_36 (by decide) (fun z37 ez37 => ?_)
        refine lv_goto (tgt := 51) hx hb dX5_readLine_37 (by decide) ?_
        refine lv_istore_n (lv' := [(3, .int z37), (2, .int z35), (1, .int (σ0 1 9)), (0, .ref (ad 28))]) hx hb dX5_readLine_51 rfl hl (by decide) rfl (fun ls hl => ?_)
        refine lv_iload_n hx hb dX5_readLine_52 rfl (lv_at hl 1 rfl) ?_
        refine r_if_ne (tgt := 63) hx hb dX5_readLine_53 (by decide) (fun c38 => ?_) (fun c38 => ?_)
        · try (obtain ⟨e1, _, _, _⟩ := o1.ye (by omega))
          refine lv_aload_n hx hb dX5_readLine_63 rfl (lv_at hl 3 rfl) ?_
          refine fg_5_6 (k := 28) hx hb hts in_X5_readLine_5 hown hK hP (by decide) (by decide) (hts _ lk_X5_readLine_33) dX5_readLine_64 ?_
          refine r_bipush hx hb dX5_readLine_67 (by decide) (fun z39 ez39 => ?_)
          refine r_icmp_lt (tgt := 81) hx hb dX5_readLine_69 (by decide) (fun c40 => ?_) (fun c40 => ?_)
          · refine lv_aload_n hx hb dX5_readLine_81 rfl (lv_at hl 3 rfl) ?_
            refine fg_5_0 (k := 28) hx hb hts in_X5_readLine_5 hown hK hP (by decide) (by decide) (hts _ lk_X5_readLine_21) dX5_readLine_82 ?_
            refine r_cVv (k := 1) (As := []) (rest := []) ⟨hx, hb, hml, hown, hts⟩ hK hP hN hS (c_X8_next_v l D cA ad hI σ0 τ0 hR _ _ _ _ gCT) (cwV 0 hts gX5_readLine_X8_next rfl rfl rfl (by decide +kernel) ⟨by decide, by decide⟩) (rv_Tape hK hP (by decide) (by decide)) rfl hl.1 rfl (Nat.le_of_ble_eq_true rfl) dX5_readLine_85 (Nat.zero_le _) (Nat.zero_le _) (fun u41 H41 locs41 hp41 hP hS => ?_)
            obtain ⟨σ41, τ41⟩ := u41
            obtain ⟨hR, f41, fL41, hp41_0⟩ : P_X8_next_v σ0 τ0 _ _ _ _ σ41 τ41 := hp41
            have hP : va_P D vwCl (gw cA ad σ41 τ41) H41 := hP
            have hFL := hFL.step fL41 (by decide)
            have gWH := gWH.agL (AgrL.fr fL41 (by decide))
            have gWM := gWM.agL (AgrL.fr fL41 (by decide))
            have hF := hF.step f41 (by decide)
            have gRI := RI.fr gRI f41 (by decide)
            have gWH := gWH.ag (Agr.fr f41 (by decide))
            have gWM := gWM.ag (Agr.fr f41 (by decide))
            have t42 : (σ41 28 6).toInt = (σ0 28 6).toInt := congrArg Int32.toInt (f41.at 28 6 (by decide))
            have t43 : (σ41 1 13).toInt = (σ0 1 13).toInt := congrArg Int32.toInt (f41.at 1 13 (by decide))
            have gCT := hp41_0
            refine lv_iload_n hx hb dX5_readLine_88 rfl (lv_at hl 1 rfl) ?_
            refine r_if_ne (tgt := 98) hx hb dX5_readLine_89 (by decide) (fun c44 => ?_) (fun c44 => ?_)
            · refine lv_iload_n hx hb dX5_readLine_98 rfl (lv_at hl 2 rfl) ?_
              refine r_bipush hx hb dX5_readLine_99 (by decide) (fun z45 ez45 => ?_)
              refine r_icmp_ne (tgt := 112) hx hb dX5_readLine_101 (by decide) (fun c46 => ?_) (fun c46 => ?_)
              · refine lv_iload_n hx hb dX5_readLine_112 rfl (lv_at hl 2 rfl) ?_
                refine r_bipush hx hb dX5_readLine_113 (by decide) (fun z47 ez47 => ?_)
                refine r_icmp_ne (tgt := 130) hx hb dX5_readLine_115 (by decide) (fun c48 => ?_) (fun c48 => ?_)
                · refine lv_aload_n hx hb dX5_readLine_130 rfl (lv_at hl 3 rfl) ?_
                  refine fg_5_0 (k := 28) hx hb hts in_X5_readLine_5 hown hK hP (by decide) (by decide) (hts _ lk_X5_readLine_21) dX5_readLine_131 ?_
                  refine r_iconst hx hb dX5_readLine_134 (by decide) (fun z49 ez49 => ?_)
                  refine r_bipush hx hb dX5_readLine_135 (by decide) (fun z50 ez50 => ?_)
                  refine r_cVi (k := 1) (As := [.int z49, .int z50]) (rest := []) ⟨hx, hb, hml, hown, hts⟩ hK hP hN hS (c_X8_takeNumber_v l D cA ad hI σ41 τ41 hR z49 z50 b N mo _ 1 99 (by omega) (by omega) (by omega) (by omega) gCT) (cwV 2 hts gX5_readLine_X8_takeNumber rfl rfl rfl (by decide +kernel) ⟨by decide, by decide⟩) (rv_Tape hK hP (by decide) (by decide)) rfl hl.1 rfl (Nat.le_of_ble_eq_true rfl) dX5_readLine_137 (Nat.zero_le _) (Nat.zero_le _) (fun r51 u51 H51 locs51 hp51 hP hS => ?_)
                  obtain ⟨σ51, τ51⟩ := u51
                  obtain ⟨hR, f51, fL51, hq51, hp51_0, hp51_1⟩ : P_X8_takeNumber_v σ41 τ41 z49 z50 b N mo _ 1 99 r51 σ51 τ51 := hp51
                  have o4 := hp51_0
                  have hP : va_P D vwCl (gw cA ad σ51 τ51) H51 := hP
                  have hFL := hFL.step fL51 (by decide)
                  have gWH := gWH.agL (AgrL.fr fL51 (by decide))
                  have gWM := gWM.agL (AgrL.fr fL51 (by decide))
                  have hF := hF.step f51 (by decide)
                  have gRI := RI.fr gRI f51 (by decide)
                  have gWH := gWH.ag (Agr.fr f51 (by decide))
                  have gWM := gWM.ag (Agr.fr f51 (by decide))
                  have t52 : (σ51 28 6).toInt = (σ41 28 6).toInt := congrArg Int32.toInt (f51.at 28 6 (by decide))
                  refine lv_istore (lv' := [(4, .int r51), (3, .int z37), (2, .int z35), (1, .int (σ0 1 9)), (0, .ref (ad 28))]) hx hb dX5_readLine_140 hl (by decide) rfl (fun ls hl => ?_)
                  refine lv_iload hx hb dX5_readLine_142 (lv_at hl 0 rfl) ?_
                  refine r_if_eq (tgt := 167) hx hb dX5_readLine_144 (by decide) (fun c53 => ?_) (fun c53 => ?_)
                  · clear hp51_1
                    refine r_iconst hx hb dX5_readLine_167 (by decide) (fun z54 ez54 => ?_)
                    exact r_zret hx hb hr hK hP hS hk (by omega) dX5_readLine_168 (show P_X5_readLine σ0 τ0 b N mo q nm hc mm mc nn z54 σ51 τ51 from ⟨hR, hF, hFL, by omega, by first | (exfalso; omega) | (obtain ⟨f, e1, x1, x2⟩ := o1.no (by omega); exact RO.ofl (by rw [rol_m (by omega), e1, bnd_l]) (by omega) x1 x2) | exact RO.ofk (rol_4 (by omega) (by omega)) (by omega) (by omega) (by omega) | exact RO.ofk (by rw [rol_m (by omega), e1, bnd_r, if_pos (by omega)]) (by omega) (by omega) (by omega) | (rw [rol_m (by omega), e1, bnd_r, if_neg (by omega)]; exact o2) | exact RO.ofr (rol_19 (by omega) (by omega)) (by omega) gCT | (obtain ⟨f, e3, x1, x2⟩ := o3.no (by omega); exact RO.ofl (by rw [rol_14 (by omega) (by omega), e3, bnd_l]) (by omega) x1 x2) | exact RO.ofr (by rw [rol_14 (by omega) (by omega), e3, bnd_r]) (by omega) gCT | (obtain ⟨f, e4, x1, x2⟩ := o4.no (by omega); exact RO.ofl (by rw [rol_15 (by omega) (by omega), e4, bnd_l]) (by omega) x1 x2) | exact RO.ofr (by rw [rol_15 (by omega) (by omega), e4, bnd_r]) (by omega) gCT, by omega, gRI, gWH, gWM⟩)
                  · replace hp51_1 := hp51_1.resolve_left (by omega)
                    first | (obtain ⟨y, e3, gCT, _⟩ := o3.ye (by omega)) | (obtain ⟨y, e4, gCT, _⟩ := o4.ye (by omega))
                    refine lv_aload_n hx hb dX5_readLine_147 rfl (lv_at hl 4 rfl) ?_
                    refine lv_iload_n hx hb dX5_readLine_148 rfl (lv_at hl 3 rfl) ?_
                    refine r_iconst hx hb dX5_readLine_149 (by decide) (fun z55 ez55 => ?_)
                    refine lv_aload_n hx hb dX5_readLine_150 rfl (lv_at hl 4 rfl) ?_
                    refine fg_5_0 (k := 28) hx hb hts in_X5_readLine_5 hown hK hP (by decide) (by decide) (hts _ lk_X5_readLine_21) dX5_readLine_151 ?_
                    refine fgN_8_12 (k := 1) hx hb hts in_X5_readLine_8 hown hK hP (by decide) (by decide) (hN.use nw_5_71) dX5_readLine_154 ?_
                    refine r_cVi (k := 28) (As := [.int (σ0 1 9), .int z55, .int (σ51 1 12)]) (rest := []) ⟨hx, hb, hml, hown, hts⟩ hK hP hN hS (c_X5_note l D cA ad hI σ51 τ51 hR (σ0 1 9) z55 (σ51 1 12) (by omega) (by omega) (by omega) (by omega) gRI) (cwV 3 hts gX5_readLine_X5_note rfl rfl rfl (by decide +kernel) ⟨by decide, by decide⟩) (rv_Roll hK hP (by decide) (by decide)) rfl hl.1 rfl (Nat.le_of_ble_eq_true rfl) dX5_readLine_157 (Nat.zero_le _) (Nat.zero_le _) (fun r56 u56 H56 locs56 hp56 hP hS => ?_)
                    obtain ⟨σ56, τ56⟩ := u56
                    obtain ⟨hR, f56, fL56, hq56, hp56_0, gnRI⟩ : P_X5_note σ51 τ51 (σ0 1 9) z55 (σ51 1 12) r56 σ56 τ56 := hp56
                    have hP : va_P D vwCl (gw cA ad σ56 τ56) H56 := hP
                    obtain rfl := FrL.nil fL56
                    have hF := hF.step f56 (by decide)
                    have gCT := gCT.ag (Agr.fr f56 (by decide))
                    have gWH := gWH.ag (Agr.fr f56 (by decide))
                    have gWM := gWM.ag (Agr.fr f56 (by decide))
                    have t57 : (σ56 28 6).toInt = (σ51 28 6).toInt := congrArg Int32.toInt (f56.at 28 6 (by decide))
                    have t58 : (σ56 1 13).toInt = (σ51 1 13).toInt := congrArg Int32.toInt (f56.at 1 13 (by decide))
                    have gRI := gnRI
                    refine r_if_eq (tgt := 167) hx hb dX5_readLine_160 (by decide) (fun c59 => ?_) (fun c59 => ?_)
                    · refine r_iconst hx hb dX5_readLine_167 (by decide) (fun z60 ez60 => ?_)
                      exact r_zret hx hb hr hK hP hS hk (by omega) dX5_readLine_168 (show P_X5_readLine σ0 τ0 b N mo q nm hc mm mc nn z60 σ56 τ51 from ⟨hR, hF, hFL, by omega, by first | (exfalso; omega) | (obtain ⟨f, e1, x1, x2⟩ := o1.no (by omega); exact RO.ofl (by rw [rol_m (by omega), e1, bnd_l]) (by omega) x1 x2) | exact RO.ofk (rol_4 (by omega) (by omega)) (by omega) (by omega) (by omega) | exact RO.ofk (by rw [rol_m (by omega), e1, bnd_r, if_pos (by omega)]) (by omega) (by omega) (by omega) | (rw [rol_m (by omega), e1, bnd_r, if_neg (by omega)]; exact o2) | exact RO.ofr (rol_19 (by omega) (by omega)) (by omega) gCT | (obtain ⟨f, e3, x1, x2⟩ := o3.no (by omega); exact RO.ofl (by rw [rol_14 (by omega) (by omega), e3, bnd_l]) (by omega) x1 x2) | exact RO.ofr (by rw [rol_14 (by omega) (by omega), e3, bnd_r]) (by omega) gCT | (obtain ⟨f, e4, x1, x2⟩ := o4.no (by omega); exact RO.ofl (by rw [rol_15 (by omega) (by omega), e4, bnd_l]) (by omega) x1 x2) | exact RO.ofr (by rw [rol_15 (by omega) (by omega), e4, bnd_r]) (by omega) gCT, by omega, gRI, gWH, gWM⟩)
                    · refine r_iconst hx hb dX5_readLine_163 (by decide) (fun z61 ez61 => ?_)
                      refine lv_goto (tgt := 168) hx hb dX5_readLine_164 (by decide) ?_
                      exact r_zret hx hb hr hK hP hS hk (by omega) dX5_readLine_168 (show P_X5_readLine σ0 τ0 b N mo q nm hc mm mc nn z61 σ56 τ51 from ⟨hR, hF, hFL, by omega, by first | (exfalso; omega) | (obtain ⟨f, e1, x1, x2⟩ := o1.no (by omega); exact RO.ofl (by rw [rol_m (by omega), e1, bnd_l]) (by omega) x1 x2) | exact RO.ofk (rol_4 (by omega) (by omega)) (by omega) (by omega) (by omega) | exact RO.ofk (by rw [rol_m (by omega), e1, bnd_r, if_pos (by omega)]) (by omega) (by omega) (by omega) | (rw [rol_m (by omega), e1, bnd_r, if_neg (by omega)]; exact o2) | exact RO.ofr (rol_19 (by omega) (by omega)) (by omega) gCT | (obtain ⟨f, e3, x1, x2⟩ := o3.no (by omega); exact RO.ofl (by rw [rol_14 (by omega) (by omega), e3, bnd_l]) (by omega) x1 x2) | exact RO.ofr (by rw [rol_14 (by omega) (by omega), e3, bnd_r]) (by omega) gCT | (obtain ⟨f, e4, x1, x2⟩ := o4.no (by omega); exact RO.ofl (by rw [rol_15 (by omega) (by omega), e4, bnd_l]) (by omega) x1 x2) | exact RO.ofr (by rw [rol_15 (by omega) (by omega), e4, bnd_r]) (by omega) gCT, by omega, gRI, gWH, gWM⟩)
                · exfalso; omega
              · exfalso; omega
            · exfalso; omega
          · refine lv_aload_n hx hb dX5_readLine_72 rfl (lv_at hl 3 rfl) ?_
            refine fg_5_0 (k := 28) hx hb hts in_X5_readLine_5 hown hK hP (by decide) (by decide) (hts _ lk_X5_readLine_21) dX5_readLine_73 ?_
            refine r_iconst hx hb dX5_readLine_76 (by decide) (fun z62 ez62 => ?_)
            refine r_cVi (k := 1) (As := [.int z62]) (rest := []) ⟨hx, hb, hml, hown, hts⟩ hK hP hN hS (c_X8_blame_v l D cA ad hI σ0 τ0 hR z62 _ _ _ _ (by omega) gCT) (cwV 1 hts gX5_readLine_X8_blame rfl rfl rfl (by decide +kernel) ⟨by decide, by decide⟩) (rv_Tape hK hP (by decide) (by decide)) rfl hl.1 rfl (Nat.le_of_ble_eq_true rfl) dX5_readLine_77 (Nat.zero_le _) (Nat.zero_le _) (fun r63 u63 H63 locs63 hp63 hP hS => ?_)
            obtain ⟨σ63, τ63⟩ := u63
            obtain ⟨hR, f63, fL63, hq63, hp63_0, hp63_1, hp63_2, gnCT⟩ : P_X8_blame_v σ0 τ0 z62 _ _ _ _ r63 σ63 τ63 := hp63
            have hP : va_P D vwCl (gw cA ad σ63 τ63) H63 := hP
            obtain rfl := FrL.nil fL63
            have hF := hF.step f63 (by decide)
            have gCT := gCT.ag (Agr.fr f63 (by decide))
            have gRI := RI.fr gRI f63 (by decide)
            have gWH := gWH.ag (Agr.fr f63 (by decide))
            have gWM := gWM.ag (Agr.fr f63 (by decide))
            have t64 : (σ63 28 6).toInt = (σ0 28 6).toInt := congrArg Int32.toInt (f63.at 28 6 (by decide))
            exact r_zret hx hb hr hK hP hS hk (by omega) dX5_readLine_80 (show P_X5_readLine σ0 τ0 b N mo q nm hc mm mc nn r63 σ63 τ0 from ⟨hR, hF, hFL, by omega, by first | (exfalso; omega) | (obtain ⟨f, e1, x1, x2⟩ := o1.no (by omega); exact RO.ofl (by rw [rol_m (by omega), e1, bnd_l]) (by omega) x1 x2) | exact RO.ofk (rol_4 (by omega) (by omega)) (by omega) (by omega) (by omega) | exact RO.ofk (by rw [rol_m (by omega), e1, bnd_r, if_pos (by omega)]) (by omega) (by omega) (by omega) | (rw [rol_m (by omega), e1, bnd_r, if_neg (by omega)]; exact o2) | exact RO.ofr (rol_19 (by omega) (by omega)) (by omega) gCT | (obtain ⟨f, e3, x1, x2⟩ := o3.no (by omega); exact RO.ofl (by rw [rol_14 (by omega) (by omega), e3, bnd_l]) (by omega) x1 x2) | exact RO.ofr (by rw [rol_14 (by omega) (by omega), e3, bnd_r]) (by omega) gCT | (obtain ⟨f, e4, x1, x2⟩ := o4.no (by omega); exact RO.ofl (by rw [rol_15 (by omega) (by omega), e4, bnd_l]) (by omega) x1 x2) | exact RO.ofr (by rw [rol_15 (by omega) (by omega), e4, bnd_r]) (by omega) gCT, by omega, gRI, gWH, gWM⟩)
        · exfalso; omega
    · refine lv_iload_n hx hb dX5_readLine_20 rfl (lv_at hl 0 rfl) ?_
      refine r_bipush hx hb dX5_readLine_21 (by decide) (fun z65 ez65 => ?_)
      refine r_icmp_ne (tgt := 30) hx hb dX5_readLine_23 (by decide) (fun c66 => ?_) (fun c66 => ?_)
      · refine r_iconst hx hb dX5_readLine_30 (by decide) (fun z67 ez67 => ?_)
        refine lv_istore_n (lv' := [(2, .int z67), (1, .int (σ0 1 9)), (0, .ref (ad 28))]) hx hb dX5_readLine_31 rfl hl (by decide) rfl (fun ls hl => ?_)
        refine lv_iload_n hx hb dX5_readLine_32 rfl (lv_at hl 0 rfl) ?_
        refine r_if_eq (tgt := 40) hx hb dX5_readLine_33 (by decide) (fun c68 => ?_) (fun c68 => ?_)
        · refine lv_aload_n hx hb dX5_readLine_40 rfl (lv_at hl 2 rfl) ?_
          refine fg_5_0 (k := 28) hx hb hts in_X5_readLine_5 hown hK hP (by decide) (by decide) (hts _ lk_X5_readLine_21) dX5_readLine_41 ?_
          refine lv_aload_n hx hb dX5_readLine_44 rfl (lv_at hl 2 rfl) ?_
          refine fg_5_1 (k := 28) hx hb hts in_X5_readLine_5 hown hK hP (by decide) (by decide) (hts _ lk_X5_readLine_25) dX5_readLine_45 ?_
          refine r_cVi (k := 1) (As := [.ref (ad 2)]) (rest := []) ⟨hx, hb, hml, hown, hts⟩ hK hP hN hS (c_X8_manHere_w l D cA ad hI σ0 τ0 hR b N mo _ mm mc gCT gWM) (cwV 1 hts gX5_readLine_X8_manHere rfl rfl rfl (by decide +kernel) ⟨by decide, by decide⟩) (rv_Tape hK hP (by decide) (by decide)) rfl hl.1 rfl (Nat.le_of_ble_eq_true rfl) dX5_readLine_48 (Nat.zero_le _) (Nat.zero_le _) (fun r69 u69 H69 locs69 hp69 hP hS => ?_)
          obtain ⟨σ69, τ69⟩ := u69
          obtain ⟨hR, f69, fL69, hq69, hp69_0, hp69_1, gnCT, gnWM⟩ : P_X8_manHere_w σ0 τ0 b N mo _ mm mc r69 σ69 τ69 := hp69
          have o1 := hp69_0
          have hP : va_P D vwCl (gw cA ad σ69 τ69) H69 := hP
          obtain rfl := FrL.nil fL69
          have hF := hF.step f69 (by decide)
          have gCT := gCT.ag (Agr.fr f69 (by decide))
          have gRI := RI.fr gRI f69 (by decide)
          have gWH := gWH.ag (Agr.fr f69 (by decide))
          have gWM := gWM.ag (Agr.fr f69 (by decide))
          have t70 : (σ69 28 6).toInt = (σ0 28 6).toInt := congrArg Int32.toInt (f69.at 28 6 (by decide))
          refine lv_istore_n (lv' := [(3, .int r69), (2, .int z67), (1, .int (σ0 1 9)), (0, .ref (ad 28))]) hx hb dX5_readLine_51 rfl hl (by decide) rfl (fun ls hl => ?_)
          refine lv_iload_n hx hb dX5_readLine_52 rfl (lv_at hl 1 rfl) ?_
          refine r_if_ne (tgt := 63) hx hb dX5_readLine_53 (by decide) (fun c71 => ?_) (fun c71 => ?_)
          · exfalso; omega
          · refine lv_iload_n hx hb dX5_readLine_56 rfl (lv_at hl 0 rfl) ?_
            refine r_iconst hx hb dX5_readLine_57 (by decide) (fun z72 ez72 => ?_)
            refine r_icmp_ne (tgt := 63) hx hb dX5_readLine_58 (by decide) (fun c73 => ?_) (fun c73 => ?_)
            · try (obtain ⟨e1, _, _, _⟩ := o1.ye (by omega))
              refine lv_aload_n hx hb dX5_readLine_63 rfl (lv_at hl 3 rfl) ?_
              refine fg_5_6 (k := 28) hx hb hts in_X5_readLine_5 hown hK hP (by decide) (by decide) (hts _ lk_X5_readLine_33) dX5_readLine_64 ?_
              refine r_bipush hx hb dX5_readLine_67 (by decide) (fun z74 ez74 => ?_)
              refine r_icmp_lt (tgt := 81) hx hb dX5_readLine_69 (by decide) (fun c75 => ?_) (fun c75 => ?_)
              · refine lv_aload_n hx hb dX5_readLine_81 rfl (lv_at hl 3 rfl) ?_
                refine fg_5_0 (k := 28) hx hb hts in_X5_readLine_5 hown hK hP (by decide) (by decide) (hts _ lk_X5_readLine_21) dX5_readLine_82 ?_
                refine r_cVv (k := 1) (As := []) (rest := []) ⟨hx, hb, hml, hown, hts⟩ hK hP hN hS (c_X8_next_v l D cA ad hI σ69 τ0 hR _ _ _ _ gCT) (cwV 0 hts gX5_readLine_X8_next rfl rfl rfl (by decide +kernel) ⟨by decide, by decide⟩) (rv_Tape hK hP (by decide) (by decide)) rfl hl.1 rfl (Nat.le_of_ble_eq_true rfl) dX5_readLine_85 (Nat.zero_le _) (Nat.zero_le _) (fun u76 H76 locs76 hp76 hP hS => ?_)
                obtain ⟨σ76, τ76⟩ := u76
                obtain ⟨hR, f76, fL76, hp76_0⟩ : P_X8_next_v σ69 τ0 _ _ _ _ σ76 τ76 := hp76
                have hP : va_P D vwCl (gw cA ad σ76 τ76) H76 := hP
                have hFL := hFL.step fL76 (by decide)
                have gWH := gWH.agL (AgrL.fr fL76 (by decide))
                have gWM := gWM.agL (AgrL.fr fL76 (by decide))
                have hF := hF.step f76 (by decide)
                have gRI := RI.fr gRI f76 (by decide)
                have gWH := gWH.ag (Agr.fr f76 (by decide))
                have gWM := gWM.ag (Agr.fr f76 (by decide))
                have t77 : (σ76 28 6).toInt = (σ69 28 6).toInt := congrArg Int32.toInt (f76.at 28 6 (by decide))
                have t78 : (σ76 1 13).toInt = (σ69 1 13).toInt := congrArg Int32.toInt (f76.at 1 13 (by decide))
                have gCT := hp76_0
                refine lv_iload_n hx hb dX5_readLine_88 rfl (lv_at hl 1 rfl) ?_
                refine r_if_ne (tgt := 98) hx hb dX5_readLine_89 (by decide) (fun c79 => ?_) (fun c79 => ?_)
                · exfalso; omega
                · refine lv_aload_n hx hb dX5_readLine_92 rfl (lv_at hl 3 rfl) ?_
                  refine lv_iload_n hx hb dX5_readLine_93 rfl (lv_at hl 0 rfl) ?_
                  refine r_cVi (k := 28) (As := [.int r69]) (rest := []) ⟨hx, hb, hml, hown, hts⟩ hK hP hN hS (c_X5_readActOf l D cA ad hI σ76 τ76 hR r69 b N mo _ nm hc mm mc (by omega) (by omega) gRI gCT gWH gWM) (cwV 1 hts gX5_readLine_X5_readActOf rfl rfl rfl (by decide +kernel) ⟨by decide, by decide⟩) (rv_Roll hK hP (by decide) (by decide)) rfl hl.1 rfl (Nat.le_of_ble_eq_true rfl) dX5_readLine_94 (Nat.zero_le _) (Nat.zero_le _) (fun r80 u80 H80 locs80 hp80 hP hS => ?_)
                  obtain ⟨σ80, τ80⟩ := u80
                  obtain ⟨hR, f80, fL80, hq80, hp80_0, hp80_1, gnRI, gnWH, gnWM⟩ : P_X5_readActOf σ76 τ76 r69 b N mo _ nm hc mm mc r80 σ80 τ80 := hp80
                  have o2 := hp80_0
                  have hP : va_P D vwCl (gw cA ad σ80 τ80) H80 := hP
                  have hFL := hFL.step fL80 (by decide)
                  have gWH := gWH.agL (AgrL.fr fL80 (by decide))
                  have gWM := gWM.agL (AgrL.fr fL80 (by decide))
                  have hF := hF.step f80 (by decide)
                  have gWH := gWH.ag (Agr.fr f80 (by decide))
                  have gWM := gWM.ag (Agr.fr f80 (by decide))
                  have t81 : (σ80 28 6).toInt = (σ76 28 6).toInt := congrArg Int32.toInt (f80.at 28 6 (by decide))
                  have gRI := gnRI
                  exact r_zret hx hb hr hK hP hS hk (by omega) dX5_readLine_97 (show P_X5_readLine σ0 τ0 b N mo q nm hc mm mc nn r80 σ80 τ80 from ⟨hR, hF, hFL, by omega, by first | (exfalso; omega) | (obtain ⟨f, e1, x1, x2⟩ := o1.no (by omega); exact RO.ofl (by rw [rol_m (by omega), e1, bnd_l]) (by omega) x1 x2) | exact RO.ofk (rol_4 (by omega) (by omega)) (by omega) (by omega) (by omega) | exact RO.ofk (by rw [rol_m (by omega), e1, bnd_r, if_pos (by omega)]) (by omega) (by omega) (by omega) | (rw [rol_m (by omega), e1, bnd_r, if_neg (by omega)]; exact o2) | exact RO.ofr (rol_19 (by omega) (by omega)) (by omega) gCT | (obtain ⟨f, e3, x1, x2⟩ := o3.no (by omega); exact RO.ofl (by rw [rol_14 (by omega) (by omega), e3, bnd_l]) (by omega) x1 x2) | exact RO.ofr (by rw [rol_14 (by omega) (by omega), e3, bnd_r]) (by omega) gCT | (obtain ⟨f, e4, x1, x2⟩ := o4.no (by omega); exact RO.ofl (by rw [rol_15 (by omega) (by omega), e4, bnd_l]) (by omega) x1 x2) | exact RO.ofr (by rw [rol_15 (by omega) (by omega), e4, bnd_r]) (by omega) gCT, by omega, gRI, gWH, gWM⟩)
              · refine lv_aload_n hx hb dX5_readLine_72 rfl (lv_at hl 3 rfl) ?_
                refine fg_5_0 (k := 28) hx hb hts in_X5_readLine_5 hown hK hP (by decide) (by decide) (hts _ lk_X5_readLine_21) dX5_readLine_73 ?_
                refine r_iconst hx hb dX5_readLine_76 (by decide) (fun z82 ez82 => ?_)
                refine r_cVi (k := 1) (As := [.int z82]) (rest := []) ⟨hx, hb, hml, hown, hts⟩ hK hP hN hS (c_X8_blame_v l D cA ad hI σ69 τ0 hR z82 _ _ _ _ (by omega) gCT) (cwV 1 hts gX5_readLine_X8_blame rfl rfl rfl (by decide +kernel) ⟨by decide, by decide⟩) (rv_Tape hK hP (by decide) (by decide)) rfl hl.1 rfl (Nat.le_of_ble_eq_true rfl) dX5_readLine_77 (Nat.zero_le _) (Nat.zero_le _) (fun r83 u83 H83 locs83 hp83 hP hS => ?_)
                obtain ⟨σ83, τ83⟩ := u83
                obtain ⟨hR, f83, fL83, hq83, hp83_0, hp83_1, hp83_2, gnCT⟩ : P_X8_blame_v σ69 τ0 z82 _ _ _ _ r83 σ83 τ83 := hp83
                have hP : va_P D vwCl (gw cA ad σ83 τ83) H83 := hP
                obtain rfl := FrL.nil fL83
                have hF := hF.step f83 (by decide)
                have gCT := gCT.ag (Agr.fr f83 (by decide))
                have gRI := RI.fr gRI f83 (by decide)
                have gWH := gWH.ag (Agr.fr f83 (by decide))
                have gWM := gWM.ag (Agr.fr f83 (by decide))
                have t84 : (σ83 28 6).toInt = (σ69 28 6).toInt := congrArg Int32.toInt (f83.at 28 6 (by decide))
                exact r_zret hx hb hr hK hP hS hk (by omega) dX5_readLine_80 (show P_X5_readLine σ0 τ0 b N mo q nm hc mm mc nn r83 σ83 τ0 from ⟨hR, hF, hFL, by omega, by first | (exfalso; omega) | (obtain ⟨f, e1, x1, x2⟩ := o1.no (by omega); exact RO.ofl (by rw [rol_m (by omega), e1, bnd_l]) (by omega) x1 x2) | exact RO.ofk (rol_4 (by omega) (by omega)) (by omega) (by omega) (by omega) | exact RO.ofk (by rw [rol_m (by omega), e1, bnd_r, if_pos (by omega)]) (by omega) (by omega) (by omega) | (rw [rol_m (by omega), e1, bnd_r, if_neg (by omega)]; exact o2) | exact RO.ofr (rol_19 (by omega) (by omega)) (by omega) gCT | (obtain ⟨f, e3, x1, x2⟩ := o3.no (by omega); exact RO.ofl (by rw [rol_14 (by omega) (by omega), e3, bnd_l]) (by omega) x1 x2) | exact RO.ofr (by rw [rol_14 (by omega) (by omega), e3, bnd_r]) (by omega) gCT | (obtain ⟨f, e4, x1, x2⟩ := o4.no (by omega); exact RO.ofl (by rw [rol_15 (by omega) (by omega), e4, bnd_l]) (by omega) x1 x2) | exact RO.ofr (by rw [rol_15 (by omega) (by omega), e4, bnd_r]) (by omega) gCT, by omega, gRI, gWH, gWM⟩)
            · refine r_iconst hx hb dX5_readLine_61 (by decide) (fun z85 ez85 => ?_)
              exact r_zret hx hb hr hK hP hS hk (by omega) dX5_readLine_62 (show P_X5_readLine σ0 τ0 b N mo q nm hc mm mc nn z85 σ69 τ0 from ⟨hR, hF, hFL, by omega, by first | (exfalso; omega) | (obtain ⟨f, e1, x1, x2⟩ := o1.no (by omega); exact RO.ofl (by rw [rol_m (by omega), e1, bnd_l]) (by omega) x1 x2) | exact RO.ofk (rol_4 (by omega) (by omega)) (by omega) (by omega) (by omega) | exact RO.ofk (by rw [rol_m (by omega), e1, bnd_r, if_pos (by omega)]) (by omega) (by omega) (by omega) | (rw [rol_m (by omega), e1, bnd_r, if_neg (by omega)]; exact o2) | exact RO.ofr (rol_19 (by omega) (by omega)) (by omega) gCT | (obtain ⟨f, e3, x1, x2⟩ := o3.no (by omega); exact RO.ofl (by rw [rol_14 (by omega) (by omega), e3, bnd_l]) (by omega) x1 x2) | exact RO.ofr (by rw [rol_14 (by omega) (by omega), e3, bnd_r]) (by omega) gCT | (obtain ⟨f, e4, x1, x2⟩ := o4.no (by omega); exact RO.ofl (by rw [rol_15 (by omega) (by omega), e4, bnd_l]) (by omega) x1 x2) | exact RO.ofr (by rw [rol_15 (by omega) (by omega), e4, bnd_r]) (by omega) gCT, by omega, gRI, gWH, gWM⟩)
        · exfalso; omega
      · refine r_iconst hx hb dX5_readLine_26 (by decide) (fun z86 ez86 => ?_)
        refine lv_goto (tgt := 31) hx hb dX5_readLine_27 (by decide) ?_
        refine lv_istore_n (lv' := [(2, .int z86), (1, .int (σ0 1 9)), (0, .ref (ad 28))]) hx hb dX5_readLine_31 rfl hl (by decide) rfl (fun ls hl => ?_)
        refine lv_iload_n hx hb dX5_readLine_32 rfl (lv_at hl 0 rfl) ?_
        refine r_if_eq (tgt := 40) hx hb dX5_readLine_33 (by decide) (fun c87 => ?_) (fun c87 => ?_)
        · exfalso; omega
        · refine r_iconst hx hb dX5_readLine_36 (by decide) (fun z88 ez88 => ?_)
          refine lv_goto (tgt := 51) hx hb dX5_readLine_37 (by decide) ?_
          refine lv_istore_n (lv' := [(3, .int z88), (2, .int z86), (1, .int (σ0 1 9)), (0, .ref (ad 28))]) hx hb dX5_readLine_51 rfl hl (by decide) rfl (fun ls hl => ?_)
          refine lv_iload_n hx hb dX5_readLine_52 rfl (lv_at hl 1 rfl) ?_
          refine r_if_ne (tgt := 63) hx hb dX5_readLine_53 (by decide) (fun c89 => ?_) (fun c89 => ?_)
          · try (obtain ⟨e1, _, _, _⟩ := o1.ye (by omega))
            refine lv_aload_n hx hb dX5_readLine_63 rfl (lv_at hl 3 rfl) ?_
            refine fg_5_6 (k := 28) hx hb hts in_X5_readLine_5 hown hK hP (by decide) (by decide) (hts _ lk_X5_readLine_33) dX5_readLine_64 ?_
            refine r_bipush hx hb dX5_readLine_67 (by decide) (fun z90 ez90 => ?_)
            refine r_icmp_lt (tgt := 81) hx hb dX5_readLine_69 (by decide) (fun c91 => ?_) (fun c91 => ?_)
            · refine lv_aload_n hx hb dX5_readLine_81 rfl (lv_at hl 3 rfl) ?_
              refine fg_5_0 (k := 28) hx hb hts in_X5_readLine_5 hown hK hP (by decide) (by decide) (hts _ lk_X5_readLine_21) dX5_readLine_82 ?_
              refine r_cVv (k := 1) (As := []) (rest := []) ⟨hx, hb, hml, hown, hts⟩ hK hP hN hS (c_X8_next_v l D cA ad hI σ0 τ0 hR _ _ _ _ gCT) (cwV 0 hts gX5_readLine_X8_next rfl rfl rfl (by decide +kernel) ⟨by decide, by decide⟩) (rv_Tape hK hP (by decide) (by decide)) rfl hl.1 rfl (Nat.le_of_ble_eq_true rfl) dX5_readLine_85 (Nat.zero_le _) (Nat.zero_le _) (fun u92 H92 locs92 hp92 hP hS => ?_)
              obtain ⟨σ92, τ92⟩ := u92
              obtain ⟨hR, f92, fL92, hp92_0⟩ : P_X8_next_v σ0 τ0 _ _ _ _ σ92 τ92 := hp92
              have hP : va_P D vwCl (gw cA ad σ92 τ92) H92 := hP
              have hFL := hFL.step fL92 (by decide)
              have gWH := gWH.agL (AgrL.fr fL92 (by decide))
              have gWM := gWM.agL (AgrL.fr fL92 (by decide))
              have hF := hF.step f92 (by decide)
              have gRI := RI.fr gRI f92 (by decide)
              have gWH := gWH.ag (Agr.fr f92 (by decide))
              have gWM := gWM.ag (Agr.fr f92 (by decide))
              have t93 : (σ92 28 6).toInt = (σ0 28 6).toInt := congrArg Int32.toInt (f92.at 28 6 (by decide))
              have t94 : (σ92 1 13).toInt = (σ0 1 13).toInt := congrArg Int32.toInt (f92.at 1 13 (by decide))
              have gCT := hp92_0
              refine lv_iload_n hx hb dX5_readLine_88 rfl (lv_at hl 1 rfl) ?_
              refine r_if_ne (tgt := 98) hx hb dX5_readLine_89 (by decide) (fun c95 => ?_) (fun c95 => ?_)
              · refine lv_iload_n hx hb dX5_readLine_98 rfl (lv_at hl 2 rfl) ?_
                refine r_bipush hx hb dX5_readLine_99 (by decide) (fun z96 ez96 => ?_)
                refine r_icmp_ne (tgt := 112) hx hb dX5_readLine_101 (by decide) (fun c97 => ?_) (fun c97 => ?_)
                · exfalso; omega
                · refine lv_aload_n hx hb dX5_readLine_104 rfl (lv_at hl 3 rfl) ?_
                  refine lv_iload_n hx hb dX5_readLine_105 rfl (lv_at hl 2 rfl) ?_
                  refine r_iconst hx hb dX5_readLine_106 (by decide) (fun z98 ez98 => ?_)
                  refine r_iconst hx hb dX5_readLine_107 (by decide) (fun z99 ez99 => ?_)
                  refine r_cVi (k := 28) (As := [.int (σ0 1 9), .int z98, .int z99]) (rest := []) ⟨hx, hb, hml, hown, hts⟩ hK hP hN hS (c_X5_note l D cA ad hI σ92 τ92 hR (σ0 1 9) z98 z99 (by omega) (by omega) (by omega) (by omega) gRI) (cwV 3 hts gX5_readLine_X5_note rfl rfl rfl (by decide +kernel) ⟨by decide, by decide⟩) (rv_Roll hK hP (by decide) (by decide)) rfl hl.1 rfl (Nat.le_of_ble_eq_true rfl) dX5_readLine_108 (Nat.zero_le _) (Nat.zero_le _) (fun r100 u100 H100 locs100 hp100 hP hS => ?_)
                  obtain ⟨σ100, τ100⟩ := u100
                  obtain ⟨hR, f100, fL100, hq100, hp100_0, gnRI⟩ : P_X5_note σ92 τ92 (σ0 1 9) z98 z99 r100 σ100 τ100 := hp100
                  have hP : va_P D vwCl (gw cA ad σ100 τ100) H100 := hP
                  obtain rfl := FrL.nil fL100
                  have hF := hF.step f100 (by decide)
                  have gCT := gCT.ag (Agr.fr f100 (by decide))
                  have gWH := gWH.ag (Agr.fr f100 (by decide))
                  have gWM := gWM.ag (Agr.fr f100 (by decide))
                  have t101 : (σ100 28 6).toInt = (σ92 28 6).toInt := congrArg Int32.toInt (f100.at 28 6 (by decide))
                  have t102 : (σ100 1 13).toInt = (σ92 1 13).toInt := congrArg Int32.toInt (f100.at 1 13 (by decide))
                  have gRI := gnRI
                  exact r_zret hx hb hr hK hP hS hk (by omega) dX5_readLine_111 (show P_X5_readLine σ0 τ0 b N mo q nm hc mm mc nn r100 σ100 τ92 from ⟨hR, hF, hFL, by omega, by first | (exfalso; omega) | (obtain ⟨f, e1, x1, x2⟩ := o1.no (by omega); exact RO.ofl (by rw [rol_m (by omega), e1, bnd_l]) (by omega) x1 x2) | exact RO.ofk (rol_4 (by omega) (by omega)) (by omega) (by omega) (by omega) | exact RO.ofk (by rw [rol_m (by omega), e1, bnd_r, if_pos (by omega)]) (by omega) (by omega) (by omega) | (rw [rol_m (by omega), e1, bnd_r, if_neg (by omega)]; exact o2) | exact RO.ofr (rol_19 (by omega) (by omega)) (by omega) gCT | (obtain ⟨f, e3, x1, x2⟩ := o3.no (by omega); exact RO.ofl (by rw [rol_14 (by omega) (by omega), e3, bnd_l]) (by omega) x1 x2) | exact RO.ofr (by rw [rol_14 (by omega) (by omega), e3, bnd_r]) (by omega) gCT | (obtain ⟨f, e4, x1, x2⟩ := o4.no (by omega); exact RO.ofl (by rw [rol_15 (by omega) (by omega), e4, bnd_l]) (by omega) x1 x2) | exact RO.ofr (by rw [rol_15 (by omega) (by omega), e4, bnd_r]) (by omega) gCT, by omega, gRI, gWH, gWM⟩)
              · exfalso; omega
            · refine lv_aload_n hx hb dX5_readLine_72 rfl (lv_at hl 3 rfl) ?_
              refine fg_5_0 (k := 28) hx hb hts in_X5_readLine_5 hown hK hP (by decide) (by decide) (hts _ lk_X5_readLine_21) dX5_readLine_73 ?_
              refine r_iconst hx hb dX5_readLine_76 (by decide) (fun z103 ez103 => ?_)
              refine r_cVi (k := 1) (As := [.int z103]) (rest := []) ⟨hx, hb, hml, hown, hts⟩ hK hP hN hS (c_X8_blame_v l D cA ad hI σ0 τ0 hR z103 _ _ _ _ (by omega) gCT) (cwV 1 hts gX5_readLine_X8_blame rfl rfl rfl (by decide +kernel) ⟨by decide, by decide⟩) (rv_Tape hK hP (by decide) (by decide)) rfl hl.1 rfl (Nat.le_of_ble_eq_true rfl) dX5_readLine_77 (Nat.zero_le _) (Nat.zero_le _) (fun r104 u104 H104 locs104 hp104 hP hS => ?_)
              obtain ⟨σ104, τ104⟩ := u104
              obtain ⟨hR, f104, fL104, hq104, hp104_0, hp104_1, hp104_2, gnCT⟩ : P_X8_blame_v σ0 τ0 z103 _ _ _ _ r104 σ104 τ104 := hp104
              have hP : va_P D vwCl (gw cA ad σ104 τ104) H104 := hP
              obtain rfl := FrL.nil fL104
              have hF := hF.step f104 (by decide)
              have gCT := gCT.ag (Agr.fr f104 (by decide))
              have gRI := RI.fr gRI f104 (by decide)
              have gWH := gWH.ag (Agr.fr f104 (by decide))
              have gWM := gWM.ag (Agr.fr f104 (by decide))
              have t105 : (σ104 28 6).toInt = (σ0 28 6).toInt := congrArg Int32.toInt (f104.at 28 6 (by decide))
              exact r_zret hx hb hr hK hP hS hk (by omega) dX5_readLine_80 (show P_X5_readLine σ0 τ0 b N mo q nm hc mm mc nn r104 σ104 τ0 from ⟨hR, hF, hFL, by omega, by first | (exfalso; omega) | (obtain ⟨f, e1, x1, x2⟩ := o1.no (by omega); exact RO.ofl (by rw [rol_m (by omega), e1, bnd_l]) (by omega) x1 x2) | exact RO.ofk (rol_4 (by omega) (by omega)) (by omega) (by omega) (by omega) | exact RO.ofk (by rw [rol_m (by omega), e1, bnd_r, if_pos (by omega)]) (by omega) (by omega) (by omega) | (rw [rol_m (by omega), e1, bnd_r, if_neg (by omega)]; exact o2) | exact RO.ofr (rol_19 (by omega) (by omega)) (by omega) gCT | (obtain ⟨f, e3, x1, x2⟩ := o3.no (by omega); exact RO.ofl (by rw [rol_14 (by omega) (by omega), e3, bnd_l]) (by omega) x1 x2) | exact RO.ofr (by rw [rol_14 (by omega) (by omega), e3, bnd_r]) (by omega) gCT | (obtain ⟨f, e4, x1, x2⟩ := o4.no (by omega); exact RO.ofl (by rw [rol_15 (by omega) (by omega), e4, bnd_l]) (by omega) x1 x2) | exact RO.ofr (by rw [rol_15 (by omega) (by omega), e4, bnd_r]) (by omega) gCT, by omega, gRI, gWH, gWM⟩)
          · exfalso; omega
theorem in_X5_read_5 : ∀ w ∈ u_ws RX5 TX5 8, w ∈ wsX5_read := by decide +kernel
theorem in_X5_read_8 : ∀ w ∈ u_ws RX8 TX8 15, w ∈ wsX5_read := by decide +kernel
theorem lk_X5_read_21 : Cond.fieldLink RX5 21 "CuckooShares$Roll" "tape" "LCuckooShares$Tape;" ∈ wsX5_read := by decide +kernel
theorem lk_X5_read_33 : Cond.fieldLink RX5 33 "CuckooShares$Roll" "lines" "I" ∈ wsX5_read := by decide +kernel
abbrev L_X5_read : List Rc := [(28, 28, 6, 6), (1, 1, 7, 10), (1, 1, 12, 14), (368, 368, 0, 39), (369, 369, 0, 39), (370, 370, 0, 39)]
abbrev LL_X5_read : List Rc := [(1, 1, 11, 11)]
def P_X5_read (σ0 : Nat → Nat → Int32) (τ0 : Nat → Nat → Int64) (b : Nat → Int) (N : Nat) (mo : Nat) (nm : Nat → Int) (hc : Nat) (mm : Nat → Int) (mc : Nat) (r : Int32) (σ : Nat → Nat → Int32) (τ : Nat → Nat → Int64) : Prop := Rg σ ∧ Fr L_X5_read σ0 σ ∧ FrL LL_X5_read τ0 τ ∧ (0 ≤ r.toInt ∧ r.toInt ≤ 1) ∧ (RO r σ (rolP b N mo nm hc mm mc 42 0 (posq b N mo 0)) (fun _ => True)) ∧ (r.toInt = 0 ∨ (σ 1 13).toInt = (σ0 1 13).toInt) ∧ RI σ ∧ WH σ τ nm hc ∧ WM σ τ mm mc
def J_X5_read_5 (p : Program) (l : Launch) (e : Env) (s : State) (m : MethodId) (args : Array Value) (below : List Frame) (meth : Method) (c : Code) (D : va_G) (cA : Nat → ClassId) (ad : Nat → Nat) (σ0 : Nat → Nat → Int32) (τ0 : Nat → Nat → Int64) (b : Nat → Int) (N : Nat) (mo : Nat) (nm : Nat → Int) (hc : Nat) (mm : Nat → Int) (mc : Nat) (n : Nat) : Prop := ∀ (σ : Nat → Nat → Int32) (τ : Nat → Nat → Int64) (H : Heap) (locs : List Loc) (fu : Nat) (nn : Nat) (q : Nat) (ls : Array Slot), Rg σ → Fr L_X5_read σ0 σ → FrL LL_X5_read τ0 τ → va_P D vwCl (gw cA ad σ τ) H → va_S (AA ad) s.heap H locs → (0 ≤ (σ 28 6).toInt ∧ (σ 28 6).toInt ≤ 41) → (rolP b N mo nm hc mm mc 42 0 (posq b N mo 0) = rolP b N mo nm hc mm mc fu nn q) → ((σ 28 6).toInt = (nn : Int)) → (fu + nn = 42) → (nn ≤ 40) → ((σ 1 13).toInt = (σ0 1 13).toInt) → (RI σ) → (WH σ τ nm hc) → (WM σ τ mm mc) → (CT σ τ b N mo q) → lv_has ls 1 [(0, .ref (ad 28))] → 2 * (41 - (σ 28 6).toInt) + 1 < (n : Int) → W p l e ({ frames := 5, cells := 0, slots := 0, locals := 110 } : Room) s m args below meth c H locs 0 0 (MQ below (va_Qi (fun (r : Int32) (u : SS) => P_X5_read σ0 τ0 b N mo nm hc mm mc r u.1 u.2) (WB D cA ad) (AA ad)) args s 0 0 (AA ad)) (F0 m 5 ls [])
set_option maxHeartbeats 4000000 in
theorem B_X5_read_5 (p : Program) (l : Launch) (e : Env) (s : State) (m : MethodId) (args : Array Value) (below : List Frame) (meth : Method) (c : Code) (D : va_G) (cA : Nat → ClassId) (ad : Nat → Nat) (σ0 : Nat → Nat → Int32) (τ0 : Nat → Nat → Int64) (b : Nat → Int) (N : Nat) (mo : Nat) (nm : Nat → Int) (hc : Nat) (mm : Nat → Int) (mc : Nat) (n : Nat) (C : Cy p s m args meth c cX5_read 1 wsX5_read RX5 D cA ad (some .boolean)) (hpre0 : CT σ0 τ0 b N mo (posq b N mo 0)) (gRI0 : RI σ0) (gWH0 : WH σ0 τ0 nm hc) (gWM0 : WM σ0 τ0 mm mc) (K5 : J_X5_read_5 p l e s m args below meth c D cA ad σ0 τ0 b N mo nm hc mm mc n) : J_X5_read_5 p l e s m args below meth c D cA ad σ0 τ0 b N mo nm hc mm mc (n + 1) := by
  obtain ⟨hx, hb, hml, hown, hts, hK, hk, hr, hI, hN⟩ := C
  intro σ τ H locs fu nn q ls hR hF hFL hP hS hc0 irq iln ifu in4 ik13 gRI gWH gWM gCT hl hm
  have htk := gCT.tk
  refine lv_aload_n hx hb dX5_read_5 rfl (lv_at hl 0 rfl) ?_
  refine fg_5_0 (k := 28) hx hb hts in_X5_read_5 hown hK hP (by decide) (by decide) (hts _ lk_X5_read_21) dX5_read_6 ?_
  refine fgN_8_9 (k := 1) hx hb hts in_X5_read_8 hown hK hP (by decide) (by decide) (hN.use nw_5_37) dX5_read_9 ?_
  refine r_bipush hx hb dX5_read_12 (by decide) (fun z1 ez1 => ?_)
  refine r_icmp_eq (tgt := 60) hx hb dX5_read_14 (by decide) (fun c2 => ?_) (fun c2 => ?_)
  · refine r_iconst hx hb dX5_read_60 (by decide) (fun z3 ez3 => ?_)
    exact r_zret hx hb hr hK hP hS hk (by omega) dX5_read_61 (show P_X5_read σ0 τ0 b N mo nm hc mm mc z3 σ τ from ⟨hR, hF, hFL, by omega, by first | (exfalso; omega) | exact RO.ofr (by rw [irq, rolP_e (by omega)]) (by omega) trivial | (obtain ⟨f, e1, x1, x2⟩ := o1.no (by omega); exact RO.ofl (by rw [irq, rolP_f (by omega) (by omega) e1]) (by omega) x1 x2) | (obtain ⟨f, e2, x1, x2⟩ := o2.no (by omega); exact RO.ofl (by rw [irq, rolP_t (by omega) (by omega) e1 e2]) (by omega) x1 x2) | (exfalso; omega), by omega, gRI, gWH, gWM⟩)
  · refine lv_aload_n hx hb dX5_read_17 rfl (lv_at hl 0 rfl) ?_
    refine fg_5_6 (k := 28) hx hb hts in_X5_read_5 hown hK hP (by decide) (by decide) (hts _ lk_X5_read_33) dX5_read_18 ?_
    refine r_bipush hx hb dX5_read_21 (by decide) (fun z4 ez4 => ?_)
    refine r_icmp_gt (tgt := 60) hx hb dX5_read_23 (by decide) (fun c5 => ?_) (fun c5 => ?_)
    · refine r_iconst hx hb dX5_read_60 (by decide) (fun z6 ez6 => ?_)
      exact r_zret hx hb hr hK hP hS hk (by omega) dX5_read_61 (show P_X5_read σ0 τ0 b N mo nm hc mm mc z6 σ τ from ⟨hR, hF, hFL, by omega, by first | (exfalso; omega) | exact RO.ofr (by rw [irq, rolP_e (by omega)]) (by omega) trivial | (obtain ⟨f, e1, x1, x2⟩ := o1.no (by omega); exact RO.ofl (by rw [irq, rolP_f (by omega) (by omega) e1]) (by omega) x1 x2) | (obtain ⟨f, e2, x1, x2⟩ := o2.no (by omega); exact RO.ofl (by rw [irq, rolP_t (by omega) (by omega) e1 e2]) (by omega) x1 x2) | (exfalso; omega), by omega, gRI, gWH, gWM⟩)
    · refine lv_aload_n hx hb dX5_read_26 rfl (lv_at hl 0 rfl) ?_
      refine r_cVi (k := 28) (As := []) (rest := []) ⟨hx, hb, hml, hown, hts⟩ hK hP hN hS (c_X5_readLine l D cA ad hI σ τ hR b N mo q nm hc mm mc nn (by omega) (by omega) gRI gCT gWH gWM) (cwV 0 hts gX5_read_X5_readLine rfl rfl rfl (by decide +kernel) ⟨by decide, by decide⟩) (rv_Roll hK hP (by decide) (by decide)) rfl hl.1 rfl (Nat.le_of_ble_eq_true rfl) dX5_read_27 (Nat.zero_le _) (Nat.zero_le _) (fun r7 u7 H7 locs7 hp7 hP hS => ?_)
      obtain ⟨σ7, τ7⟩ := u7
      obtain ⟨hR, f7, fL7, hq7, hp7_0, hp7_1, gnRI, gnWH, gnWM⟩ : P_X5_readLine σ τ b N mo q nm hc mm mc nn r7 σ7 τ7 := hp7
      have o1 := hp7_0
      have hP : va_P D vwCl (gw cA ad σ7 τ7) H7 := hP
      have hFL := hFL.step fL7 (by decide)
      have gWH := gWH.agL (AgrL.fr fL7 (by decide))
      have gWM := gWM.agL (AgrL.fr fL7 (by decide))
      have hF := hF.step f7 (by decide)
      have gWH := gWH.ag (Agr.fr f7 (by decide))
      have gWM := gWM.ag (Agr.fr f7 (by decide))
      have t8 : (σ7 28 6).toInt = (σ 28 6).toInt := congrArg Int32.toInt (f7.at 28 6 (by decide))
      have gRI := gnRI
      refine r_if_eq (tgt := 45) hx hb dX5_read_30 (by decide) (fun c9 => ?_) (fun c9 => ?_)
      · clear hp7_1
        refine r_iconst hx hb dX5_read_45 (by decide) (fun z10 ez10 => ?_)
        exact r_zret hx hb hr hK hP hS hk (by omega) dX5_read_46 (show P_X5_read σ0 τ0 b N mo nm hc mm mc z10 σ7 τ7 from ⟨hR, hF, hFL, by omega, by first | (exfalso; omega) | exact RO.ofr (by rw [irq, rolP_e (by omega)]) (by omega) trivial | (obtain ⟨f, e1, x1, x2⟩ := o1.no (by omega); exact RO.ofl (by rw [irq, rolP_f (by omega) (by omega) e1]) (by omega) x1 x2) | (obtain ⟨f, e2, x1, x2⟩ := o2.no (by omega); exact RO.ofl (by rw [irq, rolP_t (by omega) (by omega) e1 e2]) (by omega) x1 x2) | (exfalso; omega), by omega, gRI, gWH, gWM⟩)
      · replace hp7_1 := hp7_1.resolve_left (by omega)
        obtain ⟨q1, e1, gCT⟩ := o1.ye (by omega)
        have hlt := rol_lt e1
        refine lv_aload_n hx hb dX5_read_33 rfl (lv_at hl 0 rfl) ?_
        refine fg_5_0 (k := 28) hx hb hts in_X5_read_5 hown hK hP (by decide) (by decide) (hts _ lk_X5_read_21) dX5_read_34 ?_
        refine r_bipush hx hb dX5_read_37 (by decide) (fun z11 ez11 => ?_)
        refine r_cVi (k := 1) (As := [.int z11]) (rest := []) ⟨hx, hb, hml, hown, hts⟩ hK hP hN hS (c_X8_take_v l D cA ad hI σ7 τ7 hR z11 b N mo _ 40 (by omega) (by omega) gCT) (cwV 1 hts gX5_read_X8_take rfl rfl rfl (by decide +kernel) ⟨by decide, by decide⟩) (rv_Tape hK hP (by decide) (by decide)) rfl hl.1 rfl (Nat.le_of_ble_eq_true rfl) dX5_read_39 (Nat.zero_le _) (Nat.zero_le _) (fun r12 u12 H12 locs12 hp12 hP hS => ?_)
        obtain ⟨σ12, τ12⟩ := u12
        obtain ⟨hR, f12, fL12, hq12, hp12_0, hp12_1⟩ : P_X8_take_v σ7 τ7 z11 b N mo _ 40 r12 σ12 τ12 := hp12
        have o2 := hp12_0
        have hP : va_P D vwCl (gw cA ad σ12 τ12) H12 := hP
        have hFL := hFL.step fL12 (by decide)
        have gWH := gWH.agL (AgrL.fr fL12 (by decide))
        have gWM := gWM.agL (AgrL.fr fL12 (by decide))
        have hF := hF.step f12 (by decide)
        have gRI := RI.fr gRI f12 (by decide)
        have gWH := gWH.ag (Agr.fr f12 (by decide))
        have gWM := gWM.ag (Agr.fr f12 (by decide))
        have t13 : (σ12 28 6).toInt = (σ7 28 6).toInt := congrArg Int32.toInt (f12.at 28 6 (by decide))
        refine r_if_ne (tgt := 47) hx hb dX5_read_42 (by decide) (fun c14 => ?_) (fun c14 => ?_)
        · replace hp12_1 := hp12_1.resolve_left (by omega)
          obtain ⟨q2, e2, gCT⟩ := o2.ye (by omega)
          refine lv_aload_n hx hb dX5_read_47 rfl (lv_at hl 0 rfl) ?_
          refine lv_dup hx hb dX5_read_48 rfl ?_
          refine fg_5_6 (k := 28) hx hb hts in_X5_read_5 hown hK hP (by decide) (by decide) (hts _ lk_X5_read_33) dX5_read_49 ?_
          refine r_iconst hx hb dX5_read_52 (by decide) (fun z15 ez15 => ?_)
          refine r_iadd hx hb dX5_read_53 (by omega) (fun z16 ez16 => ?_)
          refine fp_5_6 (k := 28) hx hb hts in_X5_read_5 hown hK hP (by decide) (by decide) (hts _ lk_X5_read_33) hI hR hS (by omega) dX5_read_54 (fun σ17 H17 locs17 u17 v17 hR hP hS => ?_)
          have hF := hF.puts u17 0 rfl (by decide) (by decide) (by decide) (by decide)
          have gCT := gCT.ag (Agr.put u17 (by decide))
          have gRI := RI.put gRI u17 (by decide)
          have gWH := gWH.ag (Agr.put u17 (by decide))
          have gWM := gWM.ag (Agr.put u17 (by decide))
          have t18 : (σ17 1 13).toInt = (σ12 1 13).toInt := congrArg Int32.toInt (u17 1 13 (by omega))
          refine lv_goto (tgt := 5) hx hb dX5_read_57 (by decide) ?_
          exact K5 σ17 τ12 H17 locs17 (fu - 1) (nn + 1) _ ls hR hF hFL hP hS (by omega) (by first | rfl | rw [irq, rolP_s (by omega) (by omega) e1 e2]) (by omega) (by omega) (by omega) (by omega) gRI gWH gWM gCT (lv_sub hl [0] rfl) (by omega)
        · clear hp12_1
          refine r_iconst hx hb dX5_read_45 (by decide) (fun z19 ez19 => ?_)
          exact r_zret hx hb hr hK hP hS hk (by omega) dX5_read_46 (show P_X5_read σ0 τ0 b N mo nm hc mm mc z19 σ12 τ12 from ⟨hR, hF, hFL, by omega, by first | (exfalso; omega) | exact RO.ofr (by rw [irq, rolP_e (by omega)]) (by omega) trivial | (obtain ⟨f, e1, x1, x2⟩ := o1.no (by omega); exact RO.ofl (by rw [irq, rolP_f (by omega) (by omega) e1]) (by omega) x1 x2) | (obtain ⟨f, e2, x1, x2⟩ := o2.no (by omega); exact RO.ofl (by rw [irq, rolP_t (by omega) (by omega) e1 e2]) (by omega) x1 x2) | (exfalso; omega), by omega, gRI, gWH, gWM⟩)
theorem A_X5_read (p : Program) (l : Launch) (e : Env) (s : State) (m : MethodId) (args : Array Value) (below : List Frame) (meth : Method) (c : Code) (D : va_G) (cA : Nat → ClassId) (ad : Nat → Nat) (σ0 : Nat → Nat → Int32) (τ0 : Nat → Nat → Int64) (b : Nat → Int) (N : Nat) (mo : Nat) (nm : Nat → Int) (hc : Nat) (mm : Nat → Int) (mc : Nat) (C : Cy p s m args meth c cX5_read 1 wsX5_read RX5 D cA ad (some .boolean)) (hpre0 : CT σ0 τ0 b N mo (posq b N mo 0)) (gRI0 : RI σ0) (gWH0 : WH σ0 τ0 nm hc) (gWM0 : WM σ0 τ0 mm mc) : ∀ n : Nat, J_X5_read_5 p l e s m args below meth c D cA ad σ0 τ0 b N mo nm hc mm mc n := by
  intro n
  induction n with
  | zero =>
    exact (by intro σ τ H locs fu nn q ls hR hF hFL hP hS hc0 irq iln ifu in4 ik13 gRI gWH gWM gCT hl hm; exfalso; omega)
  | succ n ih =>
    exact B_X5_read_5 p l e s m args below meth c D cA ad σ0 τ0 b N mo nm hc mm mc n C hpre0 gRI0 gWH0 gWM0 ih
set_option maxHeartbeats 4000000 in
theorem c_X5_read (l : Launch) (D : va_G) (cA : Nat → ClassId) (ad : Nat → Nat) (hI : Inj ad) (σ0 : Nat → Nat → Int32) (τ0 : Nat → Nat → Int64) (hR : Rg σ0) (b : Nat → Int) (N : Nat) (mo : Nat) (nm : Nat → Int) (hc : Nat) (mm : Nat → Int) (mc : Nat) (hpre0 : CT σ0 τ0 b N mo (posq b N mo 0)) (gRI0 : RI σ0) (gWH0 : WH σ0 τ0 nm hc) (gWM0 : WM σ0 τ0 mm mc) : Met l yX5_read wsX5_read ({ frames := 5, cells := 0, slots := 0, locals := 110 } : Room) (WQc D cA ad [.ref (ad 28)] σ0 τ0) (va_Qi (fun (r : Int32) (u : SS) => P_X5_read σ0 τ0 b N mo nm hc mm mc r u.1 u.2) (WB D cA ad) (AA ad)) 0 0 (AA ad) := by
  refine Met.ofW (cc := cX5_read) (maxL := 1) (ret := (some .boolean)) (by decide) rfl ?_
  intro p e s m args below meth c s₁ B hml hv
  obtain ⟨rfl, hP, hK, hN⟩ := hv
  have C : Cy p s m _ meth c cX5_read 1 wsX5_read RX5 D cA ad (some .boolean) := ⟨B.exec, B.bytes, hml, findClass_of_methodNamed B.named, atoms_spec (ws := wsX5_read) B.pre, hK, B.notSynchronized, B.returns, hI, hN⟩
  have hl := lv_entry ([.ref (ad 28)]) (n := 1) (Nat.le_of_ble_eq_true rfl)
  rw [lg_entry_eq]
  generalize (lg_sl ([.ref (ad 28)]) ++ List.replicate (1 - (lg_sl ([.ref (ad 28)])).length) Slot.unset).toArray = ls at hl ⊢
  have hl : lv_has ls 1 [(0, .ref (ad 28))] := hl
  have hS : va_S (AA ad) s.heap s.heap [] := va_S.rf
  have hF : Fr L_X5_read σ0 σ0 := Fr.rf
  have hFL : FrL LL_X5_read τ0 τ0 := FrL.rf
  have gRI := gRI0
  have gWH := gWH0
  have gWM := gWM0
  have hA := A_X5_read p l e s m _ below meth c D cA ad σ0 τ0 b N mo nm hc mm mc C hpre0 gRI0 gWH0 gWM0 174
  have K5 := hA
  clear hA
  obtain ⟨hx, hb, _, hown, hts, _, hk, hr, _, _⟩ := C
  have gCT := hpre0
  refine lv_aload_n hx hb dX5_read_0 rfl (lv_at hl 0 rfl) ?_
  refine r_iconst hx hb dX5_read_1 (by decide) (fun z1 ez1 => ?_)
  refine fp_5_6 (k := 28) hx hb hts in_X5_read_5 hown hK hP (by decide) (by decide) (hts _ lk_X5_read_33) hI hR hS (by omega) dX5_read_2 (fun σ2 H2 locs2 u2 v2 hR hP hS => ?_)
  have hF := hF.puts u2 0 rfl (by decide) (by decide) (by decide) (by decide)
  have gCT := gCT.ag (Agr.put u2 (by decide))
  have gRI := RI.put gRI u2 (by decide)
  have gWH := gWH.ag (Agr.put u2 (by decide))
  have gWM := gWM.ag (Agr.put u2 (by decide))
  have t3 : (σ2 1 13).toInt = (σ0 1 13).toInt := congrArg Int32.toInt (u2 1 13 (by omega))
  exact K5 σ2 τ0 H2 locs2 42 0 _ ls hR hF hFL hP hS (by omega) (by first | rfl | rw [irq, rolP_s (by omega) (by omega) e1 e2]) (by omega) (by omega) (by omega) (by omega) gRI gWH gWM gCT (lv_sub hl [0] rfl) (by omega)
theorem cn_X6_copyFrom : Cond.native arraycopyName ∈ wsX6_copyFrom := by decide +kernel
theorem cs_X6_copyFrom : Cond.static arraycopyName ∈ wsX6_copyFrom := by decide +kernel
theorem ci_X6_copyFrom : Cond.initialized "java/lang/System" ∈ wsX6_copyFrom := by decide +kernel
theorem in_X6_copyFrom_6 : ∀ w ∈ u_ws RX6 TX6 7, w ∈ wsX6_copyFrom := by decide +kernel
theorem lk_X6_copyFrom_15 : Cond.fieldLink RX6 15 "CuckooShares$Sentence" "sign" "[I" ∈ wsX6_copyFrom := by decide +kernel
theorem lk_X6_copyFrom_18 : Cond.fieldLink RX6 18 "CuckooShares$Sentence" "value" "[I" ∈ wsX6_copyFrom := by decide +kernel
theorem lk_X6_copyFrom_24 : Cond.fieldLink RX6 24 "CuckooShares$Sentence" "told" "Z" ∈ wsX6_copyFrom := by decide +kernel
theorem lk_X6_copyFrom_28 : Cond.fieldLink RX6 28 "CuckooShares$Sentence" "ones" "I" ∈ wsX6_copyFrom := by decide +kernel
theorem lk_X6_copyFrom_32 : Cond.fieldLink RX6 32 "CuckooShares$Sentence" "steps" "I" ∈ wsX6_copyFrom := by decide +kernel
theorem lk_X6_copyFrom_35 : Cond.methodLink RX6 35 arraycopyName ∈ wsX6_copyFrom := by decide +kernel
theorem lk_X6_copyFrom_9 : Cond.fieldLink RX6 9 "CuckooShares$Sentence" "word" "[I" ∈ wsX6_copyFrom := by decide +kernel
abbrev L_X6_copyFrom : List Rc := [(23, 26, 0, 2), (371, 374, 0, 40), (375, 378, 0, 40), (379, 382, 0, 40)]
abbrev LL_X6_copyFrom : List Rc := []
def P_X6_copyFrom (σ0 : Nat → Nat → Int32) (τ0 : Nat → Nat → Int64) (k0 : Nat) (k1 : Nat) (σ : Nat → Nat → Int32) (τ : Nat → Nat → Int64) : Prop := Rg σ ∧ Fr L_X6_copyFrom σ0 σ ∧ FrL LL_X6_copyFrom τ0 τ ∧ ((σ k0 1).toInt = (σ0 k1 1).toInt)
set_option maxHeartbeats 4000000 in
theorem c_X6_copyFrom (l : Launch) (D : va_G) (cA : Nat → ClassId) (ad : Nat → Nat) (hI : Inj ad) (σ0 : Nat → Nat → Int32) (τ0 : Nat → Nat → Int64) (hR : Rg σ0) (k0 : Nat) (k1 : Nat) (hk0 : 23 ≤ k0 ∧ k0 ≤ 26) (hk1 : 23 ≤ k1 ∧ k1 ≤ 26) : Met l yX6_copyFrom wsX6_copyFrom ({ frames := 1, cells := 0, slots := 0, locals := 60 } : Room) (WQc D cA ad [.ref (ad k0), .ref (ad k1)] σ0 τ0) (va_Qv (fun u : SS => P_X6_copyFrom σ0 τ0 k0 k1 u.1 u.2) (WB D cA ad) (AA ad)) 0 0 (AA ad) := by
  refine Met.ofW (cc := cX6_copyFrom) (maxL := 2) (ret := none) (by decide) rfl ?_
  intro p e s m args below meth c s₁ B hml hv
  obtain ⟨rfl, hP, hK, hN⟩ := hv
  have C : Cy p s m _ meth c cX6_copyFrom 2 wsX6_copyFrom RX6 D cA ad none := ⟨B.exec, B.bytes, hml, findClass_of_methodNamed B.named, atoms_spec (ws := wsX6_copyFrom) B.pre, hK, B.notSynchronized, B.returns, hI, hN⟩
  have hl := lv_entry ([.ref (ad k0), .ref (ad k1)]) (n := 2) (Nat.le_of_ble_eq_true rfl)
  rw [lg_entry_eq]
  generalize (lg_sl ([.ref (ad k0), .ref (ad k1)]) ++ List.replicate (2 - (lg_sl ([.ref (ad k0), .ref (ad k1)])).length) Slot.unset).toArray = ls at hl ⊢
  have hl : lv_has ls 2 [(0, .ref (ad k0)), (1, .ref (ad k1))] := hl
  have hS : va_S (AA ad) s.heap s.heap [] := va_S.rf
  have hF : Fr L_X6_copyFrom σ0 σ0 := Fr.rf
  have hFL : FrL LL_X6_copyFrom τ0 τ0 := FrL.rf
  obtain ⟨hx, hb, _, hown, hts, _, hk, hr, _, _⟩ := C
  refine lv_aload_n hx hb dX6_copyFrom_0 rfl (lv_at hl 0 rfl) ?_
  refine lv_aload_n hx hb dX6_copyFrom_1 rfl (lv_at hl 1 rfl) ?_
  refine fg_6_0 (k := k1) hx hb hts in_X6_copyFrom_6 hown hK hP (by omega) (by omega) (hts _ lk_X6_copyFrom_24) dX6_copyFrom_2 ?_
  have hr1 := rg_6_0 hR (k := k1) (by omega) (by omega)
  refine fp_6_0 (k := k0) hx hb hts in_X6_copyFrom_6 hown hK hP (by omega) (by omega) (hts _ lk_X6_copyFrom_24) hI hR hS (by omega) dX6_copyFrom_5 (fun σ2 H2 locs2 u2 v2 hR hP hS => ?_)
  have w0 := u2
  have y0 := v2
  have hF := hF.puts u2 0 rfl (by omega) (by omega) (by decide) (by decide)
  refine lv_aload_n hx hb dX6_copyFrom_8 rfl (lv_at hl 0 rfl) ?_
  refine lv_aload_n hx hb dX6_copyFrom_9 rfl (lv_at hl 1 rfl) ?_
  refine fg_6_1 (k := k1) hx hb hts in_X6_copyFrom_6 hown hK hP (by omega) (by omega) (hts _ lk_X6_copyFrom_28) dX6_copyFrom_10 ?_
  have hr3 := rg_6_1 hR (k := k1) (by omega) (by omega)
  refine fp_6_1 (k := k0) hx hb hts in_X6_copyFrom_6 hown hK hP (by omega) (by omega) (hts _ lk_X6_copyFrom_28) hI hR hS (by omega) dX6_copyFrom_13 (fun σ4 H4 locs4 u4 v4 hR hP hS => ?_)
  have hF := hF.puts u4 0 rfl (by omega) (by omega) (by decide) (by decide)
  refine lv_aload_n hx hb dX6_copyFrom_16 rfl (lv_at hl 0 rfl) ?_
  refine lv_aload_n hx hb dX6_copyFrom_17 rfl (lv_at hl 1 rfl) ?_
  refine fg_6_2 (k := k1) hx hb hts in_X6_copyFrom_6 hown hK hP (by omega) (by omega) (hts _ lk_X6_copyFrom_32) dX6_copyFrom_18 ?_
  have hr5 := rg_6_2 hR (k := k1) (by omega) (by omega)
  refine fp_6_2 (k := k0) hx hb hts in_X6_copyFrom_6 hown hK hP (by omega) (by omega) (hts _ lk_X6_copyFrom_32) hI hR hS (by omega) dX6_copyFrom_21 (fun σ6 H6 locs6 u6 v6 hR hP hS => ?_)
  have hF := hF.puts u6 0 rfl (by omega) (by omega) (by decide) (by decide)
  have t7 : (σ6 k0 1).toInt = (σ4 k0 1).toInt := congrArg Int32.toInt (u6 k0 1 (by omega))
  refine lv_aload_n hx hb dX6_copyFrom_24 rfl (lv_at hl 1 rfl) ?_
  refine fg_6_3 (k := k1) hx hb hts in_X6_copyFrom_6 hown hK hP (by omega) (by omega) (hts _ lk_X6_copyFrom_9) dX6_copyFrom_25 ?_
  refine r_iconst hx hb dX6_copyFrom_28 (by decide) (fun z8 ez8 => ?_)
  refine lv_aload_n hx hb dX6_copyFrom_29 rfl (lv_at hl 0 rfl) ?_
  refine fg_6_3 (k := k0) hx hb hts in_X6_copyFrom_6 hown hK hP (by omega) (by omega) (hts _ lk_X6_copyFrom_9) dX6_copyFrom_30 ?_
  refine r_iconst hx hb dX6_copyFrom_33 (by decide) (fun z9 ez9 => ?_)
  refine r_bipush hx hb dX6_copyFrom_34 (by decide) (fun z10 ez10 => ?_)
  refine cp_sent40 (k := k0 + 348) (q := k1 + 348) hx hb (by rw [hml]; exact hl.1.symm) hown (hts _ lk_X6_copyFrom_35) (hts _ cn_X6_copyFrom) (hts _ cs_X6_copyFrom) (hts _ ci_X6_copyFrom) hK hP hI hR hS (by omega) (by omega) (by omega) (by omega) (by omega) (by omega) (by omega) (by decide) (Nat.le_of_ble_eq_true rfl) dX6_copyFrom_36 (fun σ11 H11 locs11 u11 hR hP hS => ?_)
  have hF := hF.row u11 1 rfl (by omega) (by omega) (by decide) (by decide)
  have t12 : (σ11 k0 1).toInt = (σ6 k0 1).toInt := congrArg Int32.toInt (u11 k0 1 (by omega))
  refine lv_aload_n hx hb dX6_copyFrom_39 rfl (lv_at hl 1 rfl) ?_
  refine fg_6_4 (k := k1) hx hb hts in_X6_copyFrom_6 hown hK hP (by omega) (by omega) (hts _ lk_X6_copyFrom_15) dX6_copyFrom_40 ?_
  refine r_iconst hx hb dX6_copyFrom_43 (by decide) (fun z13 ez13 => ?_)
  refine lv_aload_n hx hb dX6_copyFrom_44 rfl (lv_at hl 0 rfl) ?_
  refine fg_6_4 (k := k0) hx hb hts in_X6_copyFrom_6 hown hK hP (by omega) (by omega) (hts _ lk_X6_copyFrom_15) dX6_copyFrom_45 ?_
  refine r_iconst hx hb dX6_copyFrom_48 (by decide) (fun z14 ez14 => ?_)
  refine r_bipush hx hb dX6_copyFrom_49 (by decide) (fun z15 ez15 => ?_)
  refine cp_sent40 (k := k0 + 352) (q := k1 + 352) hx hb (by rw [hml]; exact hl.1.symm) hown (hts _ lk_X6_copyFrom_35) (hts _ cn_X6_copyFrom) (hts _ cs_X6_copyFrom) (hts _ ci_X6_copyFrom) hK hP hI hR hS (by omega) (by omega) (by omega) (by omega) (by omega) (by omega) (by omega) (by decide) (Nat.le_of_ble_eq_true rfl) dX6_copyFrom_51 (fun σ16 H16 locs16 u16 hR hP hS => ?_)
  have hF := hF.row u16 2 rfl (by omega) (by omega) (by decide) (by decide)
  have t17 : (σ16 k0 1).toInt = (σ11 k0 1).toInt := congrArg Int32.toInt (u16 k0 1 (by omega))
  refine lv_aload_n hx hb dX6_copyFrom_54 rfl (lv_at hl 1 rfl) ?_
  refine fg_6_5 (k := k1) hx hb hts in_X6_copyFrom_6 hown hK hP (by omega) (by omega) (hts _ lk_X6_copyFrom_18) dX6_copyFrom_55 ?_
  refine r_iconst hx hb dX6_copyFrom_58 (by decide) (fun z18 ez18 => ?_)
  refine lv_aload_n hx hb dX6_copyFrom_59 rfl (lv_at hl 0 rfl) ?_
  refine fg_6_5 (k := k0) hx hb hts in_X6_copyFrom_6 hown hK hP (by omega) (by omega) (hts _ lk_X6_copyFrom_18) dX6_copyFrom_60 ?_
  refine r_iconst hx hb dX6_copyFrom_63 (by decide) (fun z19 ez19 => ?_)
  refine r_bipush hx hb dX6_copyFrom_64 (by decide) (fun z20 ez20 => ?_)
  refine cp_sent40 (k := k0 + 356) (q := k1 + 356) hx hb (by rw [hml]; exact hl.1.symm) hown (hts _ lk_X6_copyFrom_35) (hts _ cn_X6_copyFrom) (hts _ cs_X6_copyFrom) (hts _ ci_X6_copyFrom) hK hP hI hR hS (by omega) (by omega) (by omega) (by omega) (by omega) (by omega) (by omega) (by decide) (Nat.le_of_ble_eq_true rfl) dX6_copyFrom_66 (fun σ21 H21 locs21 u21 hR hP hS => ?_)
  have hF := hF.row u21 3 rfl (by omega) (by omega) (by decide) (by decide)
  have t22 : (σ21 k0 1).toInt = (σ16 k0 1).toInt := congrArg Int32.toInt (u21 k0 1 (by omega))
  exact r_vret hx hb hr hK hP hS hk dX6_copyFrom_69 (show P_X6_copyFrom σ0 τ0 k0 k1 σ21 τ0 from ⟨hR, hF, hFL, by have h9 := congrArg Int32.toInt (w0 k1 1 (by omega)); omega⟩)
