theorem in_X1_hearers_1 : ∀ w ∈ u_ws RX1 TX1 9, w ∈ wsX1_hearers := by decide +kernel
theorem in_X1_hearers_9 : ∀ w ∈ u_ws RX9 TX9 14, w ∈ wsX1_hearers := by decide +kernel
theorem lk_X1_hearers_36 : Cond.fieldLink RX1 36 "CuckooShares$Camp" "valley" "LCuckooShares$Valley;" ∈ wsX1_hearers := by decide +kernel
abbrev L_X1_hearers : List Rc := []
abbrev LL_X1_hearers : List Rc := []
def P_X1_hearers (σ0 : Nat → Nat → Int32) (τ0 : Nat → Nat → Int64) (a1 : Int32) (a2 : Int32) (r : Int32) (σ : Nat → Nat → Int32) (τ : Nat → Nat → Int64) : Prop := Rg σ ∧ Fr L_X1_hearers σ0 σ ∧ FrL LL_X1_hearers τ0 τ
def J_X1_hearers_5 (p : Program) (l : Launch) (e : Env) (s : State) (m : MethodId) (args : Array Value) (below : List Frame) (meth : Method) (c : Code) (D : va_G) (cA : Nat → ClassId) (ad : Nat → Nat) (σ0 : Nat → Nat → Int32) (τ0 : Nat → Nat → Int64) (a1 : Int32) (a2 : Int32) (n : Nat) : Prop := ∀ (σ : Nat → Nat → Int32) (τ : Nat → Nat → Int64) (H : Heap) (locs : List Loc) (x3 : Int32) (x4 : Int32) (ls : Array Slot), Rg σ → Fr L_X1_hearers σ0 σ → FrL LL_X1_hearers τ0 τ → va_P D vwCl (gw cA ad σ τ) H → va_S (AA ad) s.heap H locs → (0 ≤ x4.toInt ∧ x4.toInt ≤ 8) → lv_has ls 5 [(0, .ref (ad 21)), (1, .int a1), (2, .int a2), (3, .int x3), (4, .int x4)] → 2 * (8 - x4.toInt) + 1 < (n : Int) → W p l e ({ frames := 3, cells := 0, slots := 0, locals := 71 } : Room) s m args below meth c H locs 0 0 (MQ below (va_Qi (fun (r : Int32) (u : SS) => P_X1_hearers σ0 τ0 a1 a2 r u.1 u.2) (WB D cA ad) (AA ad)) args s 0 0 (AA ad)) (F0 m 5 ls [])
set_option maxHeartbeats 4000000 in
theorem B_X1_hearers_5 (p : Program) (l : Launch) (e : Env) (s : State) (m : MethodId) (args : Array Value) (below : List Frame) (meth : Method) (c : Code) (D : va_G) (cA : Nat → ClassId) (ad : Nat → Nat) (σ0 : Nat → Nat → Int32) (τ0 : Nat → Nat → Int64) (a1 : Int32) (a2 : Int32) (n : Nat) (C : Cy p s m args meth c cX1_hearers 5 wsX1_hearers RX1 D cA ad (some .int)) (ha1 : 0 ≤ a1.toInt ∧ a1.toInt ≤ 3) (ha2 : 0 ≤ a2.toInt ∧ a2.toInt ≤ 9) (K5 : J_X1_hearers_5 p l e s m args below meth c D cA ad σ0 τ0 a1 a2 n) : J_X1_hearers_5 p l e s m args below meth c D cA ad σ0 τ0 a1 a2 (n + 1) := by
  obtain ⟨hx, hb, hml, hown, hts, hK, hk, hr, hI, hN⟩ := C
  intro σ τ H locs x3 x4 ls hR hF hFL hP hS hc0 hl hm
  obtain rfl := Fr.nil hF
  obtain rfl := FrL.nil hFL
  refine lv_iload hx hb dX1_hearers_5 (lv_at hl 4 rfl) ?_
  refine lv_aload_n hx hb dX1_hearers_7 rfl (lv_at hl 0 rfl) ?_
  refine fg_1_0 (k := 21) hx hb hts in_X1_hearers_1 hown hK hP (by decide) (by decide) (hts _ lk_X1_hearers_36) dX1_hearers_8 ?_
  refine fgN_9_5 (k := 2) hx hb hts in_X1_hearers_9 hown hK hP (by decide) (by decide) (hN.use nw_1_40) dX1_hearers_11 ?_
  have hr1 := rg_9_5 hR (k := 2) (by decide) (by decide)
  refine r_icmp_ge (tgt := 60) hx hb dX1_hearers_14 (by decide) (fun c2 => ?_) (fun c2 => ?_)
  · refine lv_iload_n hx hb dX1_hearers_60 rfl (lv_at hl 3 rfl) ?_
    exact r_iret hx hb hr hK hP hS hk dX1_hearers_61 (show P_X1_hearers σ0 τ0 a1 a2 x3 σ0 τ0 from ⟨hR, hF, hFL⟩)
  · refine lv_aload_n hx hb dX1_hearers_17 rfl (lv_at hl 0 rfl) ?_
    refine fg_1_0 (k := 21) hx hb hts in_X1_hearers_1 hown hK hP (by decide) (by decide) (hts _ lk_X1_hearers_36) dX1_hearers_18 ?_
    refine fgN_9_13 (k := 2) hx hb hts in_X1_hearers_9 hown hK hP (by decide) (by decide) (hN.use nw_1_93) dX1_hearers_21 ?_
    refine lv_iload hx hb dX1_hearers_24 (lv_at hl 4 rfl) ?_
    obtain ⟨j3, ej3⟩ : ∃ j : Nat, x4.toInt = (j : Int) := ⟨_, ti_nat (by omega)⟩
    refine ad_echo (k := 64) (j := j3) hx hb hK hP (by decide) (by decide) ej3 (by omega) dX1_hearers_26 ?_
    refine r_if_eq (tgt := 54) hx hb dX1_hearers_27 (by decide) (fun c4 => ?_) (fun c4 => ?_)
    · refine r_iinc (k := 4) (lv1 := fun z5 => [(4, .int z5), (0, .ref (ad 21)), (1, .int a1), (2, .int a2), (3, .int x3)]) hx hb dX1_hearers_54 hl rfl (by decide) (fun _ => rfl) (by decide) (by omega) (fun z5 ls ez5 hl => ?_)
      refine lv_goto (tgt := 5) hx hb dX1_hearers_57 (by decide) ?_
      exact K5 σ0 τ0 H locs x3 z5 ls hR hF hFL hP hS (by omega) (lv_sub hl [1, 2, 3, 4, 0] rfl) (by omega)
    · refine lv_aload_n hx hb dX1_hearers_30 rfl (lv_at hl 0 rfl) ?_
      refine lv_iload hx hb dX1_hearers_31 (lv_at hl 4 rfl) ?_
      refine lv_iload_n hx hb dX1_hearers_33 rfl (lv_at hl 1 rfl) ?_
      refine lv_iload_n hx hb dX1_hearers_34 rfl (lv_at hl 2 rfl) ?_
      refine r_cVi (k := 21) (As := [.int x4, .int a1, .int a2]) (rest := []) ⟨hx, hb, hml, hown, hts⟩ hK hP hN hS (c_X1_reaches l D cA ad hI σ0 τ0 hR x4 a1 a2 (by omega) (by omega) (by omega)) (cwV 3 hts gX1_hearers_X1_reaches rfl rfl rfl (by decide +kernel) ⟨by decide, by decide⟩) (rv_Camp hK hP (by decide) (by decide)) rfl hl.1 rfl (Nat.le_of_ble_eq_true rfl) dX1_hearers_35 (Nat.zero_le _) (Nat.zero_le _) (fun r6 u6 H6 locs6 hp6 hP hS => ?_)
      obtain ⟨σ6, τ6⟩ := u6
      obtain ⟨hR, f6, fL6, hq6⟩ : P_X1_reaches σ0 τ0 x4 a1 a2 r6 σ6 τ6 := hp6
      have hP : va_P D vwCl (gw cA ad σ6 τ6) H6 := hP
      obtain rfl := FrL.nil fL6
      obtain rfl := Fr.nil f6
      refine r_if_eq (tgt := 54) hx hb dX1_hearers_38 (by decide) (fun c7 => ?_) (fun c7 => ?_)
      · refine r_iinc (k := 4) (lv1 := fun z8 => [(4, .int z8), (0, .ref (ad 21)), (1, .int a1), (2, .int a2), (3, .int x3)]) hx hb dX1_hearers_54 hl rfl (by decide) (fun _ => rfl) (by decide) (by omega) (fun z8 ls ez8 hl => ?_)
        refine lv_goto (tgt := 5) hx hb dX1_hearers_57 (by decide) ?_
        exact K5 σ0 τ0 H6 locs6 x3 z8 ls hR hF hFL hP hS (by omega) (lv_sub hl [1, 2, 3, 4, 0] rfl) (by omega)
      · refine lv_iload_n hx hb dX1_hearers_41 rfl (lv_at hl 3 rfl) ?_
        refine lv_aload_n hx hb dX1_hearers_42 rfl (lv_at hl 0 rfl) ?_
        refine fg_1_0 (k := 21) hx hb hts in_X1_hearers_1 hown hK hP (by decide) (by decide) (hts _ lk_X1_hearers_36) dX1_hearers_43 ?_
        refine fgN_9_13 (k := 2) hx hb hts in_X1_hearers_9 hown hK hP (by decide) (by decide) (hN.use nw_1_93) dX1_hearers_46 ?_
        refine lv_iload hx hb dX1_hearers_49 (lv_at hl 4 rfl) ?_
        refine ad_echo (k := 64) (j := j3) hx hb hK hP (by decide) (by decide) ej3 (by omega) dX1_hearers_51 ?_
        refine r_iorU hx hb dX1_hearers_52 (fun z9 => ?_)
        refine lv_istore_n (lv' := [(3, .int z9), (0, .ref (ad 21)), (1, .int a1), (2, .int a2), (4, .int x4)]) hx hb dX1_hearers_53 rfl hl (by decide) rfl (fun ls hl => ?_)
        refine r_iinc (k := 4) (lv1 := fun z10 => [(4, .int z10), (3, .int z9), (0, .ref (ad 21)), (1, .int a1), (2, .int a2)]) hx hb dX1_hearers_54 hl rfl (by decide) (fun _ => rfl) (by decide) (by omega) (fun z10 ls ez10 hl => ?_)
        refine lv_goto (tgt := 5) hx hb dX1_hearers_57 (by decide) ?_
        exact K5 σ0 τ0 H6 locs6 z9 z10 ls hR hF hFL hP hS (by omega) (lv_sub hl [2, 3, 4, 1, 0] rfl) (by omega)
theorem A_X1_hearers (p : Program) (l : Launch) (e : Env) (s : State) (m : MethodId) (args : Array Value) (below : List Frame) (meth : Method) (c : Code) (D : va_G) (cA : Nat → ClassId) (ad : Nat → Nat) (σ0 : Nat → Nat → Int32) (τ0 : Nat → Nat → Int64) (a1 : Int32) (a2 : Int32) (C : Cy p s m args meth c cX1_hearers 5 wsX1_hearers RX1 D cA ad (some .int)) (ha1 : 0 ≤ a1.toInt ∧ a1.toInt ≤ 3) (ha2 : 0 ≤ a2.toInt ∧ a2.toInt ≤ 9) : ∀ n : Nat, J_X1_hearers_5 p l e s m args below meth c D cA ad σ0 τ0 a1 a2 n := by
  intro n
  induction n with
  | zero =>
    exact (by intro σ τ H locs x3 x4 ls hR hF hFL hP hS hc0 hl hm; exfalso; omega)
  | succ n ih =>
    exact B_X1_hearers_5 p l e s m args below meth c D cA ad σ0 τ0 a1 a2 n C ha1 ha2 ih
set_option maxHeartbeats 4000000 in
theorem c_X1_hearers (l : Launch) (D : va_G) (cA : Nat → ClassId) (ad : Nat → Nat) (hI : Inj ad) (σ0 : Nat → Nat → Int32) (τ0 : Nat → Nat → Int64) (hR : Rg σ0) (a1 : Int32) (a2 : Int32) (ha1 : 0 ≤ a1.toInt ∧ a1.toInt ≤ 3) (ha2 : 0 ≤ a2.toInt ∧ a2.toInt ≤ 9) : Met l yX1_hearers wsX1_hearers ({ frames := 3, cells := 0, slots := 0, locals := 71 } : Room) (WQc D cA ad [.ref (ad 21), .int a1, .int a2] σ0 τ0) (va_Qi (fun (r : Int32) (u : SS) => P_X1_hearers σ0 τ0 a1 a2 r u.1 u.2) (WB D cA ad) (AA ad)) 0 0 (AA ad) := by
  refine Met.ofW (cc := cX1_hearers) (maxL := 5) (ret := (some .int)) (by decide) rfl ?_
  intro p e s m args below meth c s₁ B hml hv
  obtain ⟨rfl, hP, hK, hN⟩ := hv
  have C : Cy p s m _ meth c cX1_hearers 5 wsX1_hearers RX1 D cA ad (some .int) := ⟨B.exec, B.bytes, hml, findClass_of_methodNamed B.named, atoms_spec (ws := wsX1_hearers) B.pre, hK, B.notSynchronized, B.returns, hI, hN⟩
  have hl := lv_entry ([.ref (ad 21), .int a1, .int a2]) (n := 5) (Nat.le_of_ble_eq_true rfl)
  rw [lg_entry_eq]
  generalize (lg_sl ([.ref (ad 21), .int a1, .int a2]) ++ List.replicate (5 - (lg_sl ([.ref (ad 21), .int a1, .int a2])).length) Slot.unset).toArray = ls at hl ⊢
  have hl : lv_has ls 5 [(0, .ref (ad 21)), (1, .int a1), (2, .int a2)] := hl
  have hS : va_S (AA ad) s.heap s.heap [] := va_S.rf
  have hF : Fr L_X1_hearers σ0 σ0 := Fr.rf
  have hFL : FrL LL_X1_hearers τ0 τ0 := FrL.rf
  have hA := A_X1_hearers p l e s m _ below meth c D cA ad σ0 τ0 a1 a2 C ha1 ha2 42
  have K5 := hA
  clear hA
  obtain ⟨hx, hb, _, hown, hts, _, hk, hr, _, _⟩ := C
  refine r_iconst hx hb dX1_hearers_0 (by decide) (fun z1 ez1 => ?_)
  refine lv_istore_n (lv' := [(3, .int z1), (0, .ref (ad 21)), (1, .int a1), (2, .int a2)]) hx hb dX1_hearers_1 rfl hl (by decide) rfl (fun ls hl => ?_)
  refine r_iconst hx hb dX1_hearers_2 (by decide) (fun z2 ez2 => ?_)
  refine lv_istore (lv' := [(4, .int z2), (3, .int z1), (0, .ref (ad 21)), (1, .int a1), (2, .int a2)]) hx hb dX1_hearers_3 hl (by decide) rfl (fun ls hl => ?_)
  exact K5 σ0 τ0 s.heap [] z1 z2 ls hR hF hFL hP hS (by omega) (lv_sub hl [2, 3, 4, 1, 0] rfl) (by omega)
theorem in_X0_callOath_0 : ∀ w ∈ u_ws RX0 TX0 3, w ∈ wsX0_callOath := by decide +kernel
theorem in_X0_callOath_2 : ∀ w ∈ u_ws RX2 TX2 7, w ∈ wsX0_callOath := by decide +kernel
theorem lk_X0_callOath_15 : Cond.fieldLink RX0 15 "CuckooShares$Acts" "camp" "LCuckooShares$Camp;" ∈ wsX0_callOath := by decide +kernel
abbrev L_X0_callOath : List Rc := [(334, 336, 0, 7), (321, 323, 0, 7), (360, 360, 0, 7), (361, 361, 0, 7), (362, 362, 0, 7)]
abbrev LL_X0_callOath : List Rc := []
def P_X0_callOath (σ0 : Nat → Nat → Int32) (τ0 : Nat → Nat → Int64) (k1 : Nat) (a2 : Int32) (a3 : Int32) (r : Int32) (σ : Nat → Nat → Int32) (τ : Nat → Nat → Int64) : Prop := Rg σ ∧ Fr L_X0_callOath σ0 σ ∧ FrL LL_X0_callOath τ0 τ ∧ (0 ≤ r.toInt ∧ r.toInt ≤ 4)
set_option maxHeartbeats 4000000 in
theorem c_X0_callOath (l : Launch) (D : va_G) (cA : Nat → ClassId) (ad : Nat → Nat) (hI : Inj ad) (σ0 : Nat → Nat → Int32) (τ0 : Nat → Nat → Int64) (hR : Rg σ0) (k1 : Nat) (a2 : Int32) (a3 : Int32) (hk1 : 7 ≤ k1 ∧ k1 ≤ 9) (ha2 : 0 ≤ a2.toInt ∧ a2.toInt ≤ 7) (ha3 : 0 ≤ a3.toInt ∧ a3.toInt ≤ 7) : Met l yX0_callOath wsX0_callOath ({ frames := 4, cells := 0, slots := 0, locals := 95 } : Room) (WQc D cA ad [.ref (ad 22), .ref (ad k1), .int a2, .int a3] σ0 τ0) (va_Qi (fun (r : Int32) (u : SS) => P_X0_callOath σ0 τ0 k1 a2 a3 r u.1 u.2) (WB D cA ad) (AA ad)) 0 0 (AA ad) := by
  refine Met.ofW (cc := cX0_callOath) (maxL := 5) (ret := (some .int)) (by decide) rfl ?_
  intro p e s m args below meth c s₁ B hml hv
  obtain ⟨rfl, hP, hK, hN⟩ := hv
  have C : Cy p s m _ meth c cX0_callOath 5 wsX0_callOath RX0 D cA ad (some .int) := ⟨B.exec, B.bytes, hml, findClass_of_methodNamed B.named, atoms_spec (ws := wsX0_callOath) B.pre, hK, B.notSynchronized, B.returns, hI, hN⟩
  have hl := lv_entry ([.ref (ad 22), .ref (ad k1), .int a2, .int a3]) (n := 5) (Nat.le_of_ble_eq_true rfl)
  rw [lg_entry_eq]
  generalize (lg_sl ([.ref (ad 22), .ref (ad k1), .int a2, .int a3]) ++ List.replicate (5 - (lg_sl ([.ref (ad 22), .ref (ad k1), .int a2, .int a3])).length) Slot.unset).toArray = ls at hl ⊢
  have hl : lv_has ls 5 [(0, .ref (ad 22)), (1, .ref (ad k1)), (2, .int a2), (3, .int a3)] := hl
  have hS : va_S (AA ad) s.heap s.heap [] := va_S.rf
  have hF : Fr L_X0_callOath σ0 σ0 := Fr.rf
  have hFL : FrL LL_X0_callOath τ0 τ0 := FrL.rf
  obtain ⟨hx, hb, _, hown, hts, _, hk, hr, _, _⟩ := C
  refine lv_aload_n hx hb dX0_callOath_0 rfl (lv_at hl 0 rfl) ?_
  refine lv_aload_n hx hb dX0_callOath_1 rfl (lv_at hl 1 rfl) ?_
  refine lv_iload_n hx hb dX0_callOath_2 rfl (lv_at hl 2 rfl) ?_
  refine lv_iload_n hx hb dX0_callOath_3 rfl (lv_at hl 3 rfl) ?_
  refine r_cVi (k := 22) (As := [.ref (ad k1), .int a2, .int a3]) (rest := []) ⟨hx, hb, hml, hown, hts⟩ hK hP hN hS (c_X0_whyNotCalled l D cA ad hI σ0 τ0 hR k1 a2 a3 ⟨by omega, by omega⟩ (by omega) (by omega)) (cwV 3 hts gX0_callOath_X0_whyNotCalled rfl rfl rfl (by decide +kernel) ⟨by decide, by decide⟩) (rv_Acts hK hP (by decide) (by decide)) rfl hl.1 rfl (Nat.le_of_ble_eq_true rfl) dX0_callOath_4 (Nat.zero_le _) (Nat.zero_le _) (fun r1 u1 H1 locs1 hp1 hP hS => ?_)
  obtain ⟨σ1, τ1⟩ := u1
  obtain ⟨hR, f1, fL1, hq1, hp1_0, hp1_1⟩ : P_X0_whyNotCalled σ0 τ0 k1 a2 a3 r1 σ1 τ1 := hp1
  have hz0 := hp1_0
  have hz1 := hp1_1
  have hP : va_P D vwCl (gw cA ad σ1 τ1) H1 := hP
  obtain rfl := FrL.nil fL1
  have hF := hF.step f1 (by decide)
  refine lv_istore (lv' := [(4, .int r1), (0, .ref (ad 22)), (1, .ref (ad k1)), (2, .int a2), (3, .int a3)]) hx hb dX0_callOath_7 hl (by decide) rfl (fun ls hl => ?_)
  refine lv_iload hx hb dX0_callOath_9 (lv_at hl 0 rfl) ?_
  refine r_if_eq (tgt := 17) hx hb dX0_callOath_11 (by decide) (fun c2 => ?_) (fun c2 => ?_)
  · refine lv_aload_n hx hb dX0_callOath_17 rfl (lv_at hl 1 rfl) ?_
    refine fg_0_1 (k := 22) hx hb hts in_X0_callOath_0 hown hK hP (by decide) (by decide) (hts _ lk_X0_callOath_15) dX0_callOath_18 ?_
    refine lv_aload_n hx hb dX0_callOath_21 rfl (lv_at hl 2 rfl) ?_
    refine fgN_2_1 (k := k1) hx hb hts in_X0_callOath_2 hown hK hP (by omega) (by omega) (hN.use nw_0_19) dX0_callOath_22 ?_
    refine lv_aload_n hx hb dX0_callOath_25 rfl (lv_at hl 2 rfl) ?_
    refine fgN_2_5 (k := k1) hx hb hts in_X0_callOath_2 hown hK hP (by omega) (by omega) (hN.use nw_0_55) dX0_callOath_26 ?_
    refine lv_iload_n hx hb dX0_callOath_29 rfl (lv_at hl 4 rfl) ?_
    obtain ⟨j3, ej3⟩ : ∃ j : Nat, a3.toInt = (j : Int) := ⟨_, ti_nat (by omega)⟩
    refine ad_days8 (k := k1 + 327) (j := j3) hx hb hK hP (by omega) (by omega) ej3 (by omega) dX0_callOath_30 ?_
    have hz2 := hz1 j3 ej3 (by omega)
    refine r_cVi (k := 21) (As := [.int (σ1 k1 1), .int (σ1 (k1 + 327) j3)]) (rest := []) ⟨hx, hb, hml, hown, hts⟩ hK hP hN hS (c_X1_hearers l D cA ad hI σ1 τ0 hR (σ1 k1 1) (σ1 (k1 + 327) j3) (by omega) (by omega)) (cwV 2 hts gX0_callOath_X1_hearers rfl rfl rfl (by decide +kernel) ⟨by decide, by decide⟩) (rv_Camp hK hP (by decide) (by decide)) rfl hl.1 rfl (Nat.le_of_ble_eq_true rfl) dX0_callOath_31 (Nat.zero_le _) (Nat.zero_le _) (fun r4 u4 H4 locs4 hp4 hP hS => ?_)
    obtain ⟨σ4, τ4⟩ := u4
    obtain ⟨hR, f4, fL4⟩ : P_X1_hearers σ1 τ0 (σ1 k1 1) (σ1 (k1 + 327) j3) r4 σ4 τ4 := hp4
    have hP : va_P D vwCl (gw cA ad σ4 τ4) H4 := hP
    obtain rfl := FrL.nil fL4
    obtain rfl := Fr.nil f4
    refine lv_iload_n hx hb dX0_callOath_34 rfl (lv_at hl 4 rfl) ?_
    refine r_ishrU hx hb dX0_callOath_35 (fun z5 => ?_)
    refine r_iconst hx hb dX0_callOath_36 (by decide) (fun z6 ez6 => ?_)
    refine r_iand (w := 1) hx hb 1 dX0_callOath_37 (by omega) (by decide) (fun z7 ez7 => ?_)
    refine r_iconst hx hb dX0_callOath_38 (by decide) (fun z8 ez8 => ?_)
    refine r_icmp_ne (tgt := 55) hx hb dX0_callOath_39 (by decide) (fun c9 => ?_) (fun c9 => ?_)
    · refine lv_aload_n hx hb dX0_callOath_55 rfl (lv_at hl 2 rfl) ?_
      refine fgN_2_5 (k := k1) hx hb hts in_X0_callOath_2 hown hK hP (by omega) (by omega) (hN.use nw_0_55) dX0_callOath_56 ?_
      refine lv_iload_n hx hb dX0_callOath_59 rfl (lv_at hl 4 rfl) ?_
      refine r_iconst hx hb dX0_callOath_60 (by decide) (fun z10 ez10 => ?_)
      refine as_days8 (k := k1 + 327) (j := j3) hx hb hK hP hI hR hS (by omega) (by omega) ej3 (by omega) dX0_callOath_61 (fun σ11 H11 locs11 u11 v11 hR hP hS => ?_)
      have hF := hF.puts u11 0 rfl (by omega) (by omega) (by omega) (by omega)
      have t12 : (σ11 k1 1).toInt = (σ1 k1 1).toInt := congrArg Int32.toInt (u11 k1 1 (by omega))
      refine r_iconst hx hb dX0_callOath_62 (by decide) (fun z13 ez13 => ?_)
      exact r_iret hx hb hr hK hP hS hk dX0_callOath_63 (show P_X0_callOath σ0 τ0 k1 a2 a3 z13 σ11 τ0 from ⟨hR, hF, hFL, by omega⟩)
    · refine lv_aload_n hx hb dX0_callOath_42 rfl (lv_at hl 2 rfl) ?_
      refine fgN_2_4 (k := k1) hx hb hts in_X0_callOath_2 hown hK hP (by omega) (by omega) (hN.use nw_0_58) dX0_callOath_43 ?_
      refine lv_iload_n hx hb dX0_callOath_46 rfl (lv_at hl 3 rfl) ?_
      refine lv_dup2_11 hx hb dX0_callOath_47 rfl rfl ?_
      obtain ⟨j14, ej14⟩ : ∃ j : Nat, a2.toInt = (j : Int) := ⟨_, ti_nat (by omega)⟩
      refine ad_days8 (k := k1 + 314) (j := j14) hx hb hK hP (by omega) (by omega) ej14 (by omega) dX0_callOath_48 ?_
      refine r_iconst hx hb dX0_callOath_49 (by decide) (fun z15 ez15 => ?_)
      refine r_isubU hx hb dX0_callOath_50 (fun z16 => ?_)
      refine as_days8 (k := k1 + 314) (j := j14) hx hb hK hP hI hR hS (by omega) (by omega) ej14 (by omega) dX0_callOath_51 (fun σ17 H17 locs17 u17 v17 hR hP hS => ?_)
      have hF := hF.puts u17 1 rfl (by omega) (by omega) (by omega) (by omega)
      have t18 : (σ17 k1 1).toInt = (σ1 k1 1).toInt := congrArg Int32.toInt (u17 k1 1 (by omega))
      refine lv_goto (tgt := 62) hx hb dX0_callOath_52 (by decide) ?_
      refine r_iconst hx hb dX0_callOath_62 (by decide) (fun z19 ez19 => ?_)
      exact r_iret hx hb hr hK hP hS hk dX0_callOath_63 (show P_X0_callOath σ0 τ0 k1 a2 a3 z19 σ17 τ0 from ⟨hR, hF, hFL, by omega⟩)
  · refine lv_iload hx hb dX0_callOath_14 (lv_at hl 0 rfl) ?_
    exact r_iret hx hb hr hK hP hS hk dX0_callOath_16 (show P_X0_callOath σ0 τ0 k1 a2 a3 r1 σ1 τ0 from ⟨hR, hF, hFL, by omega⟩)
theorem in_X1_sideOfShare_1 : ∀ w ∈ u_ws RX1 TX1 9, w ∈ wsX1_sideOfShare := by decide +kernel
theorem lk_X1_sideOfShare_30 : Cond.fieldLink RX1 30 "CuckooShares$Camp" "sharers" "[I" ∈ wsX1_sideOfShare := by decide +kernel
abbrev L_X1_sideOfShare : List Rc := []
abbrev LL_X1_sideOfShare : List Rc := []
def P_X1_sideOfShare (σ0 : Nat → Nat → Int32) (τ0 : Nat → Nat → Int64) (a1 : Int32) (r : Int32) (σ : Nat → Nat → Int32) (τ : Nat → Nat → Int64) : Prop := Rg σ ∧ Fr L_X1_sideOfShare σ0 σ ∧ FrL LL_X1_sideOfShare τ0 τ ∧ (-1 ≤ r.toInt ∧ r.toInt ≤ 1)
set_option maxHeartbeats 4000000 in
theorem c_X1_sideOfShare (l : Launch) (D : va_G) (cA : Nat → ClassId) (ad : Nat → Nat) (hI : Inj ad) (σ0 : Nat → Nat → Int32) (τ0 : Nat → Nat → Int64) (hR : Rg σ0) (a1 : Int32) (ha1 : 0 ≤ a1.toInt ∧ a1.toInt ≤ 7) : Met l yX1_sideOfShare wsX1_sideOfShare ({ frames := 0, cells := 0, slots := 0, locals := 0 } : Room) (WQc D cA ad [.ref (ad 21), .int a1] σ0 τ0) (va_Qi (fun (r : Int32) (u : SS) => P_X1_sideOfShare σ0 τ0 a1 r u.1 u.2) (WB D cA ad) (AA ad)) 0 0 (AA ad) := by
  refine Met.ofW (cc := cX1_sideOfShare) (maxL := 2) (ret := (some .int)) (by decide) rfl ?_
  intro p e s m args below meth c s₁ B hml hv
  obtain ⟨rfl, hP, hK, hN⟩ := hv
  have C : Cy p s m _ meth c cX1_sideOfShare 2 wsX1_sideOfShare RX1 D cA ad (some .int) := ⟨B.exec, B.bytes, hml, findClass_of_methodNamed B.named, atoms_spec (ws := wsX1_sideOfShare) B.pre, hK, B.notSynchronized, B.returns, hI, hN⟩
  have hl := lv_entry ([.ref (ad 21), .int a1]) (n := 2) (Nat.le_of_ble_eq_true rfl)
  rw [lg_entry_eq]
  generalize (lg_sl ([.ref (ad 21), .int a1]) ++ List.replicate (2 - (lg_sl ([.ref (ad 21), .int a1])).length) Slot.unset).toArray = ls at hl ⊢
  have hl : lv_has ls 2 [(0, .ref (ad 21)), (1, .int a1)] := hl
  have hS : va_S (AA ad) s.heap s.heap [] := va_S.rf
  have hF : Fr L_X1_sideOfShare σ0 σ0 := Fr.rf
  have hFL : FrL LL_X1_sideOfShare τ0 τ0 := FrL.rf
  obtain ⟨hx, hb, _, hown, hts, _, hk, hr, _, _⟩ := C
  refine lv_aload_n hx hb dX1_sideOfShare_0 rfl (lv_at hl 0 rfl) ?_
  refine fg_1_7 (k := 21) hx hb hts in_X1_sideOfShare_1 hown hK hP (by decide) (by decide) (hts _ lk_X1_sideOfShare_30) dX1_sideOfShare_1 ?_
  refine r_iconst hx hb dX1_sideOfShare_4 (by decide) (fun z1 ez1 => ?_)
  refine ad_two (k := 366) (j := 0) hx hb hK hP (by decide) (by decide) (by omega) (by omega) dX1_sideOfShare_5 ?_
  refine lv_iload_n hx hb dX1_sideOfShare_6 rfl (lv_at hl 1 rfl) ?_
  refine r_ishrU hx hb dX1_sideOfShare_7 (fun z2 => ?_)
  refine r_iconst hx hb dX1_sideOfShare_8 (by decide) (fun z3 ez3 => ?_)
  refine r_iand (w := 1) hx hb 1 dX1_sideOfShare_9 (by omega) (by decide) (fun z4 ez4 => ?_)
  refine r_iconst hx hb dX1_sideOfShare_10 (by decide) (fun z5 ez5 => ?_)
  refine r_icmp_ne (tgt := 16) hx hb dX1_sideOfShare_11 (by decide) (fun c6 => ?_) (fun c6 => ?_)
  · refine lv_aload_n hx hb dX1_sideOfShare_16 rfl (lv_at hl 0 rfl) ?_
    refine fg_1_7 (k := 21) hx hb hts in_X1_sideOfShare_1 hown hK hP (by decide) (by decide) (hts _ lk_X1_sideOfShare_30) dX1_sideOfShare_17 ?_
    refine r_iconst hx hb dX1_sideOfShare_20 (by decide) (fun z7 ez7 => ?_)
    refine ad_two (k := 366) (j := 1) hx hb hK hP (by decide) (by decide) (by omega) (by omega) dX1_sideOfShare_21 ?_
    refine lv_iload_n hx hb dX1_sideOfShare_22 rfl (lv_at hl 1 rfl) ?_
    refine r_ishrU hx hb dX1_sideOfShare_23 (fun z8 => ?_)
    refine r_iconst hx hb dX1_sideOfShare_24 (by decide) (fun z9 ez9 => ?_)
    refine r_iand (w := 1) hx hb 1 dX1_sideOfShare_25 (by omega) (by decide) (fun z10 ez10 => ?_)
    refine r_iconst hx hb dX1_sideOfShare_26 (by decide) (fun z11 ez11 => ?_)
    refine r_icmp_ne (tgt := 34) hx hb dX1_sideOfShare_27 (by decide) (fun c12 => ?_) (fun c12 => ?_)
    · refine r_iconst hx hb dX1_sideOfShare_34 (by decide) (fun z13 ez13 => ?_)
      exact r_iret hx hb hr hK hP hS hk dX1_sideOfShare_35 (show P_X1_sideOfShare σ0 τ0 a1 z13 σ0 τ0 from ⟨hR, hF, hFL, by omega⟩)
    · refine r_iconst hx hb dX1_sideOfShare_30 (by decide) (fun z14 ez14 => ?_)
      refine lv_goto (tgt := 35) hx hb dX1_sideOfShare_31 (by decide) ?_
      exact r_iret hx hb hr hK hP hS hk dX1_sideOfShare_35 (show P_X1_sideOfShare σ0 τ0 a1 z14 σ0 τ0 from ⟨hR, hF, hFL, by omega⟩)
  · refine r_iconst hx hb dX1_sideOfShare_14 (by decide) (fun z15 ez15 => ?_)
    exact r_iret hx hb hr hK hP hS hk dX1_sideOfShare_15 (show P_X1_sideOfShare σ0 τ0 a1 z15 σ0 τ0 from ⟨hR, hF, hFL, by omega⟩)
theorem in_X9_weight_9 : ∀ w ∈ u_ws RX9 TX9 14, w ∈ wsX9_weight := by decide +kernel
theorem lk_X9_weight_23 : Cond.fieldLink RX9 23 "CuckooShares$Valley" "man" "[[I" ∈ wsX9_weight := by decide +kernel
abbrev L_X9_weight : List Rc := []
abbrev LL_X9_weight : List Rc := []
def P_X9_weight (σ0 : Nat → Nat → Int32) (τ0 : Nat → Nat → Int64) (a1 : Int32) (r : Int32) (σ : Nat → Nat → Int32) (τ : Nat → Nat → Int64) : Prop := Rg σ ∧ Fr L_X9_weight σ0 σ ∧ FrL LL_X9_weight τ0 τ ∧ (1 ≤ r.toInt ∧ r.toInt ≤ 3)
set_option maxHeartbeats 4000000 in
theorem c_X9_weight (l : Launch) (D : va_G) (cA : Nat → ClassId) (ad : Nat → Nat) (hI : Inj ad) (σ0 : Nat → Nat → Int32) (τ0 : Nat → Nat → Int64) (hR : Rg σ0) (a1 : Int32) (ha1 : 0 ≤ a1.toInt ∧ a1.toInt ≤ 7) : Met l yX9_weight wsX9_weight ({ frames := 0, cells := 0, slots := 0, locals := 0 } : Room) (WQc D cA ad [.ref (ad 2), .int a1] σ0 τ0) (va_Qi (fun (r : Int32) (u : SS) => P_X9_weight σ0 τ0 a1 r u.1 u.2) (WB D cA ad) (AA ad)) 0 0 (AA ad) := by
  refine Met.ofW (cc := cX9_weight) (maxL := 2) (ret := (some .int)) (by decide) rfl ?_
  intro p e s m args below meth c s₁ B hml hv
  obtain ⟨rfl, hP, hK, hN⟩ := hv
  have C : Cy p s m _ meth c cX9_weight 2 wsX9_weight RX9 D cA ad (some .int) := ⟨B.exec, B.bytes, hml, findClass_of_methodNamed B.named, atoms_spec (ws := wsX9_weight) B.pre, hK, B.notSynchronized, B.returns, hI, hN⟩
  have hl := lv_entry ([.ref (ad 2), .int a1]) (n := 2) (Nat.le_of_ble_eq_true rfl)
  rw [lg_entry_eq]
  generalize (lg_sl ([.ref (ad 2), .int a1]) ++ List.replicate (2 - (lg_sl ([.ref (ad 2), .int a1])).length) Slot.unset).toArray = ls at hl ⊢
  have hl : lv_has ls 2 [(0, .ref (ad 2)), (1, .int a1)] := hl
  have hS : va_S (AA ad) s.heap s.heap [] := va_S.rf
  have hF : Fr L_X9_weight σ0 σ0 := Fr.rf
  have hFL : FrL LL_X9_weight τ0 τ0 := FrL.rf
  obtain ⟨hx, hb, _, hown, hts, _, hk, hr, _, _⟩ := C
  refine lv_aload_n hx hb dX9_weight_0 rfl (lv_at hl 0 rfl) ?_
  refine fg_9_10 (k := 2) hx hb hts in_X9_weight_9 hown hK hP (by decide) (by decide) (hts _ lk_X9_weight_23) dX9_weight_1 ?_
  refine lv_iload_n hx hb dX9_weight_4 rfl (lv_at hl 1 rfl) ?_
  obtain ⟨j1, ej1⟩ : ∃ j : Nat, a1.toInt = (j : Int) := ⟨_, ti_nat (by omega)⟩
  refine ad_manA (k := 52) (j := j1) hx hb hK hP (by decide) (by decide) ej1 (by omega) dX9_weight_5 ?_
  refine r_iconst hx hb dX9_weight_6 (by decide) (fun z2 ez2 => ?_)
  refine ad_manR (k := 100 + j1) (j := 3) hx hb hK hP (by omega) (by omega) (by omega) (by omega) dX9_weight_7 ?_
  refine r_iconst hx hb dX9_weight_8 (by decide) (fun z3 ez3 => ?_)
  refine r_icmp_ne (tgt := 16) hx hb dX9_weight_9 (by decide) (fun c4 => ?_) (fun c4 => ?_)
  · refine r_iconst hx hb dX9_weight_16 (by decide) (fun z5 ez5 => ?_)
    exact r_iret hx hb hr hK hP hS hk dX9_weight_17 (show P_X9_weight σ0 τ0 a1 z5 σ0 τ0 from ⟨hR, hF, hFL, by omega⟩)
  · refine r_iconst hx hb dX9_weight_12 (by decide) (fun z6 ez6 => ?_)
    refine lv_goto (tgt := 17) hx hb dX9_weight_13 (by decide) ?_
    exact r_iret hx hb hr hK hP hS hk dX9_weight_17 (show P_X9_weight σ0 τ0 a1 z6 σ0 τ0 from ⟨hR, hF, hFL, by omega⟩)
theorem in_X1_portion_1 : ∀ w ∈ u_ws RX1 TX1 9, w ∈ wsX1_portion := by decide +kernel
theorem lk_X1_portion_27 : Cond.fieldLink RX1 27 "CuckooShares$Camp" "shareCall" "[I" ∈ wsX1_portion := by decide +kernel
theorem lk_X1_portion_33 : Cond.fieldLink RX1 33 "CuckooShares$Camp" "weights" "[I" ∈ wsX1_portion := by decide +kernel
theorem lk_X1_portion_36 : Cond.fieldLink RX1 36 "CuckooShares$Camp" "valley" "LCuckooShares$Valley;" ∈ wsX1_portion := by decide +kernel
abbrev L_X1_portion : List Rc := []
abbrev LL_X1_portion : List Rc := []
def P_X1_portion (σ0 : Nat → Nat → Int32) (τ0 : Nat → Nat → Int64) (a1 : Int32) (a2 : Int32) (r : Int32) (σ : Nat → Nat → Int32) (τ : Nat → Nat → Int64) : Prop := Rg σ ∧ Fr L_X1_portion σ0 σ ∧ FrL LL_X1_portion τ0 τ
set_option maxHeartbeats 4000000 in
theorem c_X1_portion (l : Launch) (D : va_G) (cA : Nat → ClassId) (ad : Nat → Nat) (hI : Inj ad) (σ0 : Nat → Nat → Int32) (τ0 : Nat → Nat → Int64) (hR : Rg σ0) (a1 : Int32) (a2 : Int32) (ha1 : 0 ≤ a1.toInt ∧ a1.toInt ≤ 7) : Met l yX1_portion wsX1_portion ({ frames := 1, cells := 0, slots := 0, locals := 21 } : Room) (WQc D cA ad [.ref (ad 21), .int a1, .int a2] σ0 τ0) (va_Qi (fun (r : Int32) (u : SS) => P_X1_portion σ0 τ0 a1 a2 r u.1 u.2) (WB D cA ad) (AA ad)) 0 0 (AA ad) := by
  refine Met.ofW (cc := cX1_portion) (maxL := 5) (ret := (some .int)) (by decide) rfl ?_
  intro p e s m args below meth c s₁ B hml hv
  obtain ⟨rfl, hP, hK, hN⟩ := hv
  have C : Cy p s m _ meth c cX1_portion 5 wsX1_portion RX1 D cA ad (some .int) := ⟨B.exec, B.bytes, hml, findClass_of_methodNamed B.named, atoms_spec (ws := wsX1_portion) B.pre, hK, B.notSynchronized, B.returns, hI, hN⟩
  have hl := lv_entry ([.ref (ad 21), .int a1, .int a2]) (n := 5) (Nat.le_of_ble_eq_true rfl)
  rw [lg_entry_eq]
  generalize (lg_sl ([.ref (ad 21), .int a1, .int a2]) ++ List.replicate (5 - (lg_sl ([.ref (ad 21), .int a1, .int a2])).length) Slot.unset).toArray = ls at hl ⊢
  have hl : lv_has ls 5 [(0, .ref (ad 21)), (1, .int a1), (2, .int a2)] := hl
  have hS : va_S (AA ad) s.heap s.heap [] := va_S.rf
  have hF : Fr L_X1_portion σ0 σ0 := Fr.rf
  have hFL : FrL LL_X1_portion τ0 τ0 := FrL.rf
  obtain ⟨hx, hb, _, hown, hts, _, hk, hr, _, _⟩ := C
  refine lv_aload_n hx hb dX1_portion_0 rfl (lv_at hl 0 rfl) ?_
  refine lv_iload_n hx hb dX1_portion_1 rfl (lv_at hl 1 rfl) ?_
  refine r_cVi (k := 21) (As := [.int a1]) (rest := []) ⟨hx, hb, hml, hown, hts⟩ hK hP hN hS (c_X1_sideOfShare l D cA ad hI σ0 τ0 hR a1 (by omega)) (cwV 1 hts gX1_portion_X1_sideOfShare rfl rfl rfl (by decide +kernel) ⟨by decide, by decide⟩) (rv_Camp hK hP (by decide) (by decide)) rfl hl.1 rfl (Nat.le_of_ble_eq_true rfl) dX1_portion_2 (Nat.zero_le _) (Nat.zero_le _) (fun r1 u1 H1 locs1 hp1 hP hS => ?_)
  obtain ⟨σ1, τ1⟩ := u1
  obtain ⟨hR, f1, fL1, hq1⟩ : P_X1_sideOfShare σ0 τ0 a1 r1 σ1 τ1 := hp1
  have hP : va_P D vwCl (gw cA ad σ1 τ1) H1 := hP
  obtain rfl := FrL.nil fL1
  obtain rfl := Fr.nil f1
  refine lv_istore_n (lv' := [(3, .int r1), (0, .ref (ad 21)), (1, .int a1), (2, .int a2)]) hx hb dX1_portion_5 rfl hl (by decide) rfl (fun ls hl => ?_)
  refine lv_iload_n hx hb dX1_portion_6 rfl (lv_at hl 0 rfl) ?_
  refine r_iconst hx hb dX1_portion_7 (by decide) (fun z2 ez2 => ?_)
  refine r_icmp_eq (tgt := 20) hx hb dX1_portion_8 (by decide) (fun c3 => ?_) (fun c3 => ?_)
  · refine r_iconst hx hb dX1_portion_20 (by decide) (fun z4 ez4 => ?_)
    exact r_iret hx hb hr hK hP hS hk dX1_portion_21 (show P_X1_portion σ0 τ0 a1 a2 z4 σ0 τ0 from ⟨hR, hF, hFL⟩)
  · refine lv_aload_n hx hb dX1_portion_11 rfl (lv_at hl 1 rfl) ?_
    refine fg_1_8 (k := 21) hx hb hts in_X1_portion_1 hown hK hP (by decide) (by decide) (hts _ lk_X1_portion_33) dX1_portion_12 ?_
    refine lv_iload_n hx hb dX1_portion_15 rfl (lv_at hl 0 rfl) ?_
    obtain ⟨j5, ej5⟩ : ∃ j : Nat, r1.toInt = (j : Int) := ⟨_, ti_nat (by omega)⟩
    refine ad_two (k := 367) (j := j5) hx hb hK hP (by decide) (by decide) ej5 (by omega) dX1_portion_16 ?_
    refine r_if_ne (tgt := 22) hx hb dX1_portion_17 (by decide) (fun c6 => ?_) (fun c6 => ?_)
    · refine lv_aload_n hx hb dX1_portion_22 rfl (lv_at hl 1 rfl) ?_
      refine fg_1_6 (k := 21) hx hb hts in_X1_portion_1 hown hK hP (by decide) (by decide) (hts _ lk_X1_portion_27) dX1_portion_23 ?_
      refine lv_iload_n hx hb dX1_portion_26 rfl (lv_at hl 0 rfl) ?_
      refine ad_two (k := 365) (j := j5) hx hb hK hP (by decide) (by decide) ej5 (by omega) dX1_portion_27 ?_
      refine r_bipush hx hb dX1_portion_28 (by decide) (fun z7 ez7 => ?_)
      refine r_icmp_ne (tgt := 39) hx hb dX1_portion_30 (by decide) (fun c8 => ?_) (fun c8 => ?_)
      · refine lv_iload_n hx hb dX1_portion_39 rfl (lv_at hl 3 rfl) ?_
        refine lv_istore (lv' := [(4, .int a2), (3, .int r1), (0, .ref (ad 21)), (1, .int a1), (2, .int a2)]) hx hb dX1_portion_40 hl (by decide) rfl (fun ls hl => ?_)
        refine lv_iload hx hb dX1_portion_42 (lv_at hl 0 rfl) ?_
        refine lv_aload_n hx hb dX1_portion_44 rfl (lv_at hl 2 rfl) ?_
        refine fg_1_0 (k := 21) hx hb hts in_X1_portion_1 hown hK hP (by decide) (by decide) (hts _ lk_X1_portion_36) dX1_portion_45 ?_
        refine lv_iload_n hx hb dX1_portion_48 rfl (lv_at hl 3 rfl) ?_
        refine r_cVi (k := 2) (As := [.int a1]) (rest := [.int a2]) ⟨hx, hb, hml, hown, hts⟩ hK hP hN hS (c_X9_weight l D cA ad hI σ0 τ0 hR a1 (by omega)) (cwV 1 hts gX1_portion_X9_weight rfl rfl rfl (by decide +kernel) ⟨by decide, by decide⟩) (rv_Valley hK hP (by decide) (by decide)) rfl hl.1 rfl (Nat.le_of_ble_eq_true rfl) dX1_portion_49 (Nat.zero_le _) (Nat.zero_le _) (fun r9 u9 H9 locs9 hp9 hP hS => ?_)
        obtain ⟨σ9, τ9⟩ := u9
        obtain ⟨hR, f9, fL9, hq9⟩ : P_X9_weight σ0 τ0 a1 r9 σ9 τ9 := hp9
        have hP : va_P D vwCl (gw cA ad σ9 τ9) H9 := hP
        obtain rfl := FrL.nil fL9
        obtain rfl := Fr.nil f9
        refine r_imulU hx hb dX1_portion_52 (fun z10 => ?_)
        refine lv_aload_n hx hb dX1_portion_53 rfl (lv_at hl 2 rfl) ?_
        refine fg_1_8 (k := 21) hx hb hts in_X1_portion_1 hown hK hP (by decide) (by decide) (hts _ lk_X1_portion_33) dX1_portion_54 ?_
        refine lv_iload_n hx hb dX1_portion_57 rfl (lv_at hl 1 rfl) ?_
        refine ad_two (k := 367) (j := j5) hx hb hK hP (by decide) (by decide) ej5 (by omega) dX1_portion_58 ?_
        refine r_idiv hx hb dX1_portion_59 (by omega) (fun z11 => ?_)
        exact r_iret hx hb hr hK hP hS hk dX1_portion_60 (show P_X1_portion σ0 τ0 a1 a2 z11 σ0 τ0 from ⟨hR, hF, hFL⟩)
      · refine lv_iload_n hx hb dX1_portion_33 rfl (lv_at hl 3 rfl) ?_
        refine r_iconst hx hb dX1_portion_34 (by decide) (fun z12 ez12 => ?_)
        refine r_idiv hx hb dX1_portion_35 (by omega) (fun z13 => ?_)
        refine lv_goto (tgt := 40) hx hb dX1_portion_36 (by decide) ?_
        refine lv_istore (lv' := [(4, .int z13), (3, .int r1), (0, .ref (ad 21)), (1, .int a1), (2, .int a2)]) hx hb dX1_portion_40 hl (by decide) rfl (fun ls hl => ?_)
        refine lv_iload hx hb dX1_portion_42 (lv_at hl 0 rfl) ?_
        refine lv_aload_n hx hb dX1_portion_44 rfl (lv_at hl 2 rfl) ?_
        refine fg_1_0 (k := 21) hx hb hts in_X1_portion_1 hown hK hP (by decide) (by decide) (hts _ lk_X1_portion_36) dX1_portion_45 ?_
        refine lv_iload_n hx hb dX1_portion_48 rfl (lv_at hl 3 rfl) ?_
        refine r_cVi (k := 2) (As := [.int a1]) (rest := [.int z13]) ⟨hx, hb, hml, hown, hts⟩ hK hP hN hS (c_X9_weight l D cA ad hI σ0 τ0 hR a1 (by omega)) (cwV 1 hts gX1_portion_X9_weight rfl rfl rfl (by decide +kernel) ⟨by decide, by decide⟩) (rv_Valley hK hP (by decide) (by decide)) rfl hl.1 rfl (Nat.le_of_ble_eq_true rfl) dX1_portion_49 (Nat.zero_le _) (Nat.zero_le _) (fun r14 u14 H14 locs14 hp14 hP hS => ?_)
        obtain ⟨σ14, τ14⟩ := u14
        obtain ⟨hR, f14, fL14, hq14⟩ : P_X9_weight σ0 τ0 a1 r14 σ14 τ14 := hp14
        have hP : va_P D vwCl (gw cA ad σ14 τ14) H14 := hP
        obtain rfl := FrL.nil fL14
        obtain rfl := Fr.nil f14
        refine r_imulU hx hb dX1_portion_52 (fun z15 => ?_)
        refine lv_aload_n hx hb dX1_portion_53 rfl (lv_at hl 2 rfl) ?_
        refine fg_1_8 (k := 21) hx hb hts in_X1_portion_1 hown hK hP (by decide) (by decide) (hts _ lk_X1_portion_33) dX1_portion_54 ?_
        refine lv_iload_n hx hb dX1_portion_57 rfl (lv_at hl 1 rfl) ?_
        refine ad_two (k := 367) (j := j5) hx hb hK hP (by decide) (by decide) ej5 (by omega) dX1_portion_58 ?_
        refine r_idiv hx hb dX1_portion_59 (by omega) (fun z16 => ?_)
        exact r_iret hx hb hr hK hP hS hk dX1_portion_60 (show P_X1_portion σ0 τ0 a1 a2 z16 σ0 τ0 from ⟨hR, hF, hFL⟩)
    · refine r_iconst hx hb dX1_portion_20 (by decide) (fun z17 ez17 => ?_)
      exact r_iret hx hb hr hK hP hS hk dX1_portion_21 (show P_X1_portion σ0 τ0 a1 a2 z17 σ0 τ0 from ⟨hR, hF, hFL⟩)
theorem in_X2_endYear_2 : ∀ w ∈ u_ws RX2 TX2 7, w ∈ wsX2_endYear := by decide +kernel
theorem lk_X2_endYear_18 : Cond.fieldLink RX2 18 "CuckooShares$Days" "sworn" "[I" ∈ wsX2_endYear := by decide +kernel
theorem lk_X2_endYear_24 : Cond.fieldLink RX2 24 "CuckooShares$Days" "flight" "I" ∈ wsX2_endYear := by decide +kernel
theorem lk_X2_endYear_28 : Cond.fieldLink RX2 28 "CuckooShares$Days" "year" "I" ∈ wsX2_endYear := by decide +kernel
theorem lk_X2_endYear_31 : Cond.fieldLink RX2 31 "CuckooShares$Days" "hour" "I" ∈ wsX2_endYear := by decide +kernel
abbrev L_X2_endYear : List Rc := [(7, 9, 0, 2), (334, 336, 0, 7)]
abbrev LL_X2_endYear : List Rc := []
def P_X2_endYear (σ0 : Nat → Nat → Int32) (τ0 : Nat → Nat → Int64) (k0 : Nat) (a1 : Int32) (σ : Nat → Nat → Int32) (τ : Nat → Nat → Int64) : Prop := Rg σ ∧ Fr L_X2_endYear σ0 σ ∧ FrL LL_X2_endYear τ0 τ
def J_X2_endYear_22 (p : Program) (l : Launch) (e : Env) (s : State) (m : MethodId) (args : Array Value) (below : List Frame) (meth : Method) (c : Code) (D : va_G) (cA : Nat → ClassId) (ad : Nat → Nat) (σ0 : Nat → Nat → Int32) (τ0 : Nat → Nat → Int64) (k0 : Nat) (a1 : Int32) (n : Nat) : Prop := ∀ (σ : Nat → Nat → Int32) (τ : Nat → Nat → Int64) (H : Heap) (locs : List Loc) (x2 : Int32) (ls : Array Slot), Rg σ → Fr L_X2_endYear σ0 σ → FrL LL_X2_endYear τ0 τ → va_P D vwCl (gw cA ad σ τ) H → va_S (AA ad) s.heap H locs → (0 ≤ x2.toInt ∧ x2.toInt ≤ 8) → lv_has ls 3 [(0, .ref (ad k0)), (1, .int a1), (2, .int x2)] → 2 * (8 - x2.toInt) + 1 < (n : Int) → W p l e ({ frames := 0, cells := 0, slots := 0, locals := 0 } : Room) s m args below meth c H locs 0 0 (MQ below (va_Qv (fun u : SS => P_X2_endYear σ0 τ0 k0 a1 u.1 u.2) (WB D cA ad) (AA ad)) args s 0 0 (AA ad)) (F0 m 22 ls [])
set_option maxHeartbeats 4000000 in
theorem B_X2_endYear_22 (p : Program) (l : Launch) (e : Env) (s : State) (m : MethodId) (args : Array Value) (below : List Frame) (meth : Method) (c : Code) (D : va_G) (cA : Nat → ClassId) (ad : Nat → Nat) (σ0 : Nat → Nat → Int32) (τ0 : Nat → Nat → Int64) (k0 : Nat) (a1 : Int32) (n : Nat) (C : Cy p s m args meth c cX2_endYear 3 wsX2_endYear RX2 D cA ad none) (hk0 : 7 ≤ k0 ∧ k0 ≤ 9) (ha1 : 0 ≤ a1.toInt ∧ a1.toInt ≤ 8) (K22 : J_X2_endYear_22 p l e s m args below meth c D cA ad σ0 τ0 k0 a1 n) : J_X2_endYear_22 p l e s m args below meth c D cA ad σ0 τ0 k0 a1 (n + 1) := by
  obtain ⟨hx, hb, hml, hown, hts, hK, hk, hr, hI, hN⟩ := C
  intro σ τ H locs x2 ls hR hF hFL hP hS hc0 hl hm
  obtain rfl := FrL.nil hFL
  refine lv_iload_n hx hb dX2_endYear_22 rfl (lv_at hl 2 rfl) ?_
  refine lv_iload_n hx hb dX2_endYear_23 rfl (lv_at hl 1 rfl) ?_
  refine r_icmp_ge (tgt := 40) hx hb dX2_endYear_24 (by decide) (fun c1 => ?_) (fun c1 => ?_)
  · exact r_vret hx hb hr hK hP hS hk dX2_endYear_40 (show P_X2_endYear σ0 τ0 k0 a1 σ τ0 from ⟨hR, hF, hFL⟩)
  · refine lv_aload_n hx hb dX2_endYear_27 rfl (lv_at hl 0 rfl) ?_
    refine fg_2_5 (k := k0) hx hb hts in_X2_endYear_2 hown hK hP (by omega) (by omega) (hts _ lk_X2_endYear_18) dX2_endYear_28 ?_
    refine lv_iload_n hx hb dX2_endYear_31 rfl (lv_at hl 2 rfl) ?_
    refine r_iconst hx hb dX2_endYear_32 (by decide) (fun z2 ez2 => ?_)
    obtain ⟨j3, ej3⟩ : ∃ j : Nat, x2.toInt = (j : Int) := ⟨_, ti_nat (by omega)⟩
    refine as_days8 (k := k0 + 327) (j := j3) hx hb hK hP hI hR hS (by omega) (by omega) ej3 (by omega) dX2_endYear_33 (fun σ4 H4 locs4 u4 v4 hR hP hS => ?_)
    have hF := hF.puts u4 1 rfl (by omega) (by omega) (by omega) (by omega)
    refine r_iinc (k := 2) (lv1 := fun z5 => [(2, .int z5), (0, .ref (ad k0)), (1, .int a1)]) hx hb dX2_endYear_34 hl rfl (by decide) (fun _ => rfl) (by decide) (by omega) (fun z5 ls ez5 hl => ?_)
    refine lv_goto (tgt := 22) hx hb dX2_endYear_37 (by decide) ?_
    exact K22 σ4 τ0 H4 locs4 z5 ls hR hF hFL hP hS (by omega) (lv_sub hl [1, 2, 0] rfl) (by omega)
theorem A_X2_endYear (p : Program) (l : Launch) (e : Env) (s : State) (m : MethodId) (args : Array Value) (below : List Frame) (meth : Method) (c : Code) (D : va_G) (cA : Nat → ClassId) (ad : Nat → Nat) (σ0 : Nat → Nat → Int32) (τ0 : Nat → Nat → Int64) (k0 : Nat) (a1 : Int32) (C : Cy p s m args meth c cX2_endYear 3 wsX2_endYear RX2 D cA ad none) (hk0 : 7 ≤ k0 ∧ k0 ≤ 9) (ha1 : 0 ≤ a1.toInt ∧ a1.toInt ≤ 8) : ∀ n : Nat, J_X2_endYear_22 p l e s m args below meth c D cA ad σ0 τ0 k0 a1 n := by
  intro n
  induction n with
  | zero =>
    exact (by intro σ τ H locs x2 ls hR hF hFL hP hS hc0 hl hm; exfalso; omega)
  | succ n ih =>
    exact B_X2_endYear_22 p l e s m args below meth c D cA ad σ0 τ0 k0 a1 n C hk0 ha1 ih
set_option maxHeartbeats 4000000 in
theorem c_X2_endYear (l : Launch) (D : va_G) (cA : Nat → ClassId) (ad : Nat → Nat) (hI : Inj ad) (σ0 : Nat → Nat → Int32) (τ0 : Nat → Nat → Int64) (hR : Rg σ0) (k0 : Nat) (a1 : Int32) (hk0 : 7 ≤ k0 ∧ k0 ≤ 9) (ha1 : 0 ≤ a1.toInt ∧ a1.toInt ≤ 8) : Met l yX2_endYear wsX2_endYear ({ frames := 0, cells := 0, slots := 0, locals := 0 } : Room) (WQc D cA ad [.ref (ad k0), .int a1] σ0 τ0) (va_Qv (fun u : SS => P_X2_endYear σ0 τ0 k0 a1 u.1 u.2) (WB D cA ad) (AA ad)) 0 0 (AA ad) := by
  refine Met.ofW (cc := cX2_endYear) (maxL := 3) (ret := none) (by decide) rfl ?_
  intro p e s m args below meth c s₁ B hml hv
  obtain ⟨rfl, hP, hK, hN⟩ := hv
  have C : Cy p s m _ meth c cX2_endYear 3 wsX2_endYear RX2 D cA ad none := ⟨B.exec, B.bytes, hml, findClass_of_methodNamed B.named, atoms_spec (ws := wsX2_endYear) B.pre, hK, B.notSynchronized, B.returns, hI, hN⟩
  have hl := lv_entry ([.ref (ad k0), .int a1]) (n := 3) (Nat.le_of_ble_eq_true rfl)
  rw [lg_entry_eq]
  generalize (lg_sl ([.ref (ad k0), .int a1]) ++ List.replicate (3 - (lg_sl ([.ref (ad k0), .int a1])).length) Slot.unset).toArray = ls at hl ⊢
  have hl : lv_has ls 3 [(0, .ref (ad k0)), (1, .int a1)] := hl
  have hS : va_S (AA ad) s.heap s.heap [] := va_S.rf
  have hF : Fr L_X2_endYear σ0 σ0 := Fr.rf
  have hFL : FrL LL_X2_endYear τ0 τ0 := FrL.rf
  have hA := A_X2_endYear p l e s m _ below meth c D cA ad σ0 τ0 k0 a1 C hk0 ha1 42
  have K22 := hA
  clear hA
  obtain ⟨hx, hb, _, hown, hts, _, hk, hr, _, _⟩ := C
  refine lv_aload_n hx hb dX2_endYear_0 rfl (lv_at hl 0 rfl) ?_
  refine lv_dup hx hb dX2_endYear_1 rfl ?_
  refine fg_2_0 (k := k0) hx hb hts in_X2_endYear_2 hown hK hP (by omega) (by omega) (hts _ lk_X2_endYear_28) dX2_endYear_2 ?_
  refine r_iconst hx hb dX2_endYear_5 (by decide) (fun z1 ez1 => ?_)
  refine r_iaddU hx hb dX2_endYear_6 (fun z2 => ?_)
  refine fp_2_0 (k := k0) hx hb hts in_X2_endYear_2 hown hK hP (by omega) (by omega) (hts _ lk_X2_endYear_28) hI hR hS dX2_endYear_7 (fun σ3 H3 locs3 u3 v3 hR hP hS => ?_)
  have hF := hF.puts u3 0 rfl (by omega) (by omega) (by decide) (by decide)
  refine lv_aload_n hx hb dX2_endYear_10 rfl (lv_at hl 0 rfl) ?_
  refine r_iconst hx hb dX2_endYear_11 (by decide) (fun z4 ez4 => ?_)
  refine fp_2_1 (k := k0) hx hb hts in_X2_endYear_2 hown hK hP (by omega) (by omega) (hts _ lk_X2_endYear_24) hI hR hS dX2_endYear_12 (fun σ5 H5 locs5 u5 v5 hR hP hS => ?_)
  have hF := hF.puts u5 0 rfl (by omega) (by omega) (by decide) (by decide)
  refine lv_aload_n hx hb dX2_endYear_15 rfl (lv_at hl 0 rfl) ?_
  refine r_iconst hx hb dX2_endYear_16 (by decide) (fun z6 ez6 => ?_)
  refine fp_2_2 (k := k0) hx hb hts in_X2_endYear_2 hown hK hP (by omega) (by omega) (hts _ lk_X2_endYear_31) hI hR hS dX2_endYear_17 (fun σ7 H7 locs7 u7 v7 hR hP hS => ?_)
  have hF := hF.puts u7 0 rfl (by omega) (by omega) (by decide) (by decide)
  refine r_iconst hx hb dX2_endYear_20 (by decide) (fun z8 ez8 => ?_)
  refine lv_istore_n (lv' := [(2, .int z8), (0, .ref (ad k0)), (1, .int a1)]) hx hb dX2_endYear_21 rfl hl (by decide) rfl (fun ls hl => ?_)
  exact K22 σ7 τ0 H7 locs7 z8 ls hR hF hFL hP hS (by omega) (lv_sub hl [1, 2, 0] rfl) (by omega)
theorem in_X0_storeAndEnd_0 : ∀ w ∈ u_ws RX0 TX0 3, w ∈ wsX0_storeAndEnd := by decide +kernel
theorem in_X0_storeAndEnd_2 : ∀ w ∈ u_ws RX2 TX2 7, w ∈ wsX0_storeAndEnd := by decide +kernel
theorem in_X0_storeAndEnd_9 : ∀ w ∈ u_ws RX9 TX9 14, w ∈ wsX0_storeAndEnd := by decide +kernel
theorem lk_X0_storeAndEnd_15 : Cond.fieldLink RX0 15 "CuckooShares$Acts" "camp" "LCuckooShares$Camp;" ∈ wsX0_storeAndEnd := by decide +kernel
theorem lk_X0_storeAndEnd_9 : Cond.fieldLink RX0 9 "CuckooShares$Acts" "valley" "LCuckooShares$Valley;" ∈ wsX0_storeAndEnd := by decide +kernel
abbrev L_X0_storeAndEnd : List Rc := [(7, 9, 0, 2), (347, 349, 0, 7), (334, 336, 0, 7)]
abbrev LL_X0_storeAndEnd : List Rc := []
def P_X0_storeAndEnd (σ0 : Nat → Nat → Int32) (τ0 : Nat → Nat → Int64) (k1 : Nat) (σ : Nat → Nat → Int32) (τ : Nat → Nat → Int64) : Prop := Rg σ ∧ Fr L_X0_storeAndEnd σ0 σ ∧ FrL LL_X0_storeAndEnd τ0 τ
def J_X0_storeAndEnd_2 (p : Program) (l : Launch) (e : Env) (s : State) (m : MethodId) (args : Array Value) (below : List Frame) (meth : Method) (c : Code) (D : va_G) (cA : Nat → ClassId) (ad : Nat → Nat) (σ0 : Nat → Nat → Int32) (τ0 : Nat → Nat → Int64) (k1 : Nat) (n : Nat) : Prop := ∀ (σ : Nat → Nat → Int32) (τ : Nat → Nat → Int64) (H : Heap) (locs : List Loc) (x2 : Int32) (ls : Array Slot), Rg σ → Fr L_X0_storeAndEnd σ0 σ → FrL LL_X0_storeAndEnd τ0 τ → va_P D vwCl (gw cA ad σ τ) H → va_S (AA ad) s.heap H locs → (0 ≤ x2.toInt ∧ x2.toInt ≤ 8) → lv_has ls 3 [(0, .ref (ad 22)), (1, .ref (ad k1)), (2, .int x2)] → 2 * (8 - x2.toInt) + 1 < (n : Int) → W p l e ({ frames := 2, cells := 0, slots := 0, locals := 45 } : Room) s m args below meth c H locs 0 0 (MQ below (va_Qv (fun u : SS => P_X0_storeAndEnd σ0 τ0 k1 u.1 u.2) (WB D cA ad) (AA ad)) args s 0 0 (AA ad)) (F0 m 2 ls [])
set_option maxHeartbeats 4000000 in
theorem B_X0_storeAndEnd_2 (p : Program) (l : Launch) (e : Env) (s : State) (m : MethodId) (args : Array Value) (below : List Frame) (meth : Method) (c : Code) (D : va_G) (cA : Nat → ClassId) (ad : Nat → Nat) (σ0 : Nat → Nat → Int32) (τ0 : Nat → Nat → Int64) (k1 : Nat) (n : Nat) (C : Cy p s m args meth c cX0_storeAndEnd 3 wsX0_storeAndEnd RX0 D cA ad none) (hk1 : 7 ≤ k1 ∧ k1 ≤ 9) (K2 : J_X0_storeAndEnd_2 p l e s m args below meth c D cA ad σ0 τ0 k1 n) : J_X0_storeAndEnd_2 p l e s m args below meth c D cA ad σ0 τ0 k1 (n + 1) := by
  obtain ⟨hx, hb, hml, hown, hts, hK, hk, hr, hI, hN⟩ := C
  intro σ τ H locs x2 ls hR hF hFL hP hS hc0 hl hm
  obtain rfl := FrL.nil hFL
  refine lv_iload_n hx hb dX0_storeAndEnd_2 rfl (lv_at hl 2 rfl) ?_
  refine lv_aload_n hx hb dX0_storeAndEnd_3 rfl (lv_at hl 0 rfl) ?_
  refine fg_0_0 (k := 22) hx hb hts in_X0_storeAndEnd_0 hown hK hP (by decide) (by decide) (hts _ lk_X0_storeAndEnd_9) dX0_storeAndEnd_4 ?_
  refine fgN_9_5 (k := 2) hx hb hts in_X0_storeAndEnd_9 hown hK hP (by decide) (by decide) (hN.use nw_0_82) dX0_storeAndEnd_7 ?_
  have hr1 := rg_9_5 hR (k := 2) (by decide) (by decide)
  refine r_icmp_ge (tgt := 43) hx hb dX0_storeAndEnd_10 (by decide) (fun c2 => ?_) (fun c2 => ?_)
  · refine lv_aload_n hx hb dX0_storeAndEnd_43 rfl (lv_at hl 1 rfl) ?_
    refine lv_aload_n hx hb dX0_storeAndEnd_44 rfl (lv_at hl 0 rfl) ?_
    refine fg_0_0 (k := 22) hx hb hts in_X0_storeAndEnd_0 hown hK hP (by decide) (by decide) (hts _ lk_X0_storeAndEnd_9) dX0_storeAndEnd_45 ?_
    refine fgN_9_5 (k := 2) hx hb hts in_X0_storeAndEnd_9 hown hK hP (by decide) (by decide) (hN.use nw_0_82) dX0_storeAndEnd_48 ?_
    refine r_cVv (k := k1) (As := [.int (σ 2 5)]) (rest := []) ⟨hx, hb, hml, hown, hts⟩ hK hP hN hS (c_X2_endYear l D cA ad hI σ τ0 hR k1 (σ 2 5) ⟨by omega, by omega⟩ (by omega)) (cwV 1 hts gX0_storeAndEnd_X2_endYear rfl rfl rfl (by decide +kernel) ⟨by decide, by decide⟩) (rv_Days hK hP (by omega) (by omega)) rfl hl.1 rfl (Nat.le_of_ble_eq_true rfl) dX0_storeAndEnd_51 (Nat.zero_le _) (Nat.zero_le _) (fun u3 H3 locs3 hp3 hP hS => ?_)
    obtain ⟨σ3, τ3⟩ := u3
    obtain ⟨hR, f3, fL3⟩ : P_X2_endYear σ τ0 k1 (σ 2 5) σ3 τ3 := hp3
    have hP : va_P D vwCl (gw cA ad σ3 τ3) H3 := hP
    obtain rfl := FrL.nil fL3
    have hF := hF.step f3 (by decide)
    have t4 : (σ3 2 5).toInt = (σ 2 5).toInt := congrArg Int32.toInt (f3.at 2 5 (by decide))
    exact r_vret hx hb hr hK hP hS hk dX0_storeAndEnd_54 (show P_X0_storeAndEnd σ0 τ0 k1 σ3 τ0 from ⟨hR, hF, hFL⟩)
  · refine lv_aload_n hx hb dX0_storeAndEnd_13 rfl (lv_at hl 1 rfl) ?_
    refine fgN_2_6 (k := k1) hx hb hts in_X0_storeAndEnd_2 hown hK hP (by omega) (by omega) (hN.use nw_0_97) dX0_storeAndEnd_14 ?_
    refine lv_iload_n hx hb dX0_storeAndEnd_17 rfl (lv_at hl 2 rfl) ?_
    refine lv_dup2_11 hx hb dX0_storeAndEnd_18 rfl rfl ?_
    obtain ⟨j5, ej5⟩ : ∃ j : Nat, x2.toInt = (j : Int) := ⟨_, ti_nat (by omega)⟩
    refine ad_days8 (k := k1 + 340) (j := j5) hx hb hK hP (by omega) (by omega) ej5 (by omega) dX0_storeAndEnd_19 ?_
    refine lv_aload_n hx hb dX0_storeAndEnd_20 rfl (lv_at hl 0 rfl) ?_
    refine fg_0_1 (k := 22) hx hb hts in_X0_storeAndEnd_0 hown hK hP (by decide) (by decide) (hts _ lk_X0_storeAndEnd_15) dX0_storeAndEnd_21 ?_
    refine lv_iload_n hx hb dX0_storeAndEnd_24 rfl (lv_at hl 2 rfl) ?_
    refine lv_aload_n hx hb dX0_storeAndEnd_25 rfl (lv_at hl 0 rfl) ?_
    refine fg_0_0 (k := 22) hx hb hts in_X0_storeAndEnd_0 hown hK hP (by decide) (by decide) (hts _ lk_X0_storeAndEnd_9) dX0_storeAndEnd_26 ?_
    refine fgN_9_1 (k := 2) hx hb hts in_X0_storeAndEnd_9 hown hK hP (by decide) (by decide) (hN.use nw_0_100) dX0_storeAndEnd_29 ?_
    refine r_cVi (k := 21) (As := [.int x2, .int (σ 2 1)]) (rest := [.int (σ (k1 + 340) j5), .int x2, .ref (ad (k1 + 340))]) ⟨hx, hb, hml, hown, hts⟩ hK hP hN hS (c_X1_portion l D cA ad hI σ τ0 hR x2 (σ 2 1) (by omega)) (cwV 2 hts gX0_storeAndEnd_X1_portion rfl rfl rfl (by decide +kernel) ⟨by decide, by decide⟩) (rv_Camp hK hP (by decide) (by decide)) rfl hl.1 rfl (Nat.le_of_ble_eq_true rfl) dX0_storeAndEnd_32 (Nat.zero_le _) (Nat.zero_le _) (fun r6 u6 H6 locs6 hp6 hP hS => ?_)
    obtain ⟨σ6, τ6⟩ := u6
    obtain ⟨hR, f6, fL6⟩ : P_X1_portion σ τ0 x2 (σ 2 1) r6 σ6 τ6 := hp6
    have hP : va_P D vwCl (gw cA ad σ6 τ6) H6 := hP
    obtain rfl := FrL.nil fL6
    obtain rfl := Fr.nil f6
    refine r_iaddU hx hb dX0_storeAndEnd_35 (fun z7 => ?_)
    refine as_days8 (k := k1 + 340) (j := j5) hx hb hK hP hI hR hS (by omega) (by omega) ej5 (by omega) dX0_storeAndEnd_36 (fun σ8 H8 locs8 u8 v8 hR hP hS => ?_)
    have hF := hF.puts u8 1 rfl (by omega) (by omega) (by omega) (by omega)
    have t9 : (σ8 2 5).toInt = (σ 2 5).toInt := congrArg Int32.toInt (u8 2 5 (by omega))
    refine r_iinc (k := 2) (lv1 := fun z10 => [(2, .int z10), (0, .ref (ad 22)), (1, .ref (ad k1))]) hx hb dX0_storeAndEnd_37 hl rfl (by decide) (fun _ => rfl) (by decide) (by omega) (fun z10 ls ez10 hl => ?_)
    refine lv_goto (tgt := 2) hx hb dX0_storeAndEnd_40 (by decide) ?_
    exact K2 σ8 τ0 H8 locs8 z10 ls hR hF hFL hP hS (by omega) (lv_sub hl [1, 2, 0] rfl) (by omega)
theorem A_X0_storeAndEnd (p : Program) (l : Launch) (e : Env) (s : State) (m : MethodId) (args : Array Value) (below : List Frame) (meth : Method) (c : Code) (D : va_G) (cA : Nat → ClassId) (ad : Nat → Nat) (σ0 : Nat → Nat → Int32) (τ0 : Nat → Nat → Int64) (k1 : Nat) (C : Cy p s m args meth c cX0_storeAndEnd 3 wsX0_storeAndEnd RX0 D cA ad none) (hk1 : 7 ≤ k1 ∧ k1 ≤ 9) : ∀ n : Nat, J_X0_storeAndEnd_2 p l e s m args below meth c D cA ad σ0 τ0 k1 n := by
  intro n
  induction n with
  | zero =>
    exact (by intro σ τ H locs x2 ls hR hF hFL hP hS hc0 hl hm; exfalso; omega)
  | succ n ih =>
    exact B_X0_storeAndEnd_2 p l e s m args below meth c D cA ad σ0 τ0 k1 n C hk1 ih
set_option maxHeartbeats 4000000 in
theorem c_X0_storeAndEnd (l : Launch) (D : va_G) (cA : Nat → ClassId) (ad : Nat → Nat) (hI : Inj ad) (σ0 : Nat → Nat → Int32) (τ0 : Nat → Nat → Int64) (hR : Rg σ0) (k1 : Nat) (hk1 : 7 ≤ k1 ∧ k1 ≤ 9) : Met l yX0_storeAndEnd wsX0_storeAndEnd ({ frames := 2, cells := 0, slots := 0, locals := 45 } : Room) (WQc D cA ad [.ref (ad 22), .ref (ad k1)] σ0 τ0) (va_Qv (fun u : SS => P_X0_storeAndEnd σ0 τ0 k1 u.1 u.2) (WB D cA ad) (AA ad)) 0 0 (AA ad) := by
  refine Met.ofW (cc := cX0_storeAndEnd) (maxL := 3) (ret := none) (by decide) rfl ?_
  intro p e s m args below meth c s₁ B hml hv
  obtain ⟨rfl, hP, hK, hN⟩ := hv
  have C : Cy p s m _ meth c cX0_storeAndEnd 3 wsX0_storeAndEnd RX0 D cA ad none := ⟨B.exec, B.bytes, hml, findClass_of_methodNamed B.named, atoms_spec (ws := wsX0_storeAndEnd) B.pre, hK, B.notSynchronized, B.returns, hI, hN⟩
  have hl := lv_entry ([.ref (ad 22), .ref (ad k1)]) (n := 3) (Nat.le_of_ble_eq_true rfl)
  rw [lg_entry_eq]
  generalize (lg_sl ([.ref (ad 22), .ref (ad k1)]) ++ List.replicate (3 - (lg_sl ([.ref (ad 22), .ref (ad k1)])).length) Slot.unset).toArray = ls at hl ⊢
  have hl : lv_has ls 3 [(0, .ref (ad 22)), (1, .ref (ad k1))] := hl
  have hS : va_S (AA ad) s.heap s.heap [] := va_S.rf
  have hF : Fr L_X0_storeAndEnd σ0 σ0 := Fr.rf
  have hFL : FrL LL_X0_storeAndEnd τ0 τ0 := FrL.rf
  have hA := A_X0_storeAndEnd p l e s m _ below meth c D cA ad σ0 τ0 k1 C hk1 42
  have K2 := hA
  clear hA
  obtain ⟨hx, hb, _, hown, hts, _, hk, hr, _, _⟩ := C
  refine r_iconst hx hb dX0_storeAndEnd_0 (by decide) (fun z1 ez1 => ?_)
  refine lv_istore_n (lv' := [(2, .int z1), (0, .ref (ad 22)), (1, .ref (ad k1))]) hx hb dX0_storeAndEnd_1 rfl hl (by decide) rfl (fun ls hl => ?_)
  exact K2 σ0 τ0 s.heap [] z1 ls hR hF hFL hP hS (by omega) (lv_sub hl [1, 2, 0] rfl) (by omega)
theorem in_X1_menInValley_1 : ∀ w ∈ u_ws RX1 TX1 9, w ∈ wsX1_menInValley := by decide +kernel
theorem in_X1_menInValley_9 : ∀ w ∈ u_ws RX9 TX9 14, w ∈ wsX1_menInValley := by decide +kernel
theorem lk_X1_menInValley_36 : Cond.fieldLink RX1 36 "CuckooShares$Camp" "valley" "LCuckooShares$Valley;" ∈ wsX1_menInValley := by decide +kernel
theorem lk_X1_menInValley_9 : Cond.fieldLink RX1 9 "CuckooShares$Camp" "x" "[I" ∈ wsX1_menInValley := by decide +kernel
abbrev L_X1_menInValley : List Rc := []
abbrev LL_X1_menInValley : List Rc := []
def P_X1_menInValley (σ0 : Nat → Nat → Int32) (τ0 : Nat → Nat → Int64) (a1 : Int32) (r : Int32) (σ : Nat → Nat → Int32) (τ : Nat → Nat → Int64) : Prop := Rg σ ∧ Fr L_X1_menInValley σ0 σ ∧ FrL LL_X1_menInValley τ0 τ
def J_X1_menInValley_4 (p : Program) (l : Launch) (e : Env) (s : State) (m : MethodId) (args : Array Value) (below : List Frame) (meth : Method) (c : Code) (D : va_G) (cA : Nat → ClassId) (ad : Nat → Nat) (σ0 : Nat → Nat → Int32) (τ0 : Nat → Nat → Int64) (a1 : Int32) (n : Nat) : Prop := ∀ (σ : Nat → Nat → Int32) (τ : Nat → Nat → Int64) (H : Heap) (locs : List Loc) (x2 : Int32) (x3 : Int32) (ls : Array Slot), Rg σ → Fr L_X1_menInValley σ0 σ → FrL LL_X1_menInValley τ0 τ → va_P D vwCl (gw cA ad σ τ) H → va_S (AA ad) s.heap H locs → (0 ≤ x3.toInt ∧ x3.toInt ≤ 8) → lv_has ls 4 [(0, .ref (ad 21)), (1, .int a1), (2, .int x2), (3, .int x3)] → 2 * (8 - x3.toInt) + 1 < (n : Int) → W p l e ({ frames := 1, cells := 0, slots := 0, locals := 21 } : Room) s m args below meth c H locs 0 0 (MQ below (va_Qi (fun (r : Int32) (u : SS) => P_X1_menInValley σ0 τ0 a1 r u.1 u.2) (WB D cA ad) (AA ad)) args s 0 0 (AA ad)) (F0 m 4 ls [])
set_option maxHeartbeats 4000000 in
theorem B_X1_menInValley_4 (p : Program) (l : Launch) (e : Env) (s : State) (m : MethodId) (args : Array Value) (below : List Frame) (meth : Method) (c : Code) (D : va_G) (cA : Nat → ClassId) (ad : Nat → Nat) (σ0 : Nat → Nat → Int32) (τ0 : Nat → Nat → Int64) (a1 : Int32) (n : Nat) (C : Cy p s m args meth c cX1_menInValley 4 wsX1_menInValley RX1 D cA ad (some .int)) (ha1 : 0 ≤ a1.toInt ∧ a1.toInt ≤ 1) (K4 : J_X1_menInValley_4 p l e s m args below meth c D cA ad σ0 τ0 a1 n) : J_X1_menInValley_4 p l e s m args below meth c D cA ad σ0 τ0 a1 (n + 1) := by
  obtain ⟨hx, hb, hml, hown, hts, hK, hk, hr, hI, hN⟩ := C
  intro σ τ H locs x2 x3 ls hR hF hFL hP hS hc0 hl hm
  obtain rfl := Fr.nil hF
  obtain rfl := FrL.nil hFL
  refine lv_iload_n hx hb dX1_menInValley_4 rfl (lv_at hl 3 rfl) ?_
  refine lv_aload_n hx hb dX1_menInValley_5 rfl (lv_at hl 0 rfl) ?_
  refine fg_1_0 (k := 21) hx hb hts in_X1_menInValley_1 hown hK hP (by decide) (by decide) (hts _ lk_X1_menInValley_36) dX1_menInValley_6 ?_
  refine fgN_9_5 (k := 2) hx hb hts in_X1_menInValley_9 hown hK hP (by decide) (by decide) (hN.use nw_1_40) dX1_menInValley_9 ?_
  have hr1 := rg_9_5 hR (k := 2) (by decide) (by decide)
  refine r_icmp_ge (tgt := 44) hx hb dX1_menInValley_12 (by decide) (fun c2 => ?_) (fun c2 => ?_)
  · refine lv_iload_n hx hb dX1_menInValley_44 rfl (lv_at hl 2 rfl) ?_
    exact r_iret hx hb hr hK hP hS hk dX1_menInValley_45 (show P_X1_menInValley σ0 τ0 a1 x2 σ0 τ0 from ⟨hR, hF, hFL⟩)
  · refine lv_aload_n hx hb dX1_menInValley_15 rfl (lv_at hl 0 rfl) ?_
    refine fg_1_0 (k := 21) hx hb hts in_X1_menInValley_1 hown hK hP (by decide) (by decide) (hts _ lk_X1_menInValley_36) dX1_menInValley_16 ?_
    refine lv_aload_n hx hb dX1_menInValley_19 rfl (lv_at hl 0 rfl) ?_
    refine fg_1_1 (k := 21) hx hb hts in_X1_menInValley_1 hown hK hP (by decide) (by decide) (hts _ lk_X1_menInValley_9) dX1_menInValley_20 ?_
    refine lv_iload_n hx hb dX1_menInValley_23 rfl (lv_at hl 3 rfl) ?_
    obtain ⟨j3, ej3⟩ : ∃ j : Nat, x3.toInt = (j : Int) := ⟨_, ti_nat (by omega)⟩
    refine ad_xyf (k := 360) (j := j3) hx hb hK hP (by decide) (by decide) ej3 (by omega) dX1_menInValley_24 ?_
    refine r_cVi (k := 2) (As := [.int (σ0 360 j3)]) (rest := []) ⟨hx, hb, hml, hown, hts⟩ hK hP hN hS (c_X9_side l D cA ad hI σ0 τ0 hR (σ0 360 j3)) (cwV 1 hts gX1_menInValley_X9_side rfl rfl rfl (by decide +kernel) ⟨by decide, by decide⟩) (rv_Valley hK hP (by decide) (by decide)) rfl hl.1 rfl (Nat.le_of_ble_eq_true rfl) dX1_menInValley_25 (Nat.zero_le _) (Nat.zero_le _) (fun r4 u4 H4 locs4 hp4 hP hS => ?_)
    obtain ⟨σ4, τ4⟩ := u4
    obtain ⟨hR, f4, fL4, hq4, hp4_0⟩ : P_X9_side σ0 τ0 (σ0 360 j3) r4 σ4 τ4 := hp4
    have hP : va_P D vwCl (gw cA ad σ4 τ4) H4 := hP
    obtain rfl := FrL.nil fL4
    obtain rfl := Fr.nil f4
    refine lv_iload_n hx hb dX1_menInValley_28 rfl (lv_at hl 1 rfl) ?_
    refine r_icmp_ne (tgt := 38) hx hb dX1_menInValley_29 (by decide) (fun c5 => ?_) (fun c5 => ?_)
    · refine r_iinc (k := 3) (lv1 := fun z6 => [(3, .int z6), (0, .ref (ad 21)), (1, .int a1), (2, .int x2)]) hx hb dX1_menInValley_38 hl rfl (by decide) (fun _ => rfl) (by decide) (by omega) (fun z6 ls ez6 hl => ?_)
      refine lv_goto (tgt := 4) hx hb dX1_menInValley_41 (by decide) ?_
      exact K4 σ0 τ0 H4 locs4 x2 z6 ls hR hF hFL hP hS (by omega) (lv_sub hl [1, 2, 3, 0] rfl) (by omega)
    · refine lv_iload_n hx hb dX1_menInValley_32 rfl (lv_at hl 2 rfl) ?_
      refine r_iconst hx hb dX1_menInValley_33 (by decide) (fun z7 ez7 => ?_)
      refine lv_iload_n hx hb dX1_menInValley_34 rfl (lv_at hl 3 rfl) ?_
      refine r_ishlU hx hb dX1_menInValley_35 (fun z8 => ?_)
      refine r_iorU hx hb dX1_menInValley_36 (fun z9 => ?_)
      refine lv_istore_n (lv' := [(2, .int z9), (0, .ref (ad 21)), (1, .int a1), (3, .int x3)]) hx hb dX1_menInValley_37 rfl hl (by decide) rfl (fun ls hl => ?_)
      refine r_iinc (k := 3) (lv1 := fun z10 => [(3, .int z10), (2, .int z9), (0, .ref (ad 21)), (1, .int a1)]) hx hb dX1_menInValley_38 hl rfl (by decide) (fun _ => rfl) (by decide) (by omega) (fun z10 ls ez10 hl => ?_)
      refine lv_goto (tgt := 4) hx hb dX1_menInValley_41 (by decide) ?_
      exact K4 σ0 τ0 H4 locs4 z9 z10 ls hR hF hFL hP hS (by omega) (lv_sub hl [2, 3, 1, 0] rfl) (by omega)
theorem A_X1_menInValley (p : Program) (l : Launch) (e : Env) (s : State) (m : MethodId) (args : Array Value) (below : List Frame) (meth : Method) (c : Code) (D : va_G) (cA : Nat → ClassId) (ad : Nat → Nat) (σ0 : Nat → Nat → Int32) (τ0 : Nat → Nat → Int64) (a1 : Int32) (C : Cy p s m args meth c cX1_menInValley 4 wsX1_menInValley RX1 D cA ad (some .int)) (ha1 : 0 ≤ a1.toInt ∧ a1.toInt ≤ 1) : ∀ n : Nat, J_X1_menInValley_4 p l e s m args below meth c D cA ad σ0 τ0 a1 n := by
  intro n
  induction n with
  | zero =>
    exact (by intro σ τ H locs x2 x3 ls hR hF hFL hP hS hc0 hl hm; exfalso; omega)
  | succ n ih =>
    exact B_X1_menInValley_4 p l e s m args below meth c D cA ad σ0 τ0 a1 n C ha1 ih
set_option maxHeartbeats 4000000 in
theorem c_X1_menInValley (l : Launch) (D : va_G) (cA : Nat → ClassId) (ad : Nat → Nat) (hI : Inj ad) (σ0 : Nat → Nat → Int32) (τ0 : Nat → Nat → Int64) (hR : Rg σ0) (a1 : Int32) (ha1 : 0 ≤ a1.toInt ∧ a1.toInt ≤ 1) : Met l yX1_menInValley wsX1_menInValley ({ frames := 1, cells := 0, slots := 0, locals := 21 } : Room) (WQc D cA ad [.ref (ad 21), .int a1] σ0 τ0) (va_Qi (fun (r : Int32) (u : SS) => P_X1_menInValley σ0 τ0 a1 r u.1 u.2) (WB D cA ad) (AA ad)) 0 0 (AA ad) := by
  refine Met.ofW (cc := cX1_menInValley) (maxL := 4) (ret := (some .int)) (by decide) rfl ?_
  intro p e s m args below meth c s₁ B hml hv
  obtain ⟨rfl, hP, hK, hN⟩ := hv
  have C : Cy p s m _ meth c cX1_menInValley 4 wsX1_menInValley RX1 D cA ad (some .int) := ⟨B.exec, B.bytes, hml, findClass_of_methodNamed B.named, atoms_spec (ws := wsX1_menInValley) B.pre, hK, B.notSynchronized, B.returns, hI, hN⟩
  have hl := lv_entry ([.ref (ad 21), .int a1]) (n := 4) (Nat.le_of_ble_eq_true rfl)
  rw [lg_entry_eq]
  generalize (lg_sl ([.ref (ad 21), .int a1]) ++ List.replicate (4 - (lg_sl ([.ref (ad 21), .int a1])).length) Slot.unset).toArray = ls at hl ⊢
  have hl : lv_has ls 4 [(0, .ref (ad 21)), (1, .int a1)] := hl
  have hS : va_S (AA ad) s.heap s.heap [] := va_S.rf
  have hF : Fr L_X1_menInValley σ0 σ0 := Fr.rf
  have hFL : FrL LL_X1_menInValley τ0 τ0 := FrL.rf
  have hA := A_X1_menInValley p l e s m _ below meth c D cA ad σ0 τ0 a1 C ha1 42
  have K4 := hA
  clear hA
  obtain ⟨hx, hb, _, hown, hts, _, hk, hr, _, _⟩ := C
  refine r_iconst hx hb dX1_menInValley_0 (by decide) (fun z1 ez1 => ?_)
  refine lv_istore_n (lv' := [(2, .int z1), (0, .ref (ad 21)), (1, .int a1)]) hx hb dX1_menInValley_1 rfl hl (by decide) rfl (fun ls hl => ?_)
  refine r_iconst hx hb dX1_menInValley_2 (by decide) (fun z2 ez2 => ?_)
  refine lv_istore_n (lv' := [(3, .int z2), (2, .int z1), (0, .ref (ad 21)), (1, .int a1)]) hx hb dX1_menInValley_3 rfl hl (by decide) rfl (fun ls hl => ?_)
  exact K4 σ0 τ0 s.heap [] z1 z2 ls hR hF hFL hP hS (by omega) (lv_sub hl [2, 3, 1, 0] rfl) (by omega)
theorem in_X1_noteSharers_1 : ∀ w ∈ u_ws RX1 TX1 9, w ∈ wsX1_noteSharers := by decide +kernel
theorem in_X1_noteSharers_9 : ∀ w ∈ u_ws RX9 TX9 14, w ∈ wsX1_noteSharers := by decide +kernel
theorem lk_X1_noteSharers_27 : Cond.fieldLink RX1 27 "CuckooShares$Camp" "shareCall" "[I" ∈ wsX1_noteSharers := by decide +kernel
theorem lk_X1_noteSharers_30 : Cond.fieldLink RX1 30 "CuckooShares$Camp" "sharers" "[I" ∈ wsX1_noteSharers := by decide +kernel
theorem lk_X1_noteSharers_33 : Cond.fieldLink RX1 33 "CuckooShares$Camp" "weights" "[I" ∈ wsX1_noteSharers := by decide +kernel
theorem lk_X1_noteSharers_36 : Cond.fieldLink RX1 36 "CuckooShares$Camp" "valley" "LCuckooShares$Valley;" ∈ wsX1_noteSharers := by decide +kernel
abbrev L_X1_noteSharers : List Rc := [(365, 365, 0, 1), (366, 366, 0, 1), (367, 367, 0, 1)]
abbrev LL_X1_noteSharers : List Rc := []
def P_X1_noteSharers (σ0 : Nat → Nat → Int32) (τ0 : Nat → Nat → Int64) (a1 : Int32) (a2 : Int32) (a3 : Int32) (σ : Nat → Nat → Int32) (τ : Nat → Nat → Int64) : Prop := Rg σ ∧ Fr L_X1_noteSharers σ0 σ ∧ FrL LL_X1_noteSharers τ0 τ
def J_X1_noteSharers_24 (p : Program) (l : Launch) (e : Env) (s : State) (m : MethodId) (args : Array Value) (below : List Frame) (meth : Method) (c : Code) (D : va_G) (cA : Nat → ClassId) (ad : Nat → Nat) (σ0 : Nat → Nat → Int32) (τ0 : Nat → Nat → Int64) (a1 : Int32) (a2 : Int32) (a3 : Int32) (n : Nat) : Prop := ∀ (σ : Nat → Nat → Int32) (τ : Nat → Nat → Int64) (H : Heap) (locs : List Loc) (x4 : Int32) (ls : Array Slot), Rg σ → Fr L_X1_noteSharers σ0 σ → FrL LL_X1_noteSharers τ0 τ → va_P D vwCl (gw cA ad σ τ) H → va_S (AA ad) s.heap H locs → (0 ≤ x4.toInt ∧ x4.toInt ≤ 8) → lv_has ls 5 [(0, .ref (ad 21)), (1, .int a1), (2, .int a2), (3, .int a3), (4, .int x4)] → 2 * (8 - x4.toInt) + 1 < (n : Int) → W p l e ({ frames := 1, cells := 0, slots := 0, locals := 21 } : Room) s m args below meth c H locs 0 0 (MQ below (va_Qv (fun u : SS => P_X1_noteSharers σ0 τ0 a1 a2 a3 u.1 u.2) (WB D cA ad) (AA ad)) args s 0 0 (AA ad)) (F0 m 24 ls [])
set_option maxHeartbeats 4000000 in
theorem B_X1_noteSharers_24 (p : Program) (l : Launch) (e : Env) (s : State) (m : MethodId) (args : Array Value) (below : List Frame) (meth : Method) (c : Code) (D : va_G) (cA : Nat → ClassId) (ad : Nat → Nat) (σ0 : Nat → Nat → Int32) (τ0 : Nat → Nat → Int64) (a1 : Int32) (a2 : Int32) (a3 : Int32) (n : Nat) (C : Cy p s m args meth c cX1_noteSharers 5 wsX1_noteSharers RX1 D cA ad none) (ha1 : 0 ≤ a1.toInt ∧ a1.toInt ≤ 1) (K24 : J_X1_noteSharers_24 p l e s m args below meth c D cA ad σ0 τ0 a1 a2 a3 n) : J_X1_noteSharers_24 p l e s m args below meth c D cA ad σ0 τ0 a1 a2 a3 (n + 1) := by
  obtain ⟨hx, hb, hml, hown, hts, hK, hk, hr, hI, hN⟩ := C
  intro σ τ H locs x4 ls hR hF hFL hP hS hc0 hl hm
  obtain rfl := FrL.nil hFL
  refine lv_iload hx hb dX1_noteSharers_24 (lv_at hl 4 rfl) ?_
  refine lv_aload_n hx hb dX1_noteSharers_26 rfl (lv_at hl 0 rfl) ?_
  refine fg_1_0 (k := 21) hx hb hts in_X1_noteSharers_1 hown hK hP (by decide) (by decide) (hts _ lk_X1_noteSharers_36) dX1_noteSharers_27 ?_
  refine fgN_9_5 (k := 2) hx hb hts in_X1_noteSharers_9 hown hK hP (by decide) (by decide) (hN.use nw_1_40) dX1_noteSharers_30 ?_
  have hr1 := rg_9_5 hR (k := 2) (by decide) (by decide)
  refine r_icmp_ge (tgt := 70) hx hb dX1_noteSharers_33 (by decide) (fun c2 => ?_) (fun c2 => ?_)
  · exact r_vret hx hb hr hK hP hS hk dX1_noteSharers_70 (show P_X1_noteSharers σ0 τ0 a1 a2 a3 σ τ0 from ⟨hR, hF, hFL⟩)
  · refine lv_iload_n hx hb dX1_noteSharers_36 rfl (lv_at hl 3 rfl) ?_
    refine lv_iload hx hb dX1_noteSharers_37 (lv_at hl 4 rfl) ?_
    refine r_ishrU hx hb dX1_noteSharers_39 (fun z3 => ?_)
    refine r_iconst hx hb dX1_noteSharers_40 (by decide) (fun z4 ez4 => ?_)
    refine r_iand (w := 1) hx hb 1 dX1_noteSharers_41 (by omega) (by decide) (fun z5 ez5 => ?_)
    refine r_iconst hx hb dX1_noteSharers_42 (by decide) (fun z6 ez6 => ?_)
    refine r_icmp_ne (tgt := 64) hx hb dX1_noteSharers_43 (by decide) (fun c7 => ?_) (fun c7 => ?_)
    · refine r_iinc (k := 4) (lv1 := fun z8 => [(4, .int z8), (0, .ref (ad 21)), (1, .int a1), (2, .int a2), (3, .int a3)]) hx hb dX1_noteSharers_64 hl rfl (by decide) (fun _ => rfl) (by decide) (by omega) (fun z8 ls ez8 hl => ?_)
      refine lv_goto (tgt := 24) hx hb dX1_noteSharers_67 (by decide) ?_
      exact K24 σ τ0 H locs z8 ls hR hF hFL hP hS (by omega) (lv_sub hl [1, 2, 3, 4, 0] rfl) (by omega)
    · refine lv_aload_n hx hb dX1_noteSharers_46 rfl (lv_at hl 0 rfl) ?_
      refine fg_1_8 (k := 21) hx hb hts in_X1_noteSharers_1 hown hK hP (by decide) (by decide) (hts _ lk_X1_noteSharers_33) dX1_noteSharers_47 ?_
      refine lv_iload_n hx hb dX1_noteSharers_50 rfl (lv_at hl 1 rfl) ?_
      refine lv_dup2_11 hx hb dX1_noteSharers_51 rfl rfl ?_
      obtain ⟨j9, ej9⟩ : ∃ j : Nat, a1.toInt = (j : Int) := ⟨_, ti_nat (by omega)⟩
      refine ad_two (k := 367) (j := j9) hx hb hK hP (by decide) (by decide) ej9 (by omega) dX1_noteSharers_52 ?_
      refine lv_aload_n hx hb dX1_noteSharers_53 rfl (lv_at hl 0 rfl) ?_
      refine fg_1_0 (k := 21) hx hb hts in_X1_noteSharers_1 hown hK hP (by decide) (by decide) (hts _ lk_X1_noteSharers_36) dX1_noteSharers_54 ?_
      refine lv_iload hx hb dX1_noteSharers_57 (lv_at hl 4 rfl) ?_
      refine r_cVi (k := 2) (As := [.int x4]) (rest := [.int (σ 367 j9), .int a1, .ref (ad 367)]) ⟨hx, hb, hml, hown, hts⟩ hK hP hN hS (c_X9_weight l D cA ad hI σ τ0 hR x4 (by omega)) (cwV 1 hts gX1_noteSharers_X9_weight rfl rfl rfl (by decide +kernel) ⟨by decide, by decide⟩) (rv_Valley hK hP (by decide) (by decide)) rfl hl.1 rfl (Nat.le_of_ble_eq_true rfl) dX1_noteSharers_59 (Nat.zero_le _) (Nat.zero_le _) (fun r10 u10 H10 locs10 hp10 hP hS => ?_)
      obtain ⟨σ10, τ10⟩ := u10
      obtain ⟨hR, f10, fL10, hq10⟩ : P_X9_weight σ τ0 x4 r10 σ10 τ10 := hp10
      have hP : va_P D vwCl (gw cA ad σ10 τ10) H10 := hP
      obtain rfl := FrL.nil fL10
      obtain rfl := Fr.nil f10
      refine r_iaddU hx hb dX1_noteSharers_62 (fun z11 => ?_)
      refine as_two (k := 367) (j := j9) hx hb hK hP hI hR hS (by decide) (by decide) ej9 (by omega) dX1_noteSharers_63 (fun σ12 H12 locs12 u12 v12 hR hP hS => ?_)
      have hF := hF.puts u12 2 rfl (by decide) (by decide) (by omega) (by omega)
      refine r_iinc (k := 4) (lv1 := fun z13 => [(4, .int z13), (0, .ref (ad 21)), (1, .int a1), (2, .int a2), (3, .int a3)]) hx hb dX1_noteSharers_64 hl rfl (by decide) (fun _ => rfl) (by decide) (by omega) (fun z13 ls ez13 hl => ?_)
      refine lv_goto (tgt := 24) hx hb dX1_noteSharers_67 (by decide) ?_
      exact K24 σ12 τ0 H12 locs12 z13 ls hR hF hFL hP hS (by omega) (lv_sub hl [1, 2, 3, 4, 0] rfl) (by omega)
theorem A_X1_noteSharers (p : Program) (l : Launch) (e : Env) (s : State) (m : MethodId) (args : Array Value) (below : List Frame) (meth : Method) (c : Code) (D : va_G) (cA : Nat → ClassId) (ad : Nat → Nat) (σ0 : Nat → Nat → Int32) (τ0 : Nat → Nat → Int64) (a1 : Int32) (a2 : Int32) (a3 : Int32) (C : Cy p s m args meth c cX1_noteSharers 5 wsX1_noteSharers RX1 D cA ad none) (ha1 : 0 ≤ a1.toInt ∧ a1.toInt ≤ 1) : ∀ n : Nat, J_X1_noteSharers_24 p l e s m args below meth c D cA ad σ0 τ0 a1 a2 a3 n := by
  intro n
  induction n with
  | zero =>
    exact (by intro σ τ H locs x4 ls hR hF hFL hP hS hc0 hl hm; exfalso; omega)
  | succ n ih =>
    exact B_X1_noteSharers_24 p l e s m args below meth c D cA ad σ0 τ0 a1 a2 a3 n C ha1 ih
set_option maxHeartbeats 4000000 in
theorem c_X1_noteSharers (l : Launch) (D : va_G) (cA : Nat → ClassId) (ad : Nat → Nat) (hI : Inj ad) (σ0 : Nat → Nat → Int32) (τ0 : Nat → Nat → Int64) (hR : Rg σ0) (a1 : Int32) (a2 : Int32) (a3 : Int32) (ha1 : 0 ≤ a1.toInt ∧ a1.toInt ≤ 1) : Met l yX1_noteSharers wsX1_noteSharers ({ frames := 1, cells := 0, slots := 0, locals := 21 } : Room) (WQc D cA ad [.ref (ad 21), .int a1, .int a2, .int a3] σ0 τ0) (va_Qv (fun u : SS => P_X1_noteSharers σ0 τ0 a1 a2 a3 u.1 u.2) (WB D cA ad) (AA ad)) 0 0 (AA ad) := by
  refine Met.ofW (cc := cX1_noteSharers) (maxL := 5) (ret := none) (by decide) rfl ?_
  intro p e s m args below meth c s₁ B hml hv
  obtain ⟨rfl, hP, hK, hN⟩ := hv
  have C : Cy p s m _ meth c cX1_noteSharers 5 wsX1_noteSharers RX1 D cA ad none := ⟨B.exec, B.bytes, hml, findClass_of_methodNamed B.named, atoms_spec (ws := wsX1_noteSharers) B.pre, hK, B.notSynchronized, B.returns, hI, hN⟩
  have hl := lv_entry ([.ref (ad 21), .int a1, .int a2, .int a3]) (n := 5) (Nat.le_of_ble_eq_true rfl)
  rw [lg_entry_eq]
  generalize (lg_sl ([.ref (ad 21), .int a1, .int a2, .int a3]) ++ List.replicate (5 - (lg_sl ([.ref (ad 21), .int a1, .int a2, .int a3])).length) Slot.unset).toArray = ls at hl ⊢
  have hl : lv_has ls 5 [(0, .ref (ad 21)), (1, .int a1), (2, .int a2), (3, .int a3)] := hl
  have hS : va_S (AA ad) s.heap s.heap [] := va_S.rf
  have hF : Fr L_X1_noteSharers σ0 σ0 := Fr.rf
  have hFL : FrL LL_X1_noteSharers τ0 τ0 := FrL.rf
  have hA := A_X1_noteSharers p l e s m _ below meth c D cA ad σ0 τ0 a1 a2 a3 C ha1 42
  have K24 := hA
  clear hA
  obtain ⟨hx, hb, _, hown, hts, _, hk, hr, _, _⟩ := C
  refine lv_aload_n hx hb dX1_noteSharers_0 rfl (lv_at hl 0 rfl) ?_
  refine fg_1_6 (k := 21) hx hb hts in_X1_noteSharers_1 hown hK hP (by decide) (by decide) (hts _ lk_X1_noteSharers_27) dX1_noteSharers_1 ?_
  refine lv_iload_n hx hb dX1_noteSharers_4 rfl (lv_at hl 1 rfl) ?_
  refine lv_iload_n hx hb dX1_noteSharers_5 rfl (lv_at hl 2 rfl) ?_
  obtain ⟨j1, ej1⟩ : ∃ j : Nat, a1.toInt = (j : Int) := ⟨_, ti_nat (by omega)⟩
  refine as_two (k := 365) (j := j1) hx hb hK hP hI hR hS (by decide) (by decide) ej1 (by omega) dX1_noteSharers_6 (fun σ2 H2 locs2 u2 v2 hR hP hS => ?_)
  have hF := hF.puts u2 0 rfl (by decide) (by decide) (by omega) (by omega)
  refine lv_aload_n hx hb dX1_noteSharers_7 rfl (lv_at hl 0 rfl) ?_
  refine fg_1_7 (k := 21) hx hb hts in_X1_noteSharers_1 hown hK hP (by decide) (by decide) (hts _ lk_X1_noteSharers_30) dX1_noteSharers_8 ?_
  refine lv_iload_n hx hb dX1_noteSharers_11 rfl (lv_at hl 1 rfl) ?_
  refine lv_iload_n hx hb dX1_noteSharers_12 rfl (lv_at hl 3 rfl) ?_
  refine as_two (k := 366) (j := j1) hx hb hK hP hI hR hS (by decide) (by decide) ej1 (by omega) dX1_noteSharers_13 (fun σ3 H3 locs3 u3 v3 hR hP hS => ?_)
  have hF := hF.puts u3 1 rfl (by decide) (by decide) (by omega) (by omega)
  refine lv_aload_n hx hb dX1_noteSharers_14 rfl (lv_at hl 0 rfl) ?_
  refine fg_1_8 (k := 21) hx hb hts in_X1_noteSharers_1 hown hK hP (by decide) (by decide) (hts _ lk_X1_noteSharers_33) dX1_noteSharers_15 ?_
  refine lv_iload_n hx hb dX1_noteSharers_18 rfl (lv_at hl 1 rfl) ?_
  refine r_iconst hx hb dX1_noteSharers_19 (by decide) (fun z4 ez4 => ?_)
  refine as_two (k := 367) (j := j1) hx hb hK hP hI hR hS (by decide) (by decide) ej1 (by omega) dX1_noteSharers_20 (fun σ5 H5 locs5 u5 v5 hR hP hS => ?_)
  have hF := hF.puts u5 2 rfl (by decide) (by decide) (by omega) (by omega)
  refine r_iconst hx hb dX1_noteSharers_21 (by decide) (fun z6 ez6 => ?_)
  refine lv_istore (lv' := [(4, .int z6), (0, .ref (ad 21)), (1, .int a1), (2, .int a2), (3, .int a3)]) hx hb dX1_noteSharers_22 hl (by decide) rfl (fun ls hl => ?_)
  exact K24 σ5 τ0 H5 locs5 z6 ls hR hF hFL hP hS (by omega) (lv_sub hl [1, 2, 3, 4, 0] rfl) (by omega)
theorem in_X1_countOaths_1 : ∀ w ∈ u_ws RX1 TX1 9, w ∈ wsX1_countOaths := by decide +kernel
theorem in_X1_countOaths_2 : ∀ w ∈ u_ws RX2 TX2 7, w ∈ wsX1_countOaths := by decide +kernel
theorem in_X1_countOaths_9 : ∀ w ∈ u_ws RX9 TX9 14, w ∈ wsX1_countOaths := by decide +kernel
theorem lk_X1_countOaths_36 : Cond.fieldLink RX1 36 "CuckooShares$Camp" "valley" "LCuckooShares$Valley;" ∈ wsX1_countOaths := by decide +kernel
abbrev L_X1_countOaths : List Rc := [(365, 365, 0, 1), (366, 366, 0, 1), (367, 367, 0, 1)]
abbrev LL_X1_countOaths : List Rc := []
def P_X1_countOaths (σ0 : Nat → Nat → Int32) (τ0 : Nat → Nat → Int64) (k1 : Nat) (σ : Nat → Nat → Int32) (τ : Nat → Nat → Int64) : Prop := Rg σ ∧ Fr L_X1_countOaths σ0 σ ∧ FrL LL_X1_countOaths τ0 τ
def J_X1_countOaths_2 (p : Program) (l : Launch) (e : Env) (s : State) (m : MethodId) (args : Array Value) (below : List Frame) (meth : Method) (c : Code) (D : va_G) (cA : Nat → ClassId) (ad : Nat → Nat) (σ0 : Nat → Nat → Int32) (τ0 : Nat → Nat → Int64) (k1 : Nat) (n : Nat) : Prop := ∀ (σ : Nat → Nat → Int32) (τ : Nat → Nat → Int64) (H : Heap) (locs : List Loc) (x2 : Int32) (ls : Array Slot), Rg σ → Fr L_X1_countOaths σ0 σ → FrL LL_X1_countOaths τ0 τ → va_P D vwCl (gw cA ad σ τ) H → va_S (AA ad) s.heap H locs → (0 ≤ x2.toInt ∧ x2.toInt ≤ 2) → lv_has ls 8 [(0, .ref (ad 21)), (1, .ref (ad k1)), (2, .int x2)] → 31 * (2 - x2.toInt) + 30 < (n : Int) → W p l e ({ frames := 2, cells := 0, slots := 0, locals := 45 } : Room) s m args below meth c H locs 0 0 (MQ below (va_Qv (fun u : SS => P_X1_countOaths σ0 τ0 k1 u.1 u.2) (WB D cA ad) (AA ad)) args s 0 0 (AA ad)) (F0 m 2 ls [])
def J_X1_countOaths_22 (p : Program) (l : Launch) (e : Env) (s : State) (m : MethodId) (args : Array Value) (below : List Frame) (meth : Method) (c : Code) (D : va_G) (cA : Nat → ClassId) (ad : Nat → Nat) (σ0 : Nat → Nat → Int32) (τ0 : Nat → Nat → Int64) (k1 : Nat) (n : Nat) : Prop := ∀ (σ : Nat → Nat → Int32) (τ : Nat → Nat → Int64) (H : Heap) (locs : List Loc) (x2 : Int32) (x3 : Int32) (x4 : Int32) (x5 : Int32) (x6 : Int32) (ls : Array Slot), Rg σ → Fr L_X1_countOaths σ0 σ → FrL LL_X1_countOaths τ0 τ → va_P D vwCl (gw cA ad σ τ) H → va_S (AA ad) s.heap H locs → (0 ≤ x2.toInt ∧ x2.toInt ≤ 1) → (0 ≤ x6.toInt ∧ x6.toInt ≤ 8) → lv_has ls 8 [(0, .ref (ad 21)), (1, .ref (ad k1)), (2, .int x2), (3, .int x3), (4, .int x4), (5, .int x5), (6, .int x6)] → 31 * (2 - x2.toInt) + 3 * (8 - x6.toInt) + 2 < (n : Int) → W p l e ({ frames := 2, cells := 0, slots := 0, locals := 45 } : Room) s m args below meth c H locs 0 0 (MQ below (va_Qv (fun u : SS => P_X1_countOaths σ0 τ0 k1 u.1 u.2) (WB D cA ad) (AA ad)) args s 0 0 (AA ad)) (F0 m 22 ls [])
def J_X1_countOaths_81 (p : Program) (l : Launch) (e : Env) (s : State) (m : MethodId) (args : Array Value) (below : List Frame) (meth : Method) (c : Code) (D : va_G) (cA : Nat → ClassId) (ad : Nat → Nat) (σ0 : Nat → Nat → Int32) (τ0 : Nat → Nat → Int64) (k1 : Nat) (n : Nat) : Prop := ∀ (σ : Nat → Nat → Int32) (τ : Nat → Nat → Int64) (H : Heap) (locs : List Loc) (x2 : Int32) (x3 : Int32) (x4 : Int32) (x5 : Int32) (x6 : Int32) (x7 : Int32) (ls : Array Slot), Rg σ → Fr L_X1_countOaths σ0 σ → FrL LL_X1_countOaths τ0 τ → va_P D vwCl (gw cA ad σ τ) H → va_S (AA ad) s.heap H locs → (0 ≤ x2.toInt ∧ x2.toInt ≤ 1) → (0 ≤ x6.toInt ∧ x6.toInt ≤ 7) → lv_has ls 8 [(0, .ref (ad 21)), (1, .ref (ad k1)), (2, .int x2), (3, .int x3), (4, .int x4), (5, .int x5), (6, .int x6), (7, .int x7)] → 31 * (2 - x2.toInt) + 3 * (8 - x6.toInt) + 1 < (n : Int) → W p l e ({ frames := 2, cells := 0, slots := 0, locals := 45 } : Room) s m args below meth c H locs 0 0 (MQ below (va_Qv (fun u : SS => P_X1_countOaths σ0 τ0 k1 u.1 u.2) (WB D cA ad) (AA ad)) args s 0 0 (AA ad)) (F0 m 81 ls [])
set_option maxHeartbeats 4000000 in
theorem B_X1_countOaths_2 (p : Program) (l : Launch) (e : Env) (s : State) (m : MethodId) (args : Array Value) (below : List Frame) (meth : Method) (c : Code) (D : va_G) (cA : Nat → ClassId) (ad : Nat → Nat) (σ0 : Nat → Nat → Int32) (τ0 : Nat → Nat → Int64) (k1 : Nat) (n : Nat) (C : Cy p s m args meth c cX1_countOaths 8 wsX1_countOaths RX1 D cA ad none) (hk1 : 7 ≤ k1 ∧ k1 ≤ 9) (K2 : J_X1_countOaths_2 p l e s m args below meth c D cA ad σ0 τ0 k1 n) (K22 : J_X1_countOaths_22 p l e s m args below meth c D cA ad σ0 τ0 k1 n) (K81 : J_X1_countOaths_81 p l e s m args below meth c D cA ad σ0 τ0 k1 n) : J_X1_countOaths_2 p l e s m args below meth c D cA ad σ0 τ0 k1 (n + 1) := by
  obtain ⟨hx, hb, hml, hown, hts, hK, hk, hr, hI, hN⟩ := C
  intro σ τ H locs x2 ls hR hF hFL hP hS hc0 hl hm
  obtain rfl := FrL.nil hFL
  refine lv_iload_n hx hb dX1_countOaths_2 rfl (lv_at hl 2 rfl) ?_
  refine r_iconst hx hb dX1_countOaths_3 (by decide) (fun z1 ez1 => ?_)
  refine r_icmp_ge (tgt := 118) hx hb dX1_countOaths_4 (by decide) (fun c2 => ?_) (fun c2 => ?_)
  · exact r_vret hx hb hr hK hP hS hk dX1_countOaths_118 (show P_X1_countOaths σ0 τ0 k1 σ τ0 from ⟨hR, hF, hFL⟩)
  · refine lv_aload_n hx hb dX1_countOaths_7 rfl (lv_at hl 0 rfl) ?_
    refine lv_iload_n hx hb dX1_countOaths_8 rfl (lv_at hl 2 rfl) ?_
    refine r_cVi (k := 21) (As := [.int x2]) (rest := []) ⟨hx, hb, hml, hown, hts⟩ hK hP hN hS (c_X1_menInValley l D cA ad hI σ τ0 hR x2 (by omega)) (cwV 1 hts gX1_countOaths_X1_menInValley rfl rfl rfl (by decide +kernel) ⟨by decide, by decide⟩) (rv_Camp hK hP (by decide) (by decide)) rfl hl.1 rfl (Nat.le_of_ble_eq_true rfl) dX1_countOaths_9 (Nat.zero_le _) (Nat.zero_le _) (fun r3 u3 H3 locs3 hp3 hP hS => ?_)
    obtain ⟨σ3, τ3⟩ := u3
    obtain ⟨hR, f3, fL3⟩ : P_X1_menInValley σ τ0 x2 r3 σ3 τ3 := hp3
    have hP : va_P D vwCl (gw cA ad σ3 τ3) H3 := hP
    obtain rfl := FrL.nil fL3
    obtain rfl := Fr.nil f3
    refine lv_istore_n (lv' := [(3, .int r3), (0, .ref (ad 21)), (1, .ref (ad k1)), (2, .int x2)]) hx hb dX1_countOaths_12 rfl hl (by decide) rfl (fun ls hl => ?_)
    refine r_iconst hx hb dX1_countOaths_13 (by decide) (fun z4 ez4 => ?_)
    refine lv_istore (lv' := [(4, .int z4), (3, .int r3), (0, .ref (ad 21)), (1, .ref (ad k1)), (2, .int x2)]) hx hb dX1_countOaths_14 hl (by decide) rfl (fun ls hl => ?_)
    refine r_iconst hx hb dX1_countOaths_16 (by decide) (fun z5 ez5 => ?_)
    refine lv_istore (lv' := [(5, .int z5), (4, .int z4), (3, .int r3), (0, .ref (ad 21)), (1, .ref (ad k1)), (2, .int x2)]) hx hb dX1_countOaths_17 hl (by decide) rfl (fun ls hl => ?_)
    refine r_iconst hx hb dX1_countOaths_19 (by decide) (fun z6 ez6 => ?_)
    refine lv_istore (lv' := [(6, .int z6), (5, .int z5), (4, .int z4), (3, .int r3), (0, .ref (ad 21)), (1, .ref (ad k1)), (2, .int x2)]) hx hb dX1_countOaths_20 hl (by decide) rfl (fun ls hl => ?_)
    exact K22 σ τ0 H3 locs3 x2 r3 z4 z5 z6 ls hR hF hFL hP hS (by omega) (by omega) (lv_sub hl [4, 5, 6, 3, 2, 1, 0] rfl) (by omega)
set_option maxHeartbeats 4000000 in
theorem B_X1_countOaths_22 (p : Program) (l : Launch) (e : Env) (s : State) (m : MethodId) (args : Array Value) (below : List Frame) (meth : Method) (c : Code) (D : va_G) (cA : Nat → ClassId) (ad : Nat → Nat) (σ0 : Nat → Nat → Int32) (τ0 : Nat → Nat → Int64) (k1 : Nat) (n : Nat) (C : Cy p s m args meth c cX1_countOaths 8 wsX1_countOaths RX1 D cA ad none) (hk1 : 7 ≤ k1 ∧ k1 ≤ 9) (K2 : J_X1_countOaths_2 p l e s m args below meth c D cA ad σ0 τ0 k1 n) (K22 : J_X1_countOaths_22 p l e s m args below meth c D cA ad σ0 τ0 k1 n) (K81 : J_X1_countOaths_81 p l e s m args below meth c D cA ad σ0 τ0 k1 n) : J_X1_countOaths_22 p l e s m args below meth c D cA ad σ0 τ0 k1 (n + 1) := by
  obtain ⟨hx, hb, hml, hown, hts, hK, hk, hr, hI, hN⟩ := C
  intro σ τ H locs x2 x3 x4 x5 x6 ls hR hF hFL hP hS hc0 hc1 hl hm
  obtain rfl := FrL.nil hFL
  refine lv_iload hx hb dX1_countOaths_22 (lv_at hl 6 rfl) ?_
  refine lv_aload_n hx hb dX1_countOaths_24 rfl (lv_at hl 0 rfl) ?_
  refine fg_1_0 (k := 21) hx hb hts in_X1_countOaths_1 hown hK hP (by decide) (by decide) (hts _ lk_X1_countOaths_36) dX1_countOaths_25 ?_
  refine fgN_9_5 (k := 2) hx hb hts in_X1_countOaths_9 hown hK hP (by decide) (by decide) (hN.use nw_1_40) dX1_countOaths_28 ?_
  have hr1 := rg_9_5 hR (k := 2) (by decide) (by decide)
  refine r_icmp_ge (tgt := 103) hx hb dX1_countOaths_31 (by decide) (fun c2 => ?_) (fun c2 => ?_)
  · refine lv_aload_n hx hb dX1_countOaths_103 rfl (lv_at hl 0 rfl) ?_
    refine lv_iload_n hx hb dX1_countOaths_104 rfl (lv_at hl 2 rfl) ?_
    refine lv_iload hx hb dX1_countOaths_105 (lv_at hl 4 rfl) ?_
    refine lv_iload hx hb dX1_countOaths_107 (lv_at hl 5 rfl) ?_
    refine r_cVv (k := 21) (As := [.int x2, .int x4, .int x5]) (rest := []) ⟨hx, hb, hml, hown, hts⟩ hK hP hN hS (c_X1_noteSharers l D cA ad hI σ τ0 hR x2 x4 x5 (by omega)) (cwV 3 hts gX1_countOaths_X1_noteSharers rfl rfl rfl (by decide +kernel) ⟨by decide, by decide⟩) (rv_Camp hK hP (by decide) (by decide)) rfl hl.1 rfl (Nat.le_of_ble_eq_true rfl) dX1_countOaths_109 (Nat.zero_le _) (Nat.zero_le _) (fun u3 H3 locs3 hp3 hP hS => ?_)
    obtain ⟨σ3, τ3⟩ := u3
    obtain ⟨hR, f3, fL3⟩ : P_X1_noteSharers σ τ0 x2 x4 x5 σ3 τ3 := hp3
    have hP : va_P D vwCl (gw cA ad σ3 τ3) H3 := hP
    obtain rfl := FrL.nil fL3
    have hF := hF.step f3 (by decide)
    refine r_iinc (k := 2) (lv1 := fun z4 => [(2, .int z4), (0, .ref (ad 21)), (1, .ref (ad k1)), (3, .int x3), (4, .int x4), (5, .int x5), (6, .int x6)]) hx hb dX1_countOaths_112 hl rfl (by decide) (fun _ => rfl) (by decide) (by omega) (fun z4 ls ez4 hl => ?_)
    refine lv_goto (tgt := 2) hx hb dX1_countOaths_115 (by decide) ?_
    exact K2 σ3 τ0 H3 locs3 z4 ls hR hF hFL hP hS (by omega) (lv_sub hl [1, 2, 0] rfl) (by omega)
  · refine lv_aload_n hx hb dX1_countOaths_34 rfl (lv_at hl 1 rfl) ?_
    refine fgN_2_5 (k := k1) hx hb hts in_X1_countOaths_2 hown hK hP (by omega) (by omega) (hN.use nw_1_121) dX1_countOaths_35 ?_
    refine lv_iload hx hb dX1_countOaths_38 (lv_at hl 6 rfl) ?_
    obtain ⟨j5, ej5⟩ : ∃ j : Nat, x6.toInt = (j : Int) := ⟨_, ti_nat (by omega)⟩
    refine ad_days8 (k := k1 + 327) (j := j5) hx hb hK hP (by omega) (by omega) ej5 (by omega) dX1_countOaths_40 ?_
    refine lv_istore (lv' := [(7, .int (σ (k1 + 327) j5)), (0, .ref (ad 21)), (1, .ref (ad k1)), (2, .int x2), (3, .int x3), (4, .int x4), (5, .int x5), (6, .int x6)]) hx hb dX1_countOaths_41 hl (by decide) rfl (fun ls hl => ?_)
    refine lv_iload hx hb dX1_countOaths_43 (lv_at hl 0 rfl) ?_
    refine r_iconst hx hb dX1_countOaths_45 (by decide) (fun z6 ez6 => ?_)
    refine r_icmp_eq (tgt := 97) hx hb dX1_countOaths_46 (by decide) (fun c7 => ?_) (fun c7 => ?_)
    · refine r_iinc (k := 7) (lv1 := fun z8 => [(6, .int z8), (7, .int (σ (k1 + 327) j5)), (0, .ref (ad 21)), (1, .ref (ad k1)), (2, .int x2), (3, .int x3), (4, .int x4), (5, .int x5)]) hx hb dX1_countOaths_97 hl rfl (by decide) (fun _ => rfl) (by decide) (by omega) (fun z8 ls ez8 hl => ?_)
      refine lv_goto (tgt := 22) hx hb dX1_countOaths_100 (by decide) ?_
      exact K22 σ τ0 H locs x2 x3 x4 x5 z8 ls hR hF hFL hP hS (by omega) (by omega) (lv_sub hl [2, 3, 4, 5, 6, 7, 0] rfl) (by omega)
    · refine lv_iload_n hx hb dX1_countOaths_49 rfl (lv_at hl 4 rfl) ?_
      refine lv_iload hx hb dX1_countOaths_50 (lv_at hl 7 rfl) ?_
      refine r_ishrU hx hb dX1_countOaths_52 (fun z9 => ?_)
      refine r_iconst hx hb dX1_countOaths_53 (by decide) (fun z10 ez10 => ?_)
      refine r_iand (w := 1) hx hb 1 dX1_countOaths_54 (by omega) (by decide) (fun z11 ez11 => ?_)
      refine r_if_ne (tgt := 61) hx hb dX1_countOaths_55 (by decide) (fun c12 => ?_) (fun c12 => ?_)
      · refine lv_iload hx hb dX1_countOaths_61 (lv_at hl 5 rfl) ?_
        refine r_iconst hx hb dX1_countOaths_63 (by decide) (fun z13 ez13 => ?_)
        refine r_icmp_eq (tgt := 74) hx hb dX1_countOaths_64 (by decide) (fun c14 => ?_) (fun c14 => ?_)
        · refine lv_iload hx hb dX1_countOaths_74 (lv_at hl 0 rfl) ?_
          refine lv_istore (lv' := [(4, .int (σ (k1 + 327) j5)), (7, .int (σ (k1 + 327) j5)), (0, .ref (ad 21)), (1, .ref (ad k1)), (2, .int x2), (3, .int x3), (5, .int x5), (6, .int x6)]) hx hb dX1_countOaths_76 hl (by decide) rfl (fun ls hl => ?_)
          refine r_iconst hx hb dX1_countOaths_78 (by decide) (fun z15 ez15 => ?_)
          refine lv_istore (lv' := [(5, .int z15), (4, .int (σ (k1 + 327) j5)), (7, .int (σ (k1 + 327) j5)), (0, .ref (ad 21)), (1, .ref (ad k1)), (2, .int x2), (3, .int x3), (6, .int x6)]) hx hb dX1_countOaths_79 hl (by decide) rfl (fun ls hl => ?_)
          exact K81 σ τ0 H locs x2 x3 (σ (k1 + 327) j5) z15 x6 (σ (k1 + 327) j5) ls hR hF hFL hP hS (by omega) (by omega) (lv_sub hl [3, 4, 5, 6, 1, 0, 7, 2] rfl) (by omega)
        · refine lv_iload hx hb dX1_countOaths_67 (lv_at hl 0 rfl) ?_
          refine lv_iload hx hb dX1_countOaths_69 (lv_at hl 5 rfl) ?_
          refine r_icmp_ge (tgt := 81) hx hb dX1_countOaths_71 (by decide) (fun c16 => ?_) (fun c16 => ?_)
          · exact K81 σ τ0 H locs x2 x3 x4 x5 x6 (σ (k1 + 327) j5) ls hR hF hFL hP hS (by omega) (by omega) (lv_sub hl [1, 2, 3, 4, 5, 6, 7, 0] rfl) (by omega)
          · refine lv_iload hx hb dX1_countOaths_74 (lv_at hl 0 rfl) ?_
            refine lv_istore (lv' := [(4, .int (σ (k1 + 327) j5)), (7, .int (σ (k1 + 327) j5)), (0, .ref (ad 21)), (1, .ref (ad k1)), (2, .int x2), (3, .int x3), (5, .int x5), (6, .int x6)]) hx hb dX1_countOaths_76 hl (by decide) rfl (fun ls hl => ?_)
            refine r_iconst hx hb dX1_countOaths_78 (by decide) (fun z17 ez17 => ?_)
            refine lv_istore (lv' := [(5, .int z17), (4, .int (σ (k1 + 327) j5)), (7, .int (σ (k1 + 327) j5)), (0, .ref (ad 21)), (1, .ref (ad k1)), (2, .int x2), (3, .int x3), (6, .int x6)]) hx hb dX1_countOaths_79 hl (by decide) rfl (fun ls hl => ?_)
            exact K81 σ τ0 H locs x2 x3 (σ (k1 + 327) j5) z17 x6 (σ (k1 + 327) j5) ls hR hF hFL hP hS (by omega) (by omega) (lv_sub hl [3, 4, 5, 6, 1, 0, 7, 2] rfl) (by omega)
      · refine lv_goto (tgt := 97) hx hb dX1_countOaths_58 (by decide) ?_
        refine r_iinc (k := 7) (lv1 := fun z18 => [(6, .int z18), (7, .int (σ (k1 + 327) j5)), (0, .ref (ad 21)), (1, .ref (ad k1)), (2, .int x2), (3, .int x3), (4, .int x4), (5, .int x5)]) hx hb dX1_countOaths_97 hl rfl (by decide) (fun _ => rfl) (by decide) (by omega) (fun z18 ls ez18 hl => ?_)
        refine lv_goto (tgt := 22) hx hb dX1_countOaths_100 (by decide) ?_
        exact K22 σ τ0 H locs x2 x3 x4 x5 z18 ls hR hF hFL hP hS (by omega) (by omega) (lv_sub hl [2, 3, 4, 5, 6, 7, 0] rfl) (by omega)
set_option maxHeartbeats 4000000 in
theorem B_X1_countOaths_81 (p : Program) (l : Launch) (e : Env) (s : State) (m : MethodId) (args : Array Value) (below : List Frame) (meth : Method) (c : Code) (D : va_G) (cA : Nat → ClassId) (ad : Nat → Nat) (σ0 : Nat → Nat → Int32) (τ0 : Nat → Nat → Int64) (k1 : Nat) (n : Nat) (C : Cy p s m args meth c cX1_countOaths 8 wsX1_countOaths RX1 D cA ad none) (hk1 : 7 ≤ k1 ∧ k1 ≤ 9) (K2 : J_X1_countOaths_2 p l e s m args below meth c D cA ad σ0 τ0 k1 n) (K22 : J_X1_countOaths_22 p l e s m args below meth c D cA ad σ0 τ0 k1 n) (K81 : J_X1_countOaths_81 p l e s m args below meth c D cA ad σ0 τ0 k1 n) : J_X1_countOaths_81 p l e s m args below meth c D cA ad σ0 τ0 k1 (n + 1) := by
  obtain ⟨hx, hb, hml, hown, hts, hK, hk, hr, hI, hN⟩ := C
  intro σ τ H locs x2 x3 x4 x5 x6 x7 ls hR hF hFL hP hS hc0 hc1 hl hm
  obtain rfl := FrL.nil hFL
  refine lv_iload hx hb dX1_countOaths_81 (lv_at hl 7 rfl) ?_
  refine lv_iload hx hb dX1_countOaths_83 (lv_at hl 4 rfl) ?_
  refine r_icmp_ne (tgt := 97) hx hb dX1_countOaths_85 (by decide) (fun c1 => ?_) (fun c1 => ?_)
  · refine r_iinc (k := 6) (lv1 := fun z2 => [(6, .int z2), (0, .ref (ad 21)), (1, .ref (ad k1)), (2, .int x2), (3, .int x3), (4, .int x4), (5, .int x5), (7, .int x7)]) hx hb dX1_countOaths_97 hl rfl (by decide) (fun _ => rfl) (by decide) (by omega) (fun z2 ls ez2 hl => ?_)
    refine lv_goto (tgt := 22) hx hb dX1_countOaths_100 (by decide) ?_
    exact K22 σ τ0 H locs x2 x3 x4 x5 z2 ls hR hF hFL hP hS (by omega) (by omega) (lv_sub hl [1, 2, 3, 4, 5, 6, 0] rfl) (by omega)
  · refine lv_iload hx hb dX1_countOaths_88 (lv_at hl 5 rfl) ?_
    refine r_iconst hx hb dX1_countOaths_90 (by decide) (fun z3 ez3 => ?_)
    refine lv_iload hx hb dX1_countOaths_91 (lv_at hl 6 rfl) ?_
    refine r_ishlU hx hb dX1_countOaths_93 (fun z4 => ?_)
    refine r_iorU hx hb dX1_countOaths_94 (fun z5 => ?_)
    refine lv_istore (lv' := [(5, .int z5), (0, .ref (ad 21)), (1, .ref (ad k1)), (2, .int x2), (3, .int x3), (4, .int x4), (6, .int x6), (7, .int x7)]) hx hb dX1_countOaths_95 hl (by decide) rfl (fun ls hl => ?_)
    refine r_iinc (k := 6) (lv1 := fun z6 => [(6, .int z6), (5, .int z5), (0, .ref (ad 21)), (1, .ref (ad k1)), (2, .int x2), (3, .int x3), (4, .int x4), (7, .int x7)]) hx hb dX1_countOaths_97 hl rfl (by decide) (fun _ => rfl) (by decide) (by omega) (fun z6 ls ez6 hl => ?_)
    refine lv_goto (tgt := 22) hx hb dX1_countOaths_100 (by decide) ?_
    exact K22 σ τ0 H locs x2 x3 x4 z5 z6 ls hR hF hFL hP hS (by omega) (by omega) (lv_sub hl [2, 3, 4, 5, 6, 1, 0] rfl) (by omega)
theorem A_X1_countOaths (p : Program) (l : Launch) (e : Env) (s : State) (m : MethodId) (args : Array Value) (below : List Frame) (meth : Method) (c : Code) (D : va_G) (cA : Nat → ClassId) (ad : Nat → Nat) (σ0 : Nat → Nat → Int32) (τ0 : Nat → Nat → Int64) (k1 : Nat) (C : Cy p s m args meth c cX1_countOaths 8 wsX1_countOaths RX1 D cA ad none) (hk1 : 7 ≤ k1 ∧ k1 ≤ 9) : ∀ n : Nat, J_X1_countOaths_2 p l e s m args below meth c D cA ad σ0 τ0 k1 n ∧ J_X1_countOaths_22 p l e s m args below meth c D cA ad σ0 τ0 k1 n ∧ J_X1_countOaths_81 p l e s m args below meth c D cA ad σ0 τ0 k1 n := by
  intro n
  induction n with
  | zero =>
    exact ⟨(by intro σ τ H locs x2 ls hR hF hFL hP hS hc0 hl hm; exfalso; omega), (by intro σ τ H locs x2 x3 x4 x5 x6 ls hR hF hFL hP hS hc0 hc1 hl hm; exfalso; omega), (by intro σ τ H locs x2 x3 x4 x5 x6 x7 ls hR hF hFL hP hS hc0 hc1 hl hm; exfalso; omega)⟩
  | succ n ih =>
    exact ⟨B_X1_countOaths_2 p l e s m args below meth c D cA ad σ0 τ0 k1 n C hk1 ih.1 ih.2.1 ih.2.2, B_X1_countOaths_22 p l e s m args below meth c D cA ad σ0 τ0 k1 n C hk1 ih.1 ih.2.1 ih.2.2, B_X1_countOaths_81 p l e s m args below meth c D cA ad σ0 τ0 k1 n C hk1 ih.1 ih.2.1 ih.2.2⟩
set_option maxHeartbeats 4000000 in
theorem c_X1_countOaths (l : Launch) (D : va_G) (cA : Nat → ClassId) (ad : Nat → Nat) (hI : Inj ad) (σ0 : Nat → Nat → Int32) (τ0 : Nat → Nat → Int64) (hR : Rg σ0) (k1 : Nat) (hk1 : 7 ≤ k1 ∧ k1 ≤ 9) : Met l yX1_countOaths wsX1_countOaths ({ frames := 2, cells := 0, slots := 0, locals := 45 } : Room) (WQc D cA ad [.ref (ad 21), .ref (ad k1)] σ0 τ0) (va_Qv (fun u : SS => P_X1_countOaths σ0 τ0 k1 u.1 u.2) (WB D cA ad) (AA ad)) 0 0 (AA ad) := by
  refine Met.ofW (cc := cX1_countOaths) (maxL := 8) (ret := none) (by decide) rfl ?_
  intro p e s m args below meth c s₁ B hml hv
  obtain ⟨rfl, hP, hK, hN⟩ := hv
  have C : Cy p s m _ meth c cX1_countOaths 8 wsX1_countOaths RX1 D cA ad none := ⟨B.exec, B.bytes, hml, findClass_of_methodNamed B.named, atoms_spec (ws := wsX1_countOaths) B.pre, hK, B.notSynchronized, B.returns, hI, hN⟩
  have hl := lv_entry ([.ref (ad 21), .ref (ad k1)]) (n := 8) (Nat.le_of_ble_eq_true rfl)
  rw [lg_entry_eq]
  generalize (lg_sl ([.ref (ad 21), .ref (ad k1)]) ++ List.replicate (8 - (lg_sl ([.ref (ad 21), .ref (ad k1)])).length) Slot.unset).toArray = ls at hl ⊢
  have hl : lv_has ls 8 [(0, .ref (ad 21)), (1, .ref (ad k1))] := hl
  have hS : va_S (AA ad) s.heap s.heap [] := va_S.rf
  have hF : Fr L_X1_countOaths σ0 σ0 := Fr.rf
  have hFL : FrL LL_X1_countOaths τ0 τ0 := FrL.rf
  have hA := A_X1_countOaths p l e s m _ below meth c D cA ad σ0 τ0 k1 C hk1 248
  have K2 := hA.1
  have K22 := hA.2.1
  have K81 := hA.2.2
  clear hA
  obtain ⟨hx, hb, _, hown, hts, _, hk, hr, _, _⟩ := C
  refine r_iconst hx hb dX1_countOaths_0 (by decide) (fun z1 ez1 => ?_)
  refine lv_istore_n (lv' := [(2, .int z1), (0, .ref (ad 21)), (1, .ref (ad k1))]) hx hb dX1_countOaths_1 rfl hl (by decide) rfl (fun ls hl => ?_)
  exact K2 σ0 τ0 s.heap [] z1 ls hR hF hFL hP hS (by omega) (lv_sub hl [1, 2, 0] rfl) (by omega)
theorem in_X0_shareOut_0 : ∀ w ∈ u_ws RX0 TX0 3, w ∈ wsX0_shareOut := by decide +kernel
theorem in_X0_shareOut_2 : ∀ w ∈ u_ws RX2 TX2 7, w ∈ wsX0_shareOut := by decide +kernel
theorem lk_X0_shareOut_15 : Cond.fieldLink RX0 15 "CuckooShares$Acts" "camp" "LCuckooShares$Camp;" ∈ wsX0_shareOut := by decide +kernel
abbrev L_X0_shareOut : List Rc := [(360, 360, 0, 7), (361, 361, 0, 7), (362, 362, 0, 7), (365, 365, 0, 1), (366, 366, 0, 1), (367, 367, 0, 1), (7, 9, 0, 2), (347, 349, 0, 7), (334, 336, 0, 7)]
abbrev LL_X0_shareOut : List Rc := []
def P_X0_shareOut (σ0 : Nat → Nat → Int32) (τ0 : Nat → Nat → Int64) (k1 : Nat) (r : Int32) (σ : Nat → Nat → Int32) (τ : Nat → Nat → Int64) : Prop := Rg σ ∧ Fr L_X0_shareOut σ0 σ ∧ FrL LL_X0_shareOut τ0 τ ∧ (0 ≤ r.toInt ∧ r.toInt ≤ 2)
set_option maxHeartbeats 4000000 in
theorem c_X0_shareOut (l : Launch) (D : va_G) (cA : Nat → ClassId) (ad : Nat → Nat) (hI : Inj ad) (σ0 : Nat → Nat → Int32) (τ0 : Nat → Nat → Int64) (hR : Rg σ0) (k1 : Nat) (hk1 : 7 ≤ k1 ∧ k1 ≤ 9) : Met l yX0_shareOut wsX0_shareOut ({ frames := 3, cells := 0, slots := 0, locals := 72 } : Room) (WQc D cA ad [.ref (ad 22), .ref (ad k1)] σ0 τ0) (va_Qi (fun (r : Int32) (u : SS) => P_X0_shareOut σ0 τ0 k1 r u.1 u.2) (WB D cA ad) (AA ad)) 0 0 (AA ad) := by
  refine Met.ofW (cc := cX0_shareOut) (maxL := 2) (ret := (some .int)) (by decide) rfl ?_
  intro p e s m args below meth c s₁ B hml hv
  obtain ⟨rfl, hP, hK, hN⟩ := hv
  have C : Cy p s m _ meth c cX0_shareOut 2 wsX0_shareOut RX0 D cA ad (some .int) := ⟨B.exec, B.bytes, hml, findClass_of_methodNamed B.named, atoms_spec (ws := wsX0_shareOut) B.pre, hK, B.notSynchronized, B.returns, hI, hN⟩
  have hl := lv_entry ([.ref (ad 22), .ref (ad k1)]) (n := 2) (Nat.le_of_ble_eq_true rfl)
  rw [lg_entry_eq]
  generalize (lg_sl ([.ref (ad 22), .ref (ad k1)]) ++ List.replicate (2 - (lg_sl ([.ref (ad 22), .ref (ad k1)])).length) Slot.unset).toArray = ls at hl ⊢
  have hl : lv_has ls 2 [(0, .ref (ad 22)), (1, .ref (ad k1))] := hl
  have hS : va_S (AA ad) s.heap s.heap [] := va_S.rf
  have hF : Fr L_X0_shareOut σ0 σ0 := Fr.rf
  have hFL : FrL LL_X0_shareOut τ0 τ0 := FrL.rf
  obtain ⟨hx, hb, _, hown, hts, _, hk, hr, _, _⟩ := C
  refine lv_aload_n hx hb dX0_shareOut_0 rfl (lv_at hl 1 rfl) ?_
  refine fgN_2_1 (k := k1) hx hb hts in_X0_shareOut_2 hown hK hP (by omega) (by omega) (hN.use nw_0_19) dX0_shareOut_1 ?_
  refine r_iconst hx hb dX0_shareOut_4 (by decide) (fun z1 ez1 => ?_)
  refine r_icmp_ne (tgt := 10) hx hb dX0_shareOut_5 (by decide) (fun c2 => ?_) (fun c2 => ?_)
  · refine lv_aload_n hx hb dX0_shareOut_10 rfl (lv_at hl 1 rfl) ?_
    refine fgN_2_0 (k := k1) hx hb hts in_X0_shareOut_2 hown hK hP (by omega) (by omega) (hN.use nw_0_88) dX0_shareOut_11 ?_
    refine r_bipush hx hb dX0_shareOut_14 (by decide) (fun z3 ez3 => ?_)
    refine r_icmp_lt (tgt := 21) hx hb dX0_shareOut_16 (by decide) (fun c4 => ?_) (fun c4 => ?_)
    · refine lv_aload_n hx hb dX0_shareOut_21 rfl (lv_at hl 0 rfl) ?_
      refine fg_0_1 (k := 22) hx hb hts in_X0_shareOut_0 hown hK hP (by decide) (by decide) (hts _ lk_X0_shareOut_15) dX0_shareOut_22 ?_
      refine lv_aload_n hx hb dX0_shareOut_25 rfl (lv_at hl 1 rfl) ?_
      refine r_cVv (k := 21) (As := [.ref (ad k1)]) (rest := []) ⟨hx, hb, hml, hown, hts⟩ hK hP hN hS (c_X1_pitch l D cA ad hI σ0 τ0 hR k1 ⟨by omega, by omega⟩) (cwV 1 hts gX0_shareOut_X1_pitch rfl rfl rfl (by decide +kernel) ⟨by decide, by decide⟩) (rv_Camp hK hP (by decide) (by decide)) rfl hl.1 rfl (Nat.le_of_ble_eq_true rfl) dX0_shareOut_26 (Nat.zero_le _) (Nat.zero_le _) (fun u5 H5 locs5 hp5 hP hS => ?_)
      obtain ⟨σ5, τ5⟩ := u5
      obtain ⟨hR, f5, fL5⟩ : P_X1_pitch σ0 τ0 k1 σ5 τ5 := hp5
      have hP : va_P D vwCl (gw cA ad σ5 τ5) H5 := hP
      obtain rfl := FrL.nil fL5
      have hF := hF.step f5 (by decide)
      refine lv_aload_n hx hb dX0_shareOut_29 rfl (lv_at hl 0 rfl) ?_
      refine fg_0_1 (k := 22) hx hb hts in_X0_shareOut_0 hown hK hP (by decide) (by decide) (hts _ lk_X0_shareOut_15) dX0_shareOut_30 ?_
      refine lv_aload_n hx hb dX0_shareOut_33 rfl (lv_at hl 1 rfl) ?_
      refine r_cVv (k := 21) (As := [.ref (ad k1)]) (rest := []) ⟨hx, hb, hml, hown, hts⟩ hK hP hN hS (c_X1_countOaths l D cA ad hI σ5 τ0 hR k1 ⟨by omega, by omega⟩) (cwV 1 hts gX0_shareOut_X1_countOaths rfl rfl rfl (by decide +kernel) ⟨by decide, by decide⟩) (rv_Camp hK hP (by decide) (by decide)) rfl hl.1 rfl (Nat.le_of_ble_eq_true rfl) dX0_shareOut_34 (Nat.zero_le _) (Nat.zero_le _) (fun u6 H6 locs6 hp6 hP hS => ?_)
      obtain ⟨σ6, τ6⟩ := u6
      obtain ⟨hR, f6, fL6⟩ : P_X1_countOaths σ5 τ0 k1 σ6 τ6 := hp6
      have hP : va_P D vwCl (gw cA ad σ6 τ6) H6 := hP
      obtain rfl := FrL.nil fL6
      have hF := hF.step f6 (by decide)
      refine lv_aload_n hx hb dX0_shareOut_37 rfl (lv_at hl 0 rfl) ?_
      refine lv_aload_n hx hb dX0_shareOut_38 rfl (lv_at hl 1 rfl) ?_
      refine r_cVv (k := 22) (As := [.ref (ad k1)]) (rest := []) ⟨hx, hb, hml, hown, hts⟩ hK hP hN hS (c_X0_storeAndEnd l D cA ad hI σ6 τ0 hR k1 ⟨by omega, by omega⟩) (cwV 1 hts gX0_shareOut_X0_storeAndEnd rfl rfl rfl (by decide +kernel) ⟨by decide, by decide⟩) (rv_Acts hK hP (by decide) (by decide)) rfl hl.1 rfl (Nat.le_of_ble_eq_true rfl) dX0_shareOut_39 (Nat.zero_le _) (Nat.zero_le _) (fun u7 H7 locs7 hp7 hP hS => ?_)
      obtain ⟨σ7, τ7⟩ := u7
      obtain ⟨hR, f7, fL7⟩ : P_X0_storeAndEnd σ6 τ0 k1 σ7 τ7 := hp7
      have hP : va_P D vwCl (gw cA ad σ7 τ7) H7 := hP
      obtain rfl := FrL.nil fL7
      have hF := hF.step f7 (by decide)
      refine r_iconst hx hb dX0_shareOut_42 (by decide) (fun z8 ez8 => ?_)
      exact r_iret hx hb hr hK hP hS hk dX0_shareOut_43 (show P_X0_shareOut σ0 τ0 k1 z8 σ7 τ0 from ⟨hR, hF, hFL, by omega⟩)
    · refine r_iconst hx hb dX0_shareOut_19 (by decide) (fun z9 ez9 => ?_)
      exact r_iret hx hb hr hK hP hS hk dX0_shareOut_20 (show P_X0_shareOut σ0 τ0 k1 z9 σ0 τ0 from ⟨hR, hF, hFL, by omega⟩)
  · refine r_iconst hx hb dX0_shareOut_8 (by decide) (fun z10 ez10 => ?_)
    exact r_iret hx hb hr hK hP hS hk dX0_shareOut_9 (show P_X0_shareOut σ0 τ0 k1 z10 σ0 τ0 from ⟨hR, hF, hFL, by omega⟩)
theorem in_X3_pop_3 : ∀ w ∈ u_ws RX3 TX3 3, w ∈ wsX3_pop := by decide +kernel
theorem lk_X3_pop_11 : Cond.fieldLink RX3 11 "CuckooShares$History" "kept" "[LCuckooShares$Days;" ∈ wsX3_pop := by decide +kernel
theorem lk_X3_pop_18 : Cond.fieldLink RX3 18 "CuckooShares$History" "size" "I" ∈ wsX3_pop := by decide +kernel
theorem lk_X3_pop_22 : Cond.fieldLink RX3 22 "CuckooShares$History" "oldest" "I" ∈ wsX3_pop := by decide +kernel
abbrev L_X3_pop : List Rc := [(20, 20, 2, 2), (7, 19, 0, 2), (308, 320, 0, 8), (321, 333, 0, 8), (334, 346, 0, 8), (347, 359, 0, 8)]
abbrev LL_X3_pop : List Rc := []
def P_X3_pop (σ0 : Nat → Nat → Int32) (τ0 : Nat → Nat → Int64)  (r : Int32) (σ : Nat → Nat → Int32) (τ : Nat → Nat → Int64) : Prop := Rg σ ∧ Fr L_X3_pop σ0 σ ∧ FrL LL_X3_pop τ0 τ ∧ (-1 ≤ r.toInt ∧ r.toInt ≤ 7)
set_option maxHeartbeats 4000000 in
theorem c_X3_pop (l : Launch) (D : va_G) (cA : Nat → ClassId) (ad : Nat → Nat) (hI : Inj ad) (σ0 : Nat → Nat → Int32) (τ0 : Nat → Nat → Int64) (hR : Rg σ0)   : Met l yX3_pop wsX3_pop ({ frames := 2, cells := 0, slots := 0, locals := 81 } : Room) (WQc D cA ad [.ref (ad 20), .ref (ad 7)] σ0 τ0) (va_Qi (fun (r : Int32) (u : SS) => P_X3_pop σ0 τ0 r u.1 u.2) (WB D cA ad) (AA ad)) 0 0 (AA ad) := by
  refine Met.ofW (cc := cX3_pop) (maxL := 2) (ret := (some .int)) (by decide) rfl ?_
  intro p e s m args below meth c s₁ B hml hv
  obtain ⟨rfl, hP, hK, hN⟩ := hv
  have C : Cy p s m _ meth c cX3_pop 2 wsX3_pop RX3 D cA ad (some .int) := ⟨B.exec, B.bytes, hml, findClass_of_methodNamed B.named, atoms_spec (ws := wsX3_pop) B.pre, hK, B.notSynchronized, B.returns, hI, hN⟩
  have hl := lv_entry ([.ref (ad 20), .ref (ad 7)]) (n := 2) (Nat.le_of_ble_eq_true rfl)
  rw [lg_entry_eq]
  generalize (lg_sl ([.ref (ad 20), .ref (ad 7)]) ++ List.replicate (2 - (lg_sl ([.ref (ad 20), .ref (ad 7)])).length) Slot.unset).toArray = ls at hl ⊢
  have hl : lv_has ls 2 [(0, .ref (ad 20)), (1, .ref (ad 7))] := hl
  have hS : va_S (AA ad) s.heap s.heap [] := va_S.rf
  have hF : Fr L_X3_pop σ0 σ0 := Fr.rf
  have hFL : FrL LL_X3_pop τ0 τ0 := FrL.rf
  obtain ⟨hx, hb, _, hown, hts, _, hk, hr, _, _⟩ := C
  refine lv_aload_n hx hb dX3_pop_0 rfl (lv_at hl 0 rfl) ?_
  refine fg_3_2 (k := 20) hx hb hts in_X3_pop_3 hown hK hP (by decide) (by decide) (hts _ lk_X3_pop_18) dX3_pop_1 ?_
  have hr1 := rg_3_2 hR (k := 20) (by decide) (by decide)
  refine r_if_ne (tgt := 9) hx hb dX3_pop_4 (by decide) (fun c2 => ?_) (fun c2 => ?_)
  · refine lv_aload_n hx hb dX3_pop_9 rfl (lv_at hl 0 rfl) ?_
    refine lv_dup hx hb dX3_pop_10 rfl ?_
    refine fg_3_2 (k := 20) hx hb hts in_X3_pop_3 hown hK hP (by decide) (by decide) (hts _ lk_X3_pop_18) dX3_pop_11 ?_
    refine r_iconst hx hb dX3_pop_14 (by decide) (fun z3 ez3 => ?_)
    refine r_isub hx hb dX3_pop_15 (by omega) (fun z4 ez4 => ?_)
    refine fp_3_2 (k := 20) hx hb hts in_X3_pop_3 hown hK hP (by decide) (by decide) (hts _ lk_X3_pop_18) hI hR hS (by omega) dX3_pop_16 (fun σ5 H5 locs5 u5 v5 hR hP hS => ?_)
    have hF := hF.puts u5 0 rfl (by decide) (by decide) (by decide) (by decide)
    refine lv_aload_n hx hb dX3_pop_19 rfl (lv_at hl 1 rfl) ?_
    refine lv_aload_n hx hb dX3_pop_20 rfl (lv_at hl 0 rfl) ?_
    refine fg_3_0 (k := 20) hx hb hts in_X3_pop_3 hown hK hP (by decide) (by decide) (hts _ lk_X3_pop_11) dX3_pop_21 ?_
    refine lv_aload_n hx hb dX3_pop_24 rfl (lv_at hl 0 rfl) ?_
    refine fg_3_1 (k := 20) hx hb hts in_X3_pop_3 hown hK hP (by decide) (by decide) (hts _ lk_X3_pop_22) dX3_pop_25 ?_
    have hr6 := rg_3_1 hR (k := 20) (by decide) (by decide)
    refine lv_aload_n hx hb dX3_pop_28 rfl (lv_at hl 0 rfl) ?_
    refine fg_3_2 (k := 20) hx hb hts in_X3_pop_3 hown hK hP (by decide) (by decide) (hts _ lk_X3_pop_18) dX3_pop_29 ?_
    refine r_iadd hx hb dX3_pop_32 (by omega) (fun z7 ez7 => ?_)
    refine r_bipush hx hb dX3_pop_33 (by decide) (fun z8 ez8 => ?_)
    refine r_irem hx hb dX3_pop_35 (by omega) (fun z9 ez9 => ?_)
    have fz9 := ti_tm (a := z7.toInt) (b := z8.toInt) (by omega)
    obtain ⟨j10, ej10⟩ : ∃ j : Nat, z9.toInt = (j : Int) := ⟨_, ti_nat (by omega)⟩
    refine ad_Kept (k := 32) (j := j10) hx hb hK hP (by decide) (by decide) ej10 (by omega) dX3_pop_36 ?_
    refine r_cVv (k := 7) (As := [.ref (ad (10 + j10))]) (rest := []) ⟨hx, hb, hml, hown, hts⟩ hK hP hN hS (c_X2_copyFrom l D cA ad hI σ5 τ0 hR 7 (10 + j10) ⟨by omega, by omega⟩ ⟨by omega, by omega⟩) (cwV 1 hts gX3_pop_X2_copyFrom rfl rfl rfl (by decide +kernel) ⟨by decide, by decide⟩) (rv_Days hK hP (by decide) (by decide)) rfl hl.1 rfl (Nat.le_of_ble_eq_true rfl) dX3_pop_37 (Nat.zero_le _) (Nat.zero_le _) (fun u11 H11 locs11 hp11 hP hS => ?_)
    obtain ⟨σ11, τ11⟩ := u11
    obtain ⟨hR, f11, fL11⟩ : P_X2_copyFrom σ5 τ0 7 (10 + j10) σ11 τ11 := hp11
    have hP : va_P D vwCl (gw cA ad σ11 τ11) H11 := hP
    obtain rfl := FrL.nil fL11
    have hF := hF.step f11 (by decide)
    have t12 : (σ11 20 2).toInt = (σ5 20 2).toInt := congrArg Int32.toInt (f11.at 20 2 (by decide))
    refine lv_aload_n hx hb dX3_pop_40 rfl (lv_at hl 0 rfl) ?_
    refine fg_3_2 (k := 20) hx hb hts in_X3_pop_3 hown hK hP (by decide) (by decide) (hts _ lk_X3_pop_18) dX3_pop_41 ?_
    exact r_iret hx hb hr hK hP hS hk dX3_pop_44 (show P_X3_pop σ0 τ0 (σ11 20 2) σ11 τ0 from ⟨hR, hF, hFL, by omega⟩)
  · refine r_iconst hx hb dX3_pop_7 (by decide) (fun z13 ez13 => ?_)
    exact r_iret hx hb hr hK hP hS hk dX3_pop_8 (show P_X3_pop σ0 τ0 z13 σ0 τ0 from ⟨hR, hF, hFL, by omega⟩)
theorem in_X1_firstHeard_1 : ∀ w ∈ u_ws RX1 TX1 9, w ∈ wsX1_firstHeard := by decide +kernel
theorem in_X1_firstHeard_9 : ∀ w ∈ u_ws RX9 TX9 14, w ∈ wsX1_firstHeard := by decide +kernel
theorem lk_X1_firstHeard_21 : Cond.fieldLink RX1 21 "CuckooShares$Camp" "heard" "[I" ∈ wsX1_firstHeard := by decide +kernel
theorem lk_X1_firstHeard_36 : Cond.fieldLink RX1 36 "CuckooShares$Camp" "valley" "LCuckooShares$Valley;" ∈ wsX1_firstHeard := by decide +kernel
abbrev L_X1_firstHeard : List Rc := []
abbrev LL_X1_firstHeard : List Rc := []
def P_X1_firstHeard (σ0 : Nat → Nat → Int32) (τ0 : Nat → Nat → Int64) (a1 : Int32) (a2 : Int32) (r : Int32) (σ : Nat → Nat → Int32) (τ : Nat → Nat → Int64) : Prop := Rg σ ∧ Fr L_X1_firstHeard σ0 σ ∧ FrL LL_X1_firstHeard τ0 τ ∧ (-1 ≤ r.toInt ∧ r.toInt ≤ 9)
def J_X1_firstHeard_9 (p : Program) (l : Launch) (e : Env) (s : State) (m : MethodId) (args : Array Value) (below : List Frame) (meth : Method) (c : Code) (D : va_G) (cA : Nat → ClassId) (ad : Nat → Nat) (σ0 : Nat → Nat → Int32) (τ0 : Nat → Nat → Int64) (a1 : Int32) (a2 : Int32) (n : Nat) : Prop := ∀ (σ : Nat → Nat → Int32) (τ : Nat → Nat → Int64) (H : Heap) (locs : List Loc) (x3 : Int32) (x4 : Int32) (ls : Array Slot), Rg σ → Fr L_X1_firstHeard σ0 σ → FrL LL_X1_firstHeard τ0 τ → va_P D vwCl (gw cA ad σ τ) H → va_S (AA ad) s.heap H locs → (0 ≤ x4.toInt ∧ x4.toInt ≤ 10) → lv_has ls 5 [(0, .ref (ad 21)), (1, .int a1), (2, .int a2), (3, .int x3), (4, .int x4)] → 2 * (10 - x4.toInt) + 1 < (n : Int) → W p l e ({ frames := 2, cells := 0, slots := 0, locals := 44 } : Room) s m args below meth c H locs 0 0 (MQ below (va_Qi (fun (r : Int32) (u : SS) => P_X1_firstHeard σ0 τ0 a1 a2 r u.1 u.2) (WB D cA ad) (AA ad)) args s 0 0 (AA ad)) (F0 m 9 ls [])
set_option maxHeartbeats 4000000 in
theorem B_X1_firstHeard_9 (p : Program) (l : Launch) (e : Env) (s : State) (m : MethodId) (args : Array Value) (below : List Frame) (meth : Method) (c : Code) (D : va_G) (cA : Nat → ClassId) (ad : Nat → Nat) (σ0 : Nat → Nat → Int32) (τ0 : Nat → Nat → Int64) (a1 : Int32) (a2 : Int32) (n : Nat) (C : Cy p s m args meth c cX1_firstHeard 5 wsX1_firstHeard RX1 D cA ad (some .int)) (ha1 : 0 ≤ a1.toInt ∧ a1.toInt ≤ 3) (ha2 : 0 ≤ a2.toInt ∧ a2.toInt ≤ 1) (K9 : J_X1_firstHeard_9 p l e s m args below meth c D cA ad σ0 τ0 a1 a2 n) : J_X1_firstHeard_9 p l e s m args below meth c D cA ad σ0 τ0 a1 a2 (n + 1) := by
  obtain ⟨hx, hb, hml, hown, hts, hK, hk, hr, hI, hN⟩ := C
  intro σ τ H locs x3 x4 ls hR hF hFL hP hS hc0 hl hm
  obtain rfl := Fr.nil hF
  obtain rfl := FrL.nil hFL
  refine lv_iload hx hb dX1_firstHeard_9 (lv_at hl 4 rfl) ?_
  refine lv_aload_n hx hb dX1_firstHeard_11 rfl (lv_at hl 0 rfl) ?_
  refine fg_1_0 (k := 21) hx hb hts in_X1_firstHeard_1 hown hK hP (by decide) (by decide) (hts _ lk_X1_firstHeard_36) dX1_firstHeard_12 ?_
  refine fgN_9_11 (k := 2) hx hb hts in_X1_firstHeard_9 hown hK hP (by decide) (by decide) (hN.use nw_1_79) dX1_firstHeard_15 ?_
  refine lv_iload_n hx hb dX1_firstHeard_18 rfl (lv_at hl 1 rfl) ?_
  obtain ⟨j1, ej1⟩ : ∃ j : Nat, a1.toInt = (j : Int) := ⟨_, ti_nat (by omega)⟩
  refine ad_flightA (k := 56) (j := j1) hx hb hK hP (by decide) (by decide) ej1 (by omega) dX1_firstHeard_19 ?_
  refine r_iconst hx hb dX1_firstHeard_20 (by decide) (fun z2 ez2 => ?_)
  refine ad_flightR (k := 132 + j1) (j := 2) hx hb hK hP (by omega) (by omega) (by omega) (by omega) dX1_firstHeard_21 ?_
  have hr3 := ra_flightR_0 hR (k := 132 + j1) (j := 2) (by omega) (by omega) (by decide) (by decide)
  refine r_icmp_ge (tgt := 51) hx hb dX1_firstHeard_22 (by decide) (fun c4 => ?_) (fun c4 => ?_)
  · refine r_iconst hx hb dX1_firstHeard_51 (by decide) (fun z5 ez5 => ?_)
    exact r_iret hx hb hr hK hP hS hk dX1_firstHeard_52 (show P_X1_firstHeard σ0 τ0 a1 a2 z5 σ0 τ0 from ⟨hR, hF, hFL, by omega⟩)
  · refine lv_aload_n hx hb dX1_firstHeard_25 rfl (lv_at hl 0 rfl) ?_
    refine fg_1_4 (k := 21) hx hb hts in_X1_firstHeard_1 hown hK hP (by decide) (by decide) (hts _ lk_X1_firstHeard_21) dX1_firstHeard_26 ?_
    refine lv_iload_n hx hb dX1_firstHeard_29 rfl (lv_at hl 1 rfl) ?_
    refine r_bipush hx hb dX1_firstHeard_30 (by decide) (fun z6 ez6 => ?_)
    refine r_imulR (n := 10) hx hb dX1_firstHeard_32 (by omega) (by omega) (fun z7 ez7 => ?_)
    refine lv_iload hx hb dX1_firstHeard_33 (lv_at hl 4 rfl) ?_
    refine r_iadd hx hb dX1_firstHeard_35 (by omega) (fun z8 ez8 => ?_)
    obtain ⟨j9, ej9⟩ : ∃ j : Nat, z8.toInt = (j : Int) := ⟨_, ti_nat (by omega)⟩
    refine ad_heard (k := 363) (j := j9) hx hb hK hP (by decide) (by decide) ej9 (by omega) dX1_firstHeard_36 ?_
    refine lv_iload_n hx hb dX1_firstHeard_37 rfl (lv_at hl 3 rfl) ?_
    refine r_iandU hx hb dX1_firstHeard_38 (fun z10 => ?_)
    refine r_if_eq (tgt := 45) hx hb dX1_firstHeard_39 (by decide) (fun c11 => ?_) (fun c11 => ?_)
    · refine r_iinc (k := 4) (lv1 := fun z12 => [(4, .int z12), (0, .ref (ad 21)), (1, .int a1), (2, .int a2), (3, .int x3)]) hx hb dX1_firstHeard_45 hl rfl (by decide) (fun _ => rfl) (by decide) (by omega) (fun z12 ls ez12 hl => ?_)
      refine lv_goto (tgt := 9) hx hb dX1_firstHeard_48 (by decide) ?_
      exact K9 σ0 τ0 H locs x3 z12 ls hR hF hFL hP hS (by omega) (lv_sub hl [1, 2, 3, 4, 0] rfl) (by omega)
    · refine lv_iload hx hb dX1_firstHeard_42 (lv_at hl 4 rfl) ?_
      exact r_iret hx hb hr hK hP hS hk dX1_firstHeard_44 (show P_X1_firstHeard σ0 τ0 a1 a2 x4 σ0 τ0 from ⟨hR, hF, hFL, by omega⟩)
theorem A_X1_firstHeard (p : Program) (l : Launch) (e : Env) (s : State) (m : MethodId) (args : Array Value) (below : List Frame) (meth : Method) (c : Code) (D : va_G) (cA : Nat → ClassId) (ad : Nat → Nat) (σ0 : Nat → Nat → Int32) (τ0 : Nat → Nat → Int64) (a1 : Int32) (a2 : Int32) (C : Cy p s m args meth c cX1_firstHeard 5 wsX1_firstHeard RX1 D cA ad (some .int)) (ha1 : 0 ≤ a1.toInt ∧ a1.toInt ≤ 3) (ha2 : 0 ≤ a2.toInt ∧ a2.toInt ≤ 1) : ∀ n : Nat, J_X1_firstHeard_9 p l e s m args below meth c D cA ad σ0 τ0 a1 a2 n := by
  intro n
  induction n with
  | zero =>
    exact (by intro σ τ H locs x3 x4 ls hR hF hFL hP hS hc0 hl hm; exfalso; omega)
  | succ n ih =>
    exact B_X1_firstHeard_9 p l e s m args below meth c D cA ad σ0 τ0 a1 a2 n C ha1 ha2 ih
set_option maxHeartbeats 4000000 in
theorem c_X1_firstHeard (l : Launch) (D : va_G) (cA : Nat → ClassId) (ad : Nat → Nat) (hI : Inj ad) (σ0 : Nat → Nat → Int32) (τ0 : Nat → Nat → Int64) (hR : Rg σ0) (a1 : Int32) (a2 : Int32) (ha1 : 0 ≤ a1.toInt ∧ a1.toInt ≤ 3) (ha2 : 0 ≤ a2.toInt ∧ a2.toInt ≤ 1) : Met l yX1_firstHeard wsX1_firstHeard ({ frames := 2, cells := 0, slots := 0, locals := 44 } : Room) (WQc D cA ad [.ref (ad 21), .int a1, .int a2] σ0 τ0) (va_Qi (fun (r : Int32) (u : SS) => P_X1_firstHeard σ0 τ0 a1 a2 r u.1 u.2) (WB D cA ad) (AA ad)) 0 0 (AA ad) := by
  refine Met.ofW (cc := cX1_firstHeard) (maxL := 5) (ret := (some .int)) (by decide) rfl ?_
  intro p e s m args below meth c s₁ B hml hv
  obtain ⟨rfl, hP, hK, hN⟩ := hv
  have C : Cy p s m _ meth c cX1_firstHeard 5 wsX1_firstHeard RX1 D cA ad (some .int) := ⟨B.exec, B.bytes, hml, findClass_of_methodNamed B.named, atoms_spec (ws := wsX1_firstHeard) B.pre, hK, B.notSynchronized, B.returns, hI, hN⟩
  have hl := lv_entry ([.ref (ad 21), .int a1, .int a2]) (n := 5) (Nat.le_of_ble_eq_true rfl)
  rw [lg_entry_eq]
  generalize (lg_sl ([.ref (ad 21), .int a1, .int a2]) ++ List.replicate (5 - (lg_sl ([.ref (ad 21), .int a1, .int a2])).length) Slot.unset).toArray = ls at hl ⊢
  have hl : lv_has ls 5 [(0, .ref (ad 21)), (1, .int a1), (2, .int a2)] := hl
  have hS : va_S (AA ad) s.heap s.heap [] := va_S.rf
  have hF : Fr L_X1_firstHeard σ0 σ0 := Fr.rf
  have hFL : FrL LL_X1_firstHeard τ0 τ0 := FrL.rf
  have hA := A_X1_firstHeard p l e s m _ below meth c D cA ad σ0 τ0 a1 a2 C ha1 ha2 50
  have K9 := hA
  clear hA
  obtain ⟨hx, hb, _, hown, hts, _, hk, hr, _, _⟩ := C
  refine lv_aload_n hx hb dX1_firstHeard_0 rfl (lv_at hl 0 rfl) ?_
  refine lv_iload_n hx hb dX1_firstHeard_1 rfl (lv_at hl 2 rfl) ?_
  refine r_cVi (k := 21) (As := [.int a2]) (rest := []) ⟨hx, hb, hml, hown, hts⟩ hK hP hN hS (c_X1_menInValley l D cA ad hI σ0 τ0 hR a2 (by omega)) (cwV 1 hts gX1_firstHeard_X1_menInValley rfl rfl rfl (by decide +kernel) ⟨by decide, by decide⟩) (rv_Camp hK hP (by decide) (by decide)) rfl hl.1 rfl (Nat.le_of_ble_eq_true rfl) dX1_firstHeard_2 (Nat.zero_le _) (Nat.zero_le _) (fun r1 u1 H1 locs1 hp1 hP hS => ?_)
  obtain ⟨σ1, τ1⟩ := u1
  obtain ⟨hR, f1, fL1⟩ : P_X1_menInValley σ0 τ0 a2 r1 σ1 τ1 := hp1
  have hP : va_P D vwCl (gw cA ad σ1 τ1) H1 := hP
  obtain rfl := FrL.nil fL1
  obtain rfl := Fr.nil f1
  refine lv_istore_n (lv' := [(3, .int r1), (0, .ref (ad 21)), (1, .int a1), (2, .int a2)]) hx hb dX1_firstHeard_5 rfl hl (by decide) rfl (fun ls hl => ?_)
  refine r_iconst hx hb dX1_firstHeard_6 (by decide) (fun z2 ez2 => ?_)
  refine lv_istore (lv' := [(4, .int z2), (3, .int r1), (0, .ref (ad 21)), (1, .int a1), (2, .int a2)]) hx hb dX1_firstHeard_7 hl (by decide) rfl (fun ls hl => ?_)
  exact K9 σ0 τ0 H1 locs1 r1 z2 ls hR hF hFL hP hS (by omega) (lv_sub hl [2, 3, 4, 1, 0] rfl) (by omega)
theorem in_X1_listen_1 : ∀ w ∈ u_ws RX1 TX1 9, w ∈ wsX1_listen := by decide +kernel
theorem in_X1_listen_9 : ∀ w ∈ u_ws RX9 TX9 14, w ∈ wsX1_listen := by decide +kernel
theorem lk_X1_listen_21 : Cond.fieldLink RX1 21 "CuckooShares$Camp" "heard" "[I" ∈ wsX1_listen := by decide +kernel
theorem lk_X1_listen_36 : Cond.fieldLink RX1 36 "CuckooShares$Camp" "valley" "LCuckooShares$Valley;" ∈ wsX1_listen := by decide +kernel
abbrev L_X1_listen : List Rc := [(363, 363, 0, 39)]
abbrev LL_X1_listen : List Rc := []
def P_X1_listen (σ0 : Nat → Nat → Int32) (τ0 : Nat → Nat → Int64) (a1 : Int32) (σ : Nat → Nat → Int32) (τ : Nat → Nat → Int64) : Prop := Rg σ ∧ Fr L_X1_listen σ0 σ ∧ FrL LL_X1_listen τ0 τ
def J_X1_listen_2 (p : Program) (l : Launch) (e : Env) (s : State) (m : MethodId) (args : Array Value) (below : List Frame) (meth : Method) (c : Code) (D : va_G) (cA : Nat → ClassId) (ad : Nat → Nat) (σ0 : Nat → Nat → Int32) (τ0 : Nat → Nat → Int64) (a1 : Int32) (n : Nat) : Prop := ∀ (σ : Nat → Nat → Int32) (τ : Nat → Nat → Int64) (H : Heap) (locs : List Loc) (x2 : Int32) (ls : Array Slot), Rg σ → Fr L_X1_listen σ0 σ → FrL LL_X1_listen τ0 τ → va_P D vwCl (gw cA ad σ τ) H → va_S (AA ad) s.heap H locs → (0 ≤ x2.toInt ∧ x2.toInt ≤ 10) → lv_has ls 3 [(0, .ref (ad 21)), (1, .int a1), (2, .int x2)] → 2 * (10 - x2.toInt) + 1 < (n : Int) → W p l e ({ frames := 4, cells := 0, slots := 0, locals := 95 } : Room) s m args below meth c H locs 0 0 (MQ below (va_Qv (fun u : SS => P_X1_listen σ0 τ0 a1 u.1 u.2) (WB D cA ad) (AA ad)) args s 0 0 (AA ad)) (F0 m 2 ls [])
set_option maxHeartbeats 4000000 in
theorem B_X1_listen_2 (p : Program) (l : Launch) (e : Env) (s : State) (m : MethodId) (args : Array Value) (below : List Frame) (meth : Method) (c : Code) (D : va_G) (cA : Nat → ClassId) (ad : Nat → Nat) (σ0 : Nat → Nat → Int32) (τ0 : Nat → Nat → Int64) (a1 : Int32) (n : Nat) (C : Cy p s m args meth c cX1_listen 3 wsX1_listen RX1 D cA ad none) (ha1 : 0 ≤ a1.toInt ∧ a1.toInt ≤ 3) (K2 : J_X1_listen_2 p l e s m args below meth c D cA ad σ0 τ0 a1 n) : J_X1_listen_2 p l e s m args below meth c D cA ad σ0 τ0 a1 (n + 1) := by
  obtain ⟨hx, hb, hml, hown, hts, hK, hk, hr, hI, hN⟩ := C
  intro σ τ H locs x2 ls hR hF hFL hP hS hc0 hl hm
  obtain rfl := FrL.nil hFL
  refine lv_iload_n hx hb dX1_listen_2 rfl (lv_at hl 2 rfl) ?_
  refine lv_aload_n hx hb dX1_listen_3 rfl (lv_at hl 0 rfl) ?_
  refine fg_1_0 (k := 21) hx hb hts in_X1_listen_1 hown hK hP (by decide) (by decide) (hts _ lk_X1_listen_36) dX1_listen_4 ?_
  refine fgN_9_11 (k := 2) hx hb hts in_X1_listen_9 hown hK hP (by decide) (by decide) (hN.use nw_1_79) dX1_listen_7 ?_
  refine lv_iload_n hx hb dX1_listen_10 rfl (lv_at hl 1 rfl) ?_
  obtain ⟨j1, ej1⟩ : ∃ j : Nat, a1.toInt = (j : Int) := ⟨_, ti_nat (by omega)⟩
  refine ad_flightA (k := 56) (j := j1) hx hb hK hP (by decide) (by decide) ej1 (by omega) dX1_listen_11 ?_
  refine r_iconst hx hb dX1_listen_12 (by decide) (fun z2 ez2 => ?_)
  refine ad_flightR (k := 132 + j1) (j := 2) hx hb hK hP (by omega) (by omega) (by omega) (by omega) dX1_listen_13 ?_
  have hr3 := ra_flightR_0 hR (k := 132 + j1) (j := 2) (by omega) (by omega) (by decide) (by decide)
  refine r_icmp_ge (tgt := 40) hx hb dX1_listen_14 (by decide) (fun c4 => ?_) (fun c4 => ?_)
  · exact r_vret hx hb hr hK hP hS hk dX1_listen_40 (show P_X1_listen σ0 τ0 a1 σ τ0 from ⟨hR, hF, hFL⟩)
  · refine lv_aload_n hx hb dX1_listen_17 rfl (lv_at hl 0 rfl) ?_
    refine fg_1_4 (k := 21) hx hb hts in_X1_listen_1 hown hK hP (by decide) (by decide) (hts _ lk_X1_listen_21) dX1_listen_18 ?_
    refine lv_iload_n hx hb dX1_listen_21 rfl (lv_at hl 1 rfl) ?_
    refine r_bipush hx hb dX1_listen_22 (by decide) (fun z5 ez5 => ?_)
    refine r_imulR (n := 10) hx hb dX1_listen_24 (by omega) (by omega) (fun z6 ez6 => ?_)
    refine lv_iload_n hx hb dX1_listen_25 rfl (lv_at hl 2 rfl) ?_
    refine r_iadd hx hb dX1_listen_26 (by omega) (fun z7 ez7 => ?_)
    refine lv_aload_n hx hb dX1_listen_27 rfl (lv_at hl 0 rfl) ?_
    refine lv_iload_n hx hb dX1_listen_28 rfl (lv_at hl 1 rfl) ?_
    refine lv_iload_n hx hb dX1_listen_29 rfl (lv_at hl 2 rfl) ?_
    refine r_cVi (k := 21) (As := [.int a1, .int x2]) (rest := [.int z7, .ref (ad 363)]) ⟨hx, hb, hml, hown, hts⟩ hK hP hN hS (c_X1_hearers l D cA ad hI σ τ0 hR a1 x2 (by omega) (by omega)) (cwV 2 hts gX1_listen_X1_hearers rfl rfl rfl (by decide +kernel) ⟨by decide, by decide⟩) (rv_Camp hK hP (by decide) (by decide)) rfl hl.1 rfl (Nat.le_of_ble_eq_true rfl) dX1_listen_30 (Nat.zero_le _) (Nat.zero_le _) (fun r8 u8 H8 locs8 hp8 hP hS => ?_)
    obtain ⟨σ8, τ8⟩ := u8
    obtain ⟨hR, f8, fL8⟩ : P_X1_hearers σ τ0 a1 x2 r8 σ8 τ8 := hp8
    have hP : va_P D vwCl (gw cA ad σ8 τ8) H8 := hP
    obtain rfl := FrL.nil fL8
    obtain rfl := Fr.nil f8
    obtain ⟨j9, ej9⟩ : ∃ j : Nat, z7.toInt = (j : Int) := ⟨_, ti_nat (by omega)⟩
    refine as_heard (k := 363) (j := j9) hx hb hK hP hI hR hS (by decide) (by decide) ej9 (by omega) dX1_listen_33 (fun σ10 H10 locs10 u10 v10 hR hP hS => ?_)
    have hF := hF.puts u10 0 rfl (by decide) (by decide) (by omega) (by omega)
    refine r_iinc (k := 2) (lv1 := fun z11 => [(2, .int z11), (0, .ref (ad 21)), (1, .int a1)]) hx hb dX1_listen_34 hl rfl (by decide) (fun _ => rfl) (by decide) (by omega) (fun z11 ls ez11 hl => ?_)
    refine lv_goto (tgt := 2) hx hb dX1_listen_37 (by decide) ?_
    exact K2 σ10 τ0 H10 locs10 z11 ls hR hF hFL hP hS (by omega) (lv_sub hl [1, 2, 0] rfl) (by omega)
theorem A_X1_listen (p : Program) (l : Launch) (e : Env) (s : State) (m : MethodId) (args : Array Value) (below : List Frame) (meth : Method) (c : Code) (D : va_G) (cA : Nat → ClassId) (ad : Nat → Nat) (σ0 : Nat → Nat → Int32) (τ0 : Nat → Nat → Int64) (a1 : Int32) (C : Cy p s m args meth c cX1_listen 3 wsX1_listen RX1 D cA ad none) (ha1 : 0 ≤ a1.toInt ∧ a1.toInt ≤ 3) : ∀ n : Nat, J_X1_listen_2 p l e s m args below meth c D cA ad σ0 τ0 a1 n := by
  intro n
  induction n with
  | zero =>
    exact (by intro σ τ H locs x2 ls hR hF hFL hP hS hc0 hl hm; exfalso; omega)
  | succ n ih =>
    exact B_X1_listen_2 p l e s m args below meth c D cA ad σ0 τ0 a1 n C ha1 ih
set_option maxHeartbeats 4000000 in
theorem c_X1_listen (l : Launch) (D : va_G) (cA : Nat → ClassId) (ad : Nat → Nat) (hI : Inj ad) (σ0 : Nat → Nat → Int32) (τ0 : Nat → Nat → Int64) (hR : Rg σ0) (a1 : Int32) (ha1 : 0 ≤ a1.toInt ∧ a1.toInt ≤ 3) : Met l yX1_listen wsX1_listen ({ frames := 4, cells := 0, slots := 0, locals := 95 } : Room) (WQc D cA ad [.ref (ad 21), .int a1] σ0 τ0) (va_Qv (fun u : SS => P_X1_listen σ0 τ0 a1 u.1 u.2) (WB D cA ad) (AA ad)) 0 0 (AA ad) := by
  refine Met.ofW (cc := cX1_listen) (maxL := 3) (ret := none) (by decide) rfl ?_
  intro p e s m args below meth c s₁ B hml hv
  obtain ⟨rfl, hP, hK, hN⟩ := hv
  have C : Cy p s m _ meth c cX1_listen 3 wsX1_listen RX1 D cA ad none := ⟨B.exec, B.bytes, hml, findClass_of_methodNamed B.named, atoms_spec (ws := wsX1_listen) B.pre, hK, B.notSynchronized, B.returns, hI, hN⟩
  have hl := lv_entry ([.ref (ad 21), .int a1]) (n := 3) (Nat.le_of_ble_eq_true rfl)
  rw [lg_entry_eq]
  generalize (lg_sl ([.ref (ad 21), .int a1]) ++ List.replicate (3 - (lg_sl ([.ref (ad 21), .int a1])).length) Slot.unset).toArray = ls at hl ⊢
  have hl : lv_has ls 3 [(0, .ref (ad 21)), (1, .int a1)] := hl
  have hS : va_S (AA ad) s.heap s.heap [] := va_S.rf
  have hF : Fr L_X1_listen σ0 σ0 := Fr.rf
  have hFL : FrL LL_X1_listen τ0 τ0 := FrL.rf
  have hA := A_X1_listen p l e s m _ below meth c D cA ad σ0 τ0 a1 C ha1 50
  have K2 := hA
  clear hA
  obtain ⟨hx, hb, _, hown, hts, _, hk, hr, _, _⟩ := C
  refine r_iconst hx hb dX1_listen_0 (by decide) (fun z1 ez1 => ?_)
  refine lv_istore_n (lv' := [(2, .int z1), (0, .ref (ad 21)), (1, .int a1)]) hx hb dX1_listen_1 rfl hl (by decide) rfl (fun ls hl => ?_)
  exact K2 σ0 τ0 s.heap [] z1 ls hR hF hFL hP hS (by omega) (lv_sub hl [1, 2, 0] rfl) (by omega)
theorem in_X0_liars_0 : ∀ w ∈ u_ws RX0 TX0 3, w ∈ wsX0_liars := by decide +kernel
theorem in_X0_liars_2 : ∀ w ∈ u_ws RX2 TX2 7, w ∈ wsX0_liars := by decide +kernel
theorem in_X0_liars_9 : ∀ w ∈ u_ws RX9 TX9 14, w ∈ wsX0_liars := by decide +kernel
theorem lk_X0_liars_15 : Cond.fieldLink RX0 15 "CuckooShares$Acts" "camp" "LCuckooShares$Camp;" ∈ wsX0_liars := by decide +kernel
theorem lk_X0_liars_9 : Cond.fieldLink RX0 9 "CuckooShares$Acts" "valley" "LCuckooShares$Valley;" ∈ wsX0_liars := by decide +kernel
abbrev L_X0_liars : List Rc := [(360, 360, 0, 7), (361, 361, 0, 7), (362, 362, 0, 7)]
abbrev LL_X0_liars : List Rc := []
def P_X0_liars (σ0 : Nat → Nat → Int32) (τ0 : Nat → Nat → Int64)  (r : Int32) (σ : Nat → Nat → Int32) (τ : Nat → Nat → Int64) : Prop := Rg σ ∧ Fr L_X0_liars σ0 σ ∧ FrL LL_X0_liars τ0 τ
def J_X0_liars_12 (p : Program) (l : Launch) (e : Env) (s : State) (m : MethodId) (args : Array Value) (below : List Frame) (meth : Method) (c : Code) (D : va_G) (cA : Nat → ClassId) (ad : Nat → Nat) (σ0 : Nat → Nat → Int32) (τ0 : Nat → Nat → Int64)  (n : Nat) : Prop := ∀ (σ : Nat → Nat → Int32) (τ : Nat → Nat → Int64) (H : Heap) (locs : List Loc) (x2 : Int32) (x3 : Int32) (ls : Array Slot), Rg σ → Fr L_X0_liars σ0 σ → FrL LL_X0_liars τ0 τ → va_P D vwCl (gw cA ad σ τ) H → va_S (AA ad) s.heap H locs → (0 ≤ x3.toInt ∧ x3.toInt ≤ 8) → lv_has ls 5 [(0, .ref (ad 22)), (1, .ref (ad 7)), (2, .int x2), (3, .int x3)] → 2 * (8 - x3.toInt) + 1 < (n : Int) → W p l e ({ frames := 4, cells := 0, slots := 0, locals := 95 } : Room) s m args below meth c H locs 0 0 (MQ below (va_Qi (fun (r : Int32) (u : SS) => P_X0_liars σ0 τ0 r u.1 u.2) (WB D cA ad) (AA ad)) args s 0 0 (AA ad)) (F0 m 12 ls [])
set_option maxHeartbeats 4000000 in
theorem B_X0_liars_12 (p : Program) (l : Launch) (e : Env) (s : State) (m : MethodId) (args : Array Value) (below : List Frame) (meth : Method) (c : Code) (D : va_G) (cA : Nat → ClassId) (ad : Nat → Nat) (σ0 : Nat → Nat → Int32) (τ0 : Nat → Nat → Int64)  (n : Nat) (C : Cy p s m args meth c cX0_liars 5 wsX0_liars RX0 D cA ad (some .int))  (K12 : J_X0_liars_12 p l e s m args below meth c D cA ad σ0 τ0 n) : J_X0_liars_12 p l e s m args below meth c D cA ad σ0 τ0 (n + 1) := by
  obtain ⟨hx, hb, hml, hown, hts, hK, hk, hr, hI, hN⟩ := C
  intro σ τ H locs x2 x3 ls hR hF hFL hP hS hc0 hl hm
  obtain rfl := FrL.nil hFL
  refine lv_iload_n hx hb dX0_liars_12 rfl (lv_at hl 3 rfl) ?_
  refine lv_aload_n hx hb dX0_liars_13 rfl (lv_at hl 0 rfl) ?_
  refine fg_0_0 (k := 22) hx hb hts in_X0_liars_0 hown hK hP (by decide) (by decide) (hts _ lk_X0_liars_9) dX0_liars_14 ?_
  refine fgN_9_5 (k := 2) hx hb hts in_X0_liars_9 hown hK hP (by decide) (by decide) (hN.use nw_0_82) dX0_liars_17 ?_
  have hr1 := rg_9_5 hR (k := 2) (by decide) (by decide)
  refine r_icmp_ge (tgt := 79) hx hb dX0_liars_20 (by decide) (fun c2 => ?_) (fun c2 => ?_)
  · refine lv_iload_n hx hb dX0_liars_79 rfl (lv_at hl 2 rfl) ?_
    exact r_iret hx hb hr hK hP hS hk dX0_liars_80 (show P_X0_liars σ0 τ0 x2 σ τ0 from ⟨hR, hF, hFL⟩)
  · refine lv_aload_n hx hb dX0_liars_23 rfl (lv_at hl 1 rfl) ?_
    refine fgN_2_5 (k := 7) hx hb hts in_X0_liars_2 hown hK hP (by decide) (by decide) (hN.use nw_0_55) dX0_liars_24 ?_
    refine lv_iload_n hx hb dX0_liars_27 rfl (lv_at hl 3 rfl) ?_
    obtain ⟨j3, ej3⟩ : ∃ j : Nat, x3.toInt = (j : Int) := ⟨_, ti_nat (by omega)⟩
    refine ad_days8 (k := 334) (j := j3) hx hb hK hP (by decide) (by decide) ej3 (by omega) dX0_liars_28 ?_
    refine lv_istore (lv' := [(4, .int (σ 334 j3)), (0, .ref (ad 22)), (1, .ref (ad 7)), (2, .int x2), (3, .int x3)]) hx hb dX0_liars_29 hl (by decide) rfl (fun ls hl => ?_)
    refine lv_aload_n hx hb dX0_liars_31 rfl (lv_at hl 1 rfl) ?_
    refine fg_0_0 (k := 22) hx hb hts in_X0_liars_0 hown hK hP (by decide) (by decide) (hts _ lk_X0_liars_9) dX0_liars_32 ?_
    refine lv_aload_n hx hb dX0_liars_35 rfl (lv_at hl 2 rfl) ?_
    refine fgN_2_1 (k := 7) hx hb hts in_X0_liars_2 hown hK hP (by decide) (by decide) (hN.use nw_0_19) dX0_liars_36 ?_
    refine lv_iload hx hb dX0_liars_39 (lv_at hl 0 rfl) ?_
    refine r_cVi (k := 2) (As := [.int (σ 7 1), .int (σ 334 j3)]) (rest := []) ⟨hx, hb, hml, hown, hts⟩ hK hP hN hS (c_X9_hasCall l D cA ad hI σ τ0 hR 2 (σ 7 1) (σ 334 j3) ⟨by omega, by omega⟩) (cwV 2 hts gX0_liars_X9_hasCall rfl rfl rfl (by decide +kernel) ⟨by decide, by decide⟩) (rv_Valley hK hP (by decide) (by decide)) rfl hl.1 rfl (Nat.le_of_ble_eq_true rfl) dX0_liars_41 (Nat.zero_le _) (Nat.zero_le _) (fun r4 u4 H4 locs4 hp4 hP hS => ?_)
    obtain ⟨σ4, τ4⟩ := u4
    obtain ⟨hR, f4, fL4, hq4, hp4_0⟩ : P_X9_hasCall σ τ0 2 (σ 7 1) (σ 334 j3) r4 σ4 τ4 := hp4
    have hP : va_P D vwCl (gw cA ad σ4 τ4) H4 := hP
    obtain rfl := FrL.nil fL4
    obtain rfl := Fr.nil f4
    refine r_if_eq (tgt := 73) hx hb dX0_liars_44 (by decide) (fun c5 => ?_) (fun c5 => ?_)
    · refine r_iinc (k := 4) (lv1 := fun z6 => [(3, .int z6), (4, .int (σ 334 j3)), (0, .ref (ad 22)), (1, .ref (ad 7)), (2, .int x2)]) hx hb dX0_liars_73 hl rfl (by decide) (fun _ => rfl) (by decide) (by omega) (fun z6 ls ez6 hl => ?_)
      refine lv_goto (tgt := 12) hx hb dX0_liars_76 (by decide) ?_
      exact K12 σ τ0 H4 locs4 x2 z6 ls hR hF hFL hP hS (by omega) (lv_sub hl [2, 3, 4, 0] rfl) (by omega)
    · refine lv_aload_n hx hb dX0_liars_47 rfl (lv_at hl 1 rfl) ?_
      refine fg_0_1 (k := 22) hx hb hts in_X0_liars_0 hown hK hP (by decide) (by decide) (hts _ lk_X0_liars_15) dX0_liars_48 ?_
      refine lv_aload_n hx hb dX0_liars_51 rfl (lv_at hl 2 rfl) ?_
      refine fgN_2_1 (k := 7) hx hb hts in_X0_liars_2 hown hK hP (by decide) (by decide) (hN.use nw_0_19) dX0_liars_52 ?_
      refine lv_iload hx hb dX0_liars_55 (lv_at hl 0 rfl) ?_
      refine r_cVi (k := 21) (As := [.int (σ 7 1), .int (σ 334 j3)]) (rest := []) ⟨hx, hb, hml, hown, hts⟩ hK hP hN hS (c_X1_hearers l D cA ad hI σ τ0 hR (σ 7 1) (σ 334 j3) (by omega) (by omega)) (cwV 2 hts gX0_liars_X1_hearers rfl rfl rfl (by decide +kernel) ⟨by decide, by decide⟩) (rv_Camp hK hP (by decide) (by decide)) rfl hl.1 rfl (Nat.le_of_ble_eq_true rfl) dX0_liars_57 (Nat.zero_le _) (Nat.zero_le _) (fun r7 u7 H7 locs7 hp7 hP hS => ?_)
      obtain ⟨σ7, τ7⟩ := u7
      obtain ⟨hR, f7, fL7⟩ : P_X1_hearers σ τ0 (σ 7 1) (σ 334 j3) r7 σ7 τ7 := hp7
      have hP : va_P D vwCl (gw cA ad σ7 τ7) H7 := hP
      obtain rfl := FrL.nil fL7
      obtain rfl := Fr.nil f7
      refine lv_iload_n hx hb dX0_liars_60 rfl (lv_at hl 4 rfl) ?_
      refine r_ishrU hx hb dX0_liars_61 (fun z8 => ?_)
      refine r_iconst hx hb dX0_liars_62 (by decide) (fun z9 ez9 => ?_)
      refine r_iand (w := 1) hx hb 1 dX0_liars_63 (by omega) (by decide) (fun z10 ez10 => ?_)
      refine r_if_ne (tgt := 73) hx hb dX0_liars_64 (by decide) (fun c11 => ?_) (fun c11 => ?_)
      · refine r_iinc (k := 4) (lv1 := fun z12 => [(3, .int z12), (4, .int (σ 334 j3)), (0, .ref (ad 22)), (1, .ref (ad 7)), (2, .int x2)]) hx hb dX0_liars_73 hl rfl (by decide) (fun _ => rfl) (by decide) (by omega) (fun z12 ls ez12 hl => ?_)
        refine lv_goto (tgt := 12) hx hb dX0_liars_76 (by decide) ?_
        exact K12 σ τ0 H7 locs7 x2 z12 ls hR hF hFL hP hS (by omega) (lv_sub hl [2, 3, 4, 0] rfl) (by omega)
      · refine lv_iload_n hx hb dX0_liars_67 rfl (lv_at hl 3 rfl) ?_
        refine r_iconst hx hb dX0_liars_68 (by decide) (fun z13 ez13 => ?_)
        refine lv_iload_n hx hb dX0_liars_69 rfl (lv_at hl 4 rfl) ?_
        refine r_ishlU hx hb dX0_liars_70 (fun z14 => ?_)
        refine r_iorU hx hb dX0_liars_71 (fun z15 => ?_)
        refine lv_istore_n (lv' := [(2, .int z15), (4, .int (σ 334 j3)), (0, .ref (ad 22)), (1, .ref (ad 7)), (3, .int x3)]) hx hb dX0_liars_72 rfl hl (by decide) rfl (fun ls hl => ?_)
        refine r_iinc (k := 4) (lv1 := fun z16 => [(3, .int z16), (2, .int z15), (4, .int (σ 334 j3)), (0, .ref (ad 22)), (1, .ref (ad 7))]) hx hb dX0_liars_73 hl rfl (by decide) (fun _ => rfl) (by decide) (by omega) (fun z16 ls ez16 hl => ?_)
        refine lv_goto (tgt := 12) hx hb dX0_liars_76 (by decide) ?_
        exact K12 σ τ0 H7 locs7 z15 z16 ls hR hF hFL hP hS (by omega) (lv_sub hl [3, 4, 1, 0] rfl) (by omega)
theorem A_X0_liars (p : Program) (l : Launch) (e : Env) (s : State) (m : MethodId) (args : Array Value) (below : List Frame) (meth : Method) (c : Code) (D : va_G) (cA : Nat → ClassId) (ad : Nat → Nat) (σ0 : Nat → Nat → Int32) (τ0 : Nat → Nat → Int64)  (C : Cy p s m args meth c cX0_liars 5 wsX0_liars RX0 D cA ad (some .int))  : ∀ n : Nat, J_X0_liars_12 p l e s m args below meth c D cA ad σ0 τ0 n := by
  intro n
  induction n with
  | zero =>
    exact (by intro σ τ H locs x2 x3 ls hR hF hFL hP hS hc0 hl hm; exfalso; omega)
  | succ n ih =>
    exact B_X0_liars_12 p l e s m args below meth c D cA ad σ0 τ0 n C  ih
set_option maxHeartbeats 4000000 in
theorem c_X0_liars (l : Launch) (D : va_G) (cA : Nat → ClassId) (ad : Nat → Nat) (hI : Inj ad) (σ0 : Nat → Nat → Int32) (τ0 : Nat → Nat → Int64) (hR : Rg σ0)   : Met l yX0_liars wsX0_liars ({ frames := 4, cells := 0, slots := 0, locals := 95 } : Room) (WQc D cA ad [.ref (ad 22), .ref (ad 7)] σ0 τ0) (va_Qi (fun (r : Int32) (u : SS) => P_X0_liars σ0 τ0 r u.1 u.2) (WB D cA ad) (AA ad)) 0 0 (AA ad) := by
  refine Met.ofW (cc := cX0_liars) (maxL := 5) (ret := (some .int)) (by decide) rfl ?_
  intro p e s m args below meth c s₁ B hml hv
  obtain ⟨rfl, hP, hK, hN⟩ := hv
  have C : Cy p s m _ meth c cX0_liars 5 wsX0_liars RX0 D cA ad (some .int) := ⟨B.exec, B.bytes, hml, findClass_of_methodNamed B.named, atoms_spec (ws := wsX0_liars) B.pre, hK, B.notSynchronized, B.returns, hI, hN⟩
  have hl := lv_entry ([.ref (ad 22), .ref (ad 7)]) (n := 5) (Nat.le_of_ble_eq_true rfl)
  rw [lg_entry_eq]
  generalize (lg_sl ([.ref (ad 22), .ref (ad 7)]) ++ List.replicate (5 - (lg_sl ([.ref (ad 22), .ref (ad 7)])).length) Slot.unset).toArray = ls at hl ⊢
  have hl : lv_has ls 5 [(0, .ref (ad 22)), (1, .ref (ad 7))] := hl
  have hS : va_S (AA ad) s.heap s.heap [] := va_S.rf
  have hF : Fr L_X0_liars σ0 σ0 := Fr.rf
  have hFL : FrL LL_X0_liars τ0 τ0 := FrL.rf
  have hA := A_X0_liars p l e s m _ below meth c D cA ad σ0 τ0 C  42
  have K12 := hA
  clear hA
  obtain ⟨hx, hb, _, hown, hts, _, hk, hr, _, _⟩ := C
  refine lv_aload_n hx hb dX0_liars_0 rfl (lv_at hl 0 rfl) ?_
  refine fg_0_1 (k := 22) hx hb hts in_X0_liars_0 hown hK hP (by decide) (by decide) (hts _ lk_X0_liars_15) dX0_liars_1 ?_
  refine lv_aload_n hx hb dX0_liars_4 rfl (lv_at hl 1 rfl) ?_
  refine r_cVv (k := 21) (As := [.ref (ad 7)]) (rest := []) ⟨hx, hb, hml, hown, hts⟩ hK hP hN hS (c_X1_pitch l D cA ad hI σ0 τ0 hR 7 ⟨by omega, by omega⟩) (cwV 1 hts gX0_liars_X1_pitch rfl rfl rfl (by decide +kernel) ⟨by decide, by decide⟩) (rv_Camp hK hP (by decide) (by decide)) rfl hl.1 rfl (Nat.le_of_ble_eq_true rfl) dX0_liars_5 (Nat.zero_le _) (Nat.zero_le _) (fun u1 H1 locs1 hp1 hP hS => ?_)
  obtain ⟨σ1, τ1⟩ := u1
  obtain ⟨hR, f1, fL1⟩ : P_X1_pitch σ0 τ0 7 σ1 τ1 := hp1
  have hP : va_P D vwCl (gw cA ad σ1 τ1) H1 := hP
  obtain rfl := FrL.nil fL1
  have hF := hF.step f1 (by decide)
  refine r_iconst hx hb dX0_liars_8 (by decide) (fun z2 ez2 => ?_)
  refine lv_istore_n (lv' := [(2, .int z2), (0, .ref (ad 22)), (1, .ref (ad 7))]) hx hb dX0_liars_9 rfl hl (by decide) rfl (fun ls hl => ?_)
  refine r_iconst hx hb dX0_liars_10 (by decide) (fun z3 ez3 => ?_)
  refine lv_istore_n (lv' := [(3, .int z3), (2, .int z2), (0, .ref (ad 22)), (1, .ref (ad 7))]) hx hb dX0_liars_11 rfl hl (by decide) rfl (fun ls hl => ?_)
  exact K12 σ1 τ0 H1 locs1 z2 z3 ls hR hF hFL hP hS (by omega) (lv_sub hl [2, 3, 1, 0] rfl) (by omega)
theorem in_X0_strikers_0 : ∀ w ∈ u_ws RX0 TX0 3, w ∈ wsX0_strikers := by decide +kernel
theorem in_X0_strikers_9 : ∀ w ∈ u_ws RX9 TX9 14, w ∈ wsX0_strikers := by decide +kernel
theorem lk_X0_strikers_9 : Cond.fieldLink RX0 9 "CuckooShares$Acts" "valley" "LCuckooShares$Valley;" ∈ wsX0_strikers := by decide +kernel
abbrev L_X0_strikers : List Rc := [(360, 360, 0, 7), (361, 361, 0, 7), (362, 362, 0, 7)]
abbrev LL_X0_strikers : List Rc := []
def P_X0_strikers (σ0 : Nat → Nat → Int32) (τ0 : Nat → Nat → Int64) (a2 : Int32) (r : Int32) (σ : Nat → Nat → Int32) (τ : Nat → Nat → Int64) : Prop := Rg σ ∧ Fr L_X0_strikers σ0 σ ∧ FrL LL_X0_strikers τ0 τ
def J_X0_strikers_18 (p : Program) (l : Launch) (e : Env) (s : State) (m : MethodId) (args : Array Value) (below : List Frame) (meth : Method) (c : Code) (D : va_G) (cA : Nat → ClassId) (ad : Nat → Nat) (σ0 : Nat → Nat → Int32) (τ0 : Nat → Nat → Int64) (a2 : Int32) (n : Nat) : Prop := ∀ (σ : Nat → Nat → Int32) (τ : Nat → Nat → Int64) (H : Heap) (locs : List Loc) (x3 : Int32) (x4 : Int32) (ls : Array Slot), Rg σ → Fr L_X0_strikers σ0 σ → FrL LL_X0_strikers τ0 τ → va_P D vwCl (gw cA ad σ τ) H → va_S (AA ad) s.heap H locs → (0 ≤ x4.toInt ∧ x4.toInt ≤ 8) → lv_has ls 5 [(0, .ref (ad 22)), (1, .ref (ad 7)), (2, .int a2), (3, .int x3), (4, .int x4)] → 2 * (8 - x4.toInt) + 1 < (n : Int) → W p l e ({ frames := 5, cells := 0, slots := 0, locals := 119 } : Room) s m args below meth c H locs 0 0 (MQ below (va_Qi (fun (r : Int32) (u : SS) => P_X0_strikers σ0 τ0 a2 r u.1 u.2) (WB D cA ad) (AA ad)) args s 0 0 (AA ad)) (F0 m 18 ls [])
set_option maxHeartbeats 4000000 in
theorem B_X0_strikers_18 (p : Program) (l : Launch) (e : Env) (s : State) (m : MethodId) (args : Array Value) (below : List Frame) (meth : Method) (c : Code) (D : va_G) (cA : Nat → ClassId) (ad : Nat → Nat) (σ0 : Nat → Nat → Int32) (τ0 : Nat → Nat → Int64) (a2 : Int32) (n : Nat) (C : Cy p s m args meth c cX0_strikers 5 wsX0_strikers RX0 D cA ad (some .int)) (ha2 : 0 ≤ a2.toInt ∧ a2.toInt ≤ 7) (K18 : J_X0_strikers_18 p l e s m args below meth c D cA ad σ0 τ0 a2 n) : J_X0_strikers_18 p l e s m args below meth c D cA ad σ0 τ0 a2 (n + 1) := by
  obtain ⟨hx, hb, hml, hown, hts, hK, hk, hr, hI, hN⟩ := C
  intro σ τ H locs x3 x4 ls hR hF hFL hP hS hc0 hl hm
  obtain rfl := FrL.nil hFL
  refine lv_iload hx hb dX0_strikers_18 (lv_at hl 4 rfl) ?_
  refine lv_aload_n hx hb dX0_strikers_20 rfl (lv_at hl 0 rfl) ?_
  refine fg_0_0 (k := 22) hx hb hts in_X0_strikers_0 hown hK hP (by decide) (by decide) (hts _ lk_X0_strikers_9) dX0_strikers_21 ?_
  refine fgN_9_5 (k := 2) hx hb hts in_X0_strikers_9 hown hK hP (by decide) (by decide) (hN.use nw_0_82) dX0_strikers_24 ?_
  have hr1 := rg_9_5 hR (k := 2) (by decide) (by decide)
  refine r_icmp_ge (tgt := 60) hx hb dX0_strikers_27 (by decide) (fun c2 => ?_) (fun c2 => ?_)
  · refine lv_iload_n hx hb dX0_strikers_60 rfl (lv_at hl 3 rfl) ?_
    exact r_iret hx hb hr hK hP hS hk dX0_strikers_61 (show P_X0_strikers σ0 τ0 a2 x3 σ τ0 from ⟨hR, hF, hFL⟩)
  · refine lv_iload hx hb dX0_strikers_30 (lv_at hl 4 rfl) ?_
    refine lv_iload_n hx hb dX0_strikers_32 rfl (lv_at hl 2 rfl) ?_
    refine r_icmp_eq (tgt := 54) hx hb dX0_strikers_33 (by decide) (fun c3 => ?_) (fun c3 => ?_)
    · refine r_iinc (k := 4) (lv1 := fun z4 => [(4, .int z4), (0, .ref (ad 22)), (1, .ref (ad 7)), (2, .int a2), (3, .int x3)]) hx hb dX0_strikers_54 hl rfl (by decide) (fun _ => rfl) (by decide) (by omega) (fun z4 ls ez4 hl => ?_)
      refine lv_goto (tgt := 18) hx hb dX0_strikers_57 (by decide) ?_
      exact K18 σ τ0 H locs x3 z4 ls hR hF hFL hP hS (by omega) (lv_sub hl [1, 2, 3, 4, 0] rfl) (by omega)
    · refine lv_aload_n hx hb dX0_strikers_36 rfl (lv_at hl 0 rfl) ?_
      refine lv_aload_n hx hb dX0_strikers_37 rfl (lv_at hl 1 rfl) ?_
      refine lv_iload hx hb dX0_strikers_38 (lv_at hl 4 rfl) ?_
      refine lv_iload_n hx hb dX0_strikers_40 rfl (lv_at hl 2 rfl) ?_
      refine r_cVi (k := 22) (As := [.ref (ad 7), .int x4, .int a2]) (rest := []) ⟨hx, hb, hml, hown, hts⟩ hK hP hN hS (c_X0_whyNotCalled l D cA ad hI σ τ0 hR 7 x4 a2 ⟨by omega, by omega⟩ (by omega) (by omega)) (cwV 3 hts gX0_strikers_X0_whyNotCalled rfl rfl rfl (by decide +kernel) ⟨by decide, by decide⟩) (rv_Acts hK hP (by decide) (by decide)) rfl hl.1 rfl (Nat.le_of_ble_eq_true rfl) dX0_strikers_41 (Nat.zero_le _) (Nat.zero_le _) (fun r5 u5 H5 locs5 hp5 hP hS => ?_)
      obtain ⟨σ5, τ5⟩ := u5
      obtain ⟨hR, f5, fL5, hq5, hp5_0, hp5_1⟩ : P_X0_whyNotCalled σ τ0 7 x4 a2 r5 σ5 τ5 := hp5
      have hP : va_P D vwCl (gw cA ad σ5 τ5) H5 := hP
      obtain rfl := FrL.nil fL5
      have hF := hF.step f5 (by decide)
      refine r_if_ne (tgt := 54) hx hb dX0_strikers_44 (by decide) (fun c6 => ?_) (fun c6 => ?_)
      · refine r_iinc (k := 4) (lv1 := fun z7 => [(4, .int z7), (0, .ref (ad 22)), (1, .ref (ad 7)), (2, .int a2), (3, .int x3)]) hx hb dX0_strikers_54 hl rfl (by decide) (fun _ => rfl) (by decide) (by omega) (fun z7 ls ez7 hl => ?_)
        refine lv_goto (tgt := 18) hx hb dX0_strikers_57 (by decide) ?_
        exact K18 σ5 τ0 H5 locs5 x3 z7 ls hR hF hFL hP hS (by omega) (lv_sub hl [1, 2, 3, 4, 0] rfl) (by omega)
      · refine lv_iload_n hx hb dX0_strikers_47 rfl (lv_at hl 3 rfl) ?_
        refine r_iconst hx hb dX0_strikers_48 (by decide) (fun z8 ez8 => ?_)
        refine lv_iload hx hb dX0_strikers_49 (lv_at hl 4 rfl) ?_
        refine r_ishlU hx hb dX0_strikers_51 (fun z9 => ?_)
        refine r_iorU hx hb dX0_strikers_52 (fun z10 => ?_)
        refine lv_istore_n (lv' := [(3, .int z10), (0, .ref (ad 22)), (1, .ref (ad 7)), (2, .int a2), (4, .int x4)]) hx hb dX0_strikers_53 rfl hl (by decide) rfl (fun ls hl => ?_)
        refine r_iinc (k := 4) (lv1 := fun z11 => [(4, .int z11), (3, .int z10), (0, .ref (ad 22)), (1, .ref (ad 7)), (2, .int a2)]) hx hb dX0_strikers_54 hl rfl (by decide) (fun _ => rfl) (by decide) (by omega) (fun z11 ls ez11 hl => ?_)
        refine lv_goto (tgt := 18) hx hb dX0_strikers_57 (by decide) ?_
        exact K18 σ5 τ0 H5 locs5 z10 z11 ls hR hF hFL hP hS (by omega) (lv_sub hl [2, 3, 4, 1, 0] rfl) (by omega)
theorem A_X0_strikers (p : Program) (l : Launch) (e : Env) (s : State) (m : MethodId) (args : Array Value) (below : List Frame) (meth : Method) (c : Code) (D : va_G) (cA : Nat → ClassId) (ad : Nat → Nat) (σ0 : Nat → Nat → Int32) (τ0 : Nat → Nat → Int64) (a2 : Int32) (C : Cy p s m args meth c cX0_strikers 5 wsX0_strikers RX0 D cA ad (some .int)) (ha2 : 0 ≤ a2.toInt ∧ a2.toInt ≤ 7) : ∀ n : Nat, J_X0_strikers_18 p l e s m args below meth c D cA ad σ0 τ0 a2 n := by
  intro n
  induction n with
  | zero =>
    exact (by intro σ τ H locs x3 x4 ls hR hF hFL hP hS hc0 hl hm; exfalso; omega)
  | succ n ih =>
    exact B_X0_strikers_18 p l e s m args below meth c D cA ad σ0 τ0 a2 n C ha2 ih
set_option maxHeartbeats 4000000 in
theorem c_X0_strikers (l : Launch) (D : va_G) (cA : Nat → ClassId) (ad : Nat → Nat) (hI : Inj ad) (σ0 : Nat → Nat → Int32) (τ0 : Nat → Nat → Int64) (hR : Rg σ0) (a2 : Int32) (ha2 : 0 ≤ a2.toInt ∧ a2.toInt ≤ 7) : Met l yX0_strikers wsX0_strikers ({ frames := 5, cells := 0, slots := 0, locals := 119 } : Room) (WQc D cA ad [.ref (ad 22), .ref (ad 7), .int a2] σ0 τ0) (va_Qi (fun (r : Int32) (u : SS) => P_X0_strikers σ0 τ0 a2 r u.1 u.2) (WB D cA ad) (AA ad)) 0 0 (AA ad) := by
  refine Met.ofW (cc := cX0_strikers) (maxL := 5) (ret := (some .int)) (by decide) rfl ?_
  intro p e s m args below meth c s₁ B hml hv
  obtain ⟨rfl, hP, hK, hN⟩ := hv
  have C : Cy p s m _ meth c cX0_strikers 5 wsX0_strikers RX0 D cA ad (some .int) := ⟨B.exec, B.bytes, hml, findClass_of_methodNamed B.named, atoms_spec (ws := wsX0_strikers) B.pre, hK, B.notSynchronized, B.returns, hI, hN⟩
  have hl := lv_entry ([.ref (ad 22), .ref (ad 7), .int a2]) (n := 5) (Nat.le_of_ble_eq_true rfl)
  rw [lg_entry_eq]
  generalize (lg_sl ([.ref (ad 22), .ref (ad 7), .int a2]) ++ List.replicate (5 - (lg_sl ([.ref (ad 22), .ref (ad 7), .int a2])).length) Slot.unset).toArray = ls at hl ⊢
  have hl : lv_has ls 5 [(0, .ref (ad 22)), (1, .ref (ad 7)), (2, .int a2)] := hl
  have hS : va_S (AA ad) s.heap s.heap [] := va_S.rf
  have hF : Fr L_X0_strikers σ0 σ0 := Fr.rf
  have hFL : FrL LL_X0_strikers τ0 τ0 := FrL.rf
  have hA := A_X0_strikers p l e s m _ below meth c D cA ad σ0 τ0 a2 C ha2 42
  have K18 := hA
  clear hA
  obtain ⟨hx, hb, _, hown, hts, _, hk, hr, _, _⟩ := C
  refine r_iconst hx hb dX0_strikers_0 (by decide) (fun z1 ez1 => ?_)
  refine lv_istore_n (lv' := [(3, .int z1), (0, .ref (ad 22)), (1, .ref (ad 7)), (2, .int a2)]) hx hb dX0_strikers_1 rfl hl (by decide) rfl (fun ls hl => ?_)
  refine lv_aload_n hx hb dX0_strikers_2 rfl (lv_at hl 1 rfl) ?_
  refine lv_aload_n hx hb dX0_strikers_3 rfl (lv_at hl 2 rfl) ?_
  refine r_cVi (k := 22) (As := [.ref (ad 7)]) (rest := []) ⟨hx, hb, hml, hown, hts⟩ hK hP hN hS (c_X0_liars l D cA ad hI σ0 τ0 hR) (cwV 1 hts gX0_strikers_X0_liars rfl rfl rfl (by decide +kernel) ⟨by decide, by decide⟩) (rv_Acts hK hP (by decide) (by decide)) rfl hl.1 rfl (Nat.le_of_ble_eq_true rfl) dX0_strikers_4 (Nat.zero_le _) (Nat.zero_le _) (fun r2 u2 H2 locs2 hp2 hP hS => ?_)
  obtain ⟨σ2, τ2⟩ := u2
  obtain ⟨hR, f2, fL2⟩ : P_X0_liars σ0 τ0 r2 σ2 τ2 := hp2
  have hP : va_P D vwCl (gw cA ad σ2 τ2) H2 := hP
  obtain rfl := FrL.nil fL2
  have hF := hF.step f2 (by decide)
  refine lv_iload_n hx hb dX0_strikers_7 rfl (lv_at hl 3 rfl) ?_
  refine r_ishrU hx hb dX0_strikers_8 (fun z3 => ?_)
  refine r_iconst hx hb dX0_strikers_9 (by decide) (fun z4 ez4 => ?_)
  refine r_iand (w := 1) hx hb 1 dX0_strikers_10 (by omega) (by decide) (fun z5 ez5 => ?_)
  refine r_iconst hx hb dX0_strikers_11 (by decide) (fun z6 ez6 => ?_)
  refine r_icmp_ne (tgt := 60) hx hb dX0_strikers_12 (by decide) (fun c7 => ?_) (fun c7 => ?_)
  · refine lv_iload_n hx hb dX0_strikers_60 rfl (lv_at hl 0 rfl) ?_
    exact r_iret hx hb hr hK hP hS hk dX0_strikers_61 (show P_X0_strikers σ0 τ0 a2 z1 σ2 τ0 from ⟨hR, hF, hFL⟩)
  · refine r_iconst hx hb dX0_strikers_15 (by decide) (fun z8 ez8 => ?_)
    refine lv_istore (lv' := [(4, .int z8), (3, .int z1), (0, .ref (ad 22)), (1, .ref (ad 7)), (2, .int a2)]) hx hb dX0_strikers_16 hl (by decide) rfl (fun ls hl => ?_)
    exact K18 σ2 τ0 H2 locs2 z1 z8 ls hR hF hFL hP hS (by omega) (lv_sub hl [2, 3, 4, 1, 0] rfl) (by omega)
theorem in_X1_countHonest_1 : ∀ w ∈ u_ws RX1 TX1 9, w ∈ wsX1_countHonest := by decide +kernel
theorem lk_X1_countHonest_21 : Cond.fieldLink RX1 21 "CuckooShares$Camp" "heard" "[I" ∈ wsX1_countHonest := by decide +kernel
abbrev L_X1_countHonest : List Rc := [(365, 365, 0, 1), (366, 366, 0, 1), (367, 367, 0, 1)]
abbrev LL_X1_countHonest : List Rc := []
def P_X1_countHonest (σ0 : Nat → Nat → Int32) (τ0 : Nat → Nat → Int64) (a1 : Int32) (σ : Nat → Nat → Int32) (τ : Nat → Nat → Int64) : Prop := Rg σ ∧ Fr L_X1_countHonest σ0 σ ∧ FrL LL_X1_countHonest τ0 τ
def J_X1_countHonest_2 (p : Program) (l : Launch) (e : Env) (s : State) (m : MethodId) (args : Array Value) (below : List Frame) (meth : Method) (c : Code) (D : va_G) (cA : Nat → ClassId) (ad : Nat → Nat) (σ0 : Nat → Nat → Int32) (τ0 : Nat → Nat → Int64) (a1 : Int32) (n : Nat) : Prop := ∀ (σ : Nat → Nat → Int32) (τ : Nat → Nat → Int64) (H : Heap) (locs : List Loc) (x2 : Int32) (ls : Array Slot), Rg σ → Fr L_X1_countHonest σ0 σ → FrL LL_X1_countHonest τ0 τ → va_P D vwCl (gw cA ad σ τ) H → va_S (AA ad) s.heap H locs → (0 ≤ x2.toInt ∧ x2.toInt ≤ 2) → lv_has ls 5 [(0, .ref (ad 21)), (1, .int a1), (2, .int x2)] → 2 * (2 - x2.toInt) + 1 < (n : Int) → W p l e ({ frames := 3, cells := 0, slots := 0, locals := 68 } : Room) s m args below meth c H locs 0 0 (MQ below (va_Qv (fun u : SS => P_X1_countHonest σ0 τ0 a1 u.1 u.2) (WB D cA ad) (AA ad)) args s 0 0 (AA ad)) (F0 m 2 ls [])
set_option maxHeartbeats 4000000 in
theorem B_X1_countHonest_2 (p : Program) (l : Launch) (e : Env) (s : State) (m : MethodId) (args : Array Value) (below : List Frame) (meth : Method) (c : Code) (D : va_G) (cA : Nat → ClassId) (ad : Nat → Nat) (σ0 : Nat → Nat → Int32) (τ0 : Nat → Nat → Int64) (a1 : Int32) (n : Nat) (C : Cy p s m args meth c cX1_countHonest 5 wsX1_countHonest RX1 D cA ad none) (ha1 : 0 ≤ a1.toInt ∧ a1.toInt ≤ 3) (K2 : J_X1_countHonest_2 p l e s m args below meth c D cA ad σ0 τ0 a1 n) : J_X1_countHonest_2 p l e s m args below meth c D cA ad σ0 τ0 a1 (n + 1) := by
  obtain ⟨hx, hb, hml, hown, hts, hK, hk, hr, hI, hN⟩ := C
  intro σ τ H locs x2 ls hR hF hFL hP hS hc0 hl hm
  obtain rfl := FrL.nil hFL
  refine lv_iload_n hx hb dX1_countHonest_2 rfl (lv_at hl 2 rfl) ?_
  refine r_iconst hx hb dX1_countHonest_3 (by decide) (fun z1 ez1 => ?_)
  refine r_icmp_ge (tgt := 56) hx hb dX1_countHonest_4 (by decide) (fun c2 => ?_) (fun c2 => ?_)
  · exact r_vret hx hb hr hK hP hS hk dX1_countHonest_56 (show P_X1_countHonest σ0 τ0 a1 σ τ0 from ⟨hR, hF, hFL⟩)
  · refine lv_aload_n hx hb dX1_countHonest_7 rfl (lv_at hl 0 rfl) ?_
    refine lv_iload_n hx hb dX1_countHonest_8 rfl (lv_at hl 1 rfl) ?_
    refine lv_iload_n hx hb dX1_countHonest_9 rfl (lv_at hl 2 rfl) ?_
    refine r_cVi (k := 21) (As := [.int a1, .int x2]) (rest := []) ⟨hx, hb, hml, hown, hts⟩ hK hP hN hS (c_X1_firstHeard l D cA ad hI σ τ0 hR a1 x2 (by omega) (by omega)) (cwV 2 hts gX1_countHonest_X1_firstHeard rfl rfl rfl (by decide +kernel) ⟨by decide, by decide⟩) (rv_Camp hK hP (by decide) (by decide)) rfl hl.1 rfl (Nat.le_of_ble_eq_true rfl) dX1_countHonest_10 (Nat.zero_le _) (Nat.zero_le _) (fun r3 u3 H3 locs3 hp3 hP hS => ?_)
    obtain ⟨σ3, τ3⟩ := u3
    obtain ⟨hR, f3, fL3, hq3⟩ : P_X1_firstHeard σ τ0 a1 x2 r3 σ3 τ3 := hp3
    have hP : va_P D vwCl (gw cA ad σ3 τ3) H3 := hP
    obtain rfl := FrL.nil fL3
    obtain rfl := Fr.nil f3
    refine lv_istore_n (lv' := [(3, .int r3), (0, .ref (ad 21)), (1, .int a1), (2, .int x2)]) hx hb dX1_countHonest_13 rfl hl (by decide) rfl (fun ls hl => ?_)
    refine lv_iload_n hx hb dX1_countHonest_14 rfl (lv_at hl 0 rfl) ?_
    refine r_iconst hx hb dX1_countHonest_15 (by decide) (fun z4 ez4 => ?_)
    refine r_icmp_ne (tgt := 23) hx hb dX1_countHonest_16 (by decide) (fun c5 => ?_) (fun c5 => ?_)
    · refine lv_aload_n hx hb dX1_countHonest_23 rfl (lv_at hl 1 rfl) ?_
      refine fg_1_4 (k := 21) hx hb hts in_X1_countHonest_1 hown hK hP (by decide) (by decide) (hts _ lk_X1_countHonest_21) dX1_countHonest_24 ?_
      refine lv_iload_n hx hb dX1_countHonest_27 rfl (lv_at hl 2 rfl) ?_
      refine r_bipush hx hb dX1_countHonest_28 (by decide) (fun z6 ez6 => ?_)
      refine r_imulR (n := 10) hx hb dX1_countHonest_30 (by omega) (by omega) (fun z7 ez7 => ?_)
      refine lv_iload_n hx hb dX1_countHonest_31 rfl (lv_at hl 0 rfl) ?_
      refine r_iadd hx hb dX1_countHonest_32 (by omega) (fun z8 ez8 => ?_)
      obtain ⟨j9, ej9⟩ : ∃ j : Nat, z8.toInt = (j : Int) := ⟨_, ti_nat (by omega)⟩
      refine ad_heard (k := 363) (j := j9) hx hb hK hP (by decide) (by decide) ej9 (by omega) dX1_countHonest_33 ?_
      refine lv_aload_n hx hb dX1_countHonest_34 rfl (lv_at hl 1 rfl) ?_
      refine lv_iload_n hx hb dX1_countHonest_35 rfl (lv_at hl 3 rfl) ?_
      refine r_cVi (k := 21) (As := [.int x2]) (rest := [.int (σ 363 j9)]) ⟨hx, hb, hml, hown, hts⟩ hK hP hN hS (c_X1_menInValley l D cA ad hI σ τ0 hR x2 (by omega)) (cwV 1 hts gX1_countHonest_X1_menInValley rfl rfl rfl (by decide +kernel) ⟨by decide, by decide⟩) (rv_Camp hK hP (by decide) (by decide)) rfl hl.1 rfl (Nat.le_of_ble_eq_true rfl) dX1_countHonest_36 (Nat.zero_le _) (Nat.zero_le _) (fun r10 u10 H10 locs10 hp10 hP hS => ?_)
      obtain ⟨σ10, τ10⟩ := u10
      obtain ⟨hR, f10, fL10⟩ : P_X1_menInValley σ τ0 x2 r10 σ10 τ10 := hp10
      have hP : va_P D vwCl (gw cA ad σ10 τ10) H10 := hP
      obtain rfl := FrL.nil fL10
      obtain rfl := Fr.nil f10
      refine r_iandU hx hb dX1_countHonest_39 (fun z11 => ?_)
      refine lv_istore (lv' := [(4, .int z11), (3, .int r3), (0, .ref (ad 21)), (1, .int a1), (2, .int x2)]) hx hb dX1_countHonest_40 hl (by decide) rfl (fun ls hl => ?_)
      refine lv_aload_n hx hb dX1_countHonest_42 rfl (lv_at hl 2 rfl) ?_
      refine lv_iload_n hx hb dX1_countHonest_43 rfl (lv_at hl 4 rfl) ?_
      refine lv_iload_n hx hb dX1_countHonest_44 rfl (lv_at hl 1 rfl) ?_
      refine lv_iload hx hb dX1_countHonest_45 (lv_at hl 0 rfl) ?_
      refine r_cVv (k := 21) (As := [.int x2, .int r3, .int z11]) (rest := []) ⟨hx, hb, hml, hown, hts⟩ hK hP hN hS (c_X1_noteSharers l D cA ad hI σ τ0 hR x2 r3 z11 (by omega)) (cwV 3 hts gX1_countHonest_X1_noteSharers rfl rfl rfl (by decide +kernel) ⟨by decide, by decide⟩) (rv_Camp hK hP (by decide) (by decide)) rfl hl.1 rfl (Nat.le_of_ble_eq_true rfl) dX1_countHonest_47 (Nat.zero_le _) (Nat.zero_le _) (fun u12 H12 locs12 hp12 hP hS => ?_)
      obtain ⟨σ12, τ12⟩ := u12
      obtain ⟨hR, f12, fL12⟩ : P_X1_noteSharers σ τ0 x2 r3 z11 σ12 τ12 := hp12
      have hP : va_P D vwCl (gw cA ad σ12 τ12) H12 := hP
      obtain rfl := FrL.nil fL12
      have hF := hF.step f12 (by decide)
      refine r_iinc (k := 4) (lv1 := fun z13 => [(2, .int z13), (4, .int z11), (3, .int r3), (0, .ref (ad 21)), (1, .int a1)]) hx hb dX1_countHonest_50 hl rfl (by decide) (fun _ => rfl) (by decide) (by omega) (fun z13 ls ez13 hl => ?_)
      refine lv_goto (tgt := 2) hx hb dX1_countHonest_53 (by decide) ?_
      exact K2 σ12 τ0 H12 locs12 z13 ls hR hF hFL hP hS (by omega) (lv_sub hl [3, 4, 0] rfl) (by omega)
    · refine r_iconst hx hb dX1_countHonest_19 (by decide) (fun z14 ez14 => ?_)
      refine lv_goto (tgt := 40) hx hb dX1_countHonest_20 (by decide) ?_
      refine lv_istore (lv' := [(4, .int z14), (3, .int r3), (0, .ref (ad 21)), (1, .int a1), (2, .int x2)]) hx hb dX1_countHonest_40 hl (by decide) rfl (fun ls hl => ?_)
      refine lv_aload_n hx hb dX1_countHonest_42 rfl (lv_at hl 2 rfl) ?_
      refine lv_iload_n hx hb dX1_countHonest_43 rfl (lv_at hl 4 rfl) ?_
      refine lv_iload_n hx hb dX1_countHonest_44 rfl (lv_at hl 1 rfl) ?_
      refine lv_iload hx hb dX1_countHonest_45 (lv_at hl 0 rfl) ?_
      refine r_cVv (k := 21) (As := [.int x2, .int r3, .int z14]) (rest := []) ⟨hx, hb, hml, hown, hts⟩ hK hP hN hS (c_X1_noteSharers l D cA ad hI σ τ0 hR x2 r3 z14 (by omega)) (cwV 3 hts gX1_countHonest_X1_noteSharers rfl rfl rfl (by decide +kernel) ⟨by decide, by decide⟩) (rv_Camp hK hP (by decide) (by decide)) rfl hl.1 rfl (Nat.le_of_ble_eq_true rfl) dX1_countHonest_47 (Nat.zero_le _) (Nat.zero_le _) (fun u15 H15 locs15 hp15 hP hS => ?_)
      obtain ⟨σ15, τ15⟩ := u15
      obtain ⟨hR, f15, fL15⟩ : P_X1_noteSharers σ τ0 x2 r3 z14 σ15 τ15 := hp15
      have hP : va_P D vwCl (gw cA ad σ15 τ15) H15 := hP
      obtain rfl := FrL.nil fL15
      have hF := hF.step f15 (by decide)
      refine r_iinc (k := 4) (lv1 := fun z16 => [(2, .int z16), (4, .int z14), (3, .int r3), (0, .ref (ad 21)), (1, .int a1)]) hx hb dX1_countHonest_50 hl rfl (by decide) (fun _ => rfl) (by decide) (by omega) (fun z16 ls ez16 hl => ?_)
      refine lv_goto (tgt := 2) hx hb dX1_countHonest_53 (by decide) ?_
      exact K2 σ15 τ0 H15 locs15 z16 ls hR hF hFL hP hS (by omega) (lv_sub hl [3, 4, 0] rfl) (by omega)
theorem A_X1_countHonest (p : Program) (l : Launch) (e : Env) (s : State) (m : MethodId) (args : Array Value) (below : List Frame) (meth : Method) (c : Code) (D : va_G) (cA : Nat → ClassId) (ad : Nat → Nat) (σ0 : Nat → Nat → Int32) (τ0 : Nat → Nat → Int64) (a1 : Int32) (C : Cy p s m args meth c cX1_countHonest 5 wsX1_countHonest RX1 D cA ad none) (ha1 : 0 ≤ a1.toInt ∧ a1.toInt ≤ 3) : ∀ n : Nat, J_X1_countHonest_2 p l e s m args below meth c D cA ad σ0 τ0 a1 n := by
  intro n
  induction n with
  | zero =>
    exact (by intro σ τ H locs x2 ls hR hF hFL hP hS hc0 hl hm; exfalso; omega)
  | succ n ih =>
    exact B_X1_countHonest_2 p l e s m args below meth c D cA ad σ0 τ0 a1 n C ha1 ih
set_option maxHeartbeats 4000000 in
theorem c_X1_countHonest (l : Launch) (D : va_G) (cA : Nat → ClassId) (ad : Nat → Nat) (hI : Inj ad) (σ0 : Nat → Nat → Int32) (τ0 : Nat → Nat → Int64) (hR : Rg σ0) (a1 : Int32) (ha1 : 0 ≤ a1.toInt ∧ a1.toInt ≤ 3) : Met l yX1_countHonest wsX1_countHonest ({ frames := 3, cells := 0, slots := 0, locals := 68 } : Room) (WQc D cA ad [.ref (ad 21), .int a1] σ0 τ0) (va_Qv (fun u : SS => P_X1_countHonest σ0 τ0 a1 u.1 u.2) (WB D cA ad) (AA ad)) 0 0 (AA ad) := by
  refine Met.ofW (cc := cX1_countHonest) (maxL := 5) (ret := none) (by decide) rfl ?_
  intro p e s m args below meth c s₁ B hml hv
  obtain ⟨rfl, hP, hK, hN⟩ := hv
  have C : Cy p s m _ meth c cX1_countHonest 5 wsX1_countHonest RX1 D cA ad none := ⟨B.exec, B.bytes, hml, findClass_of_methodNamed B.named, atoms_spec (ws := wsX1_countHonest) B.pre, hK, B.notSynchronized, B.returns, hI, hN⟩
  have hl := lv_entry ([.ref (ad 21), .int a1]) (n := 5) (Nat.le_of_ble_eq_true rfl)
  rw [lg_entry_eq]
  generalize (lg_sl ([.ref (ad 21), .int a1]) ++ List.replicate (5 - (lg_sl ([.ref (ad 21), .int a1])).length) Slot.unset).toArray = ls at hl ⊢
  have hl : lv_has ls 5 [(0, .ref (ad 21)), (1, .int a1)] := hl
  have hS : va_S (AA ad) s.heap s.heap [] := va_S.rf
  have hF : Fr L_X1_countHonest σ0 σ0 := Fr.rf
  have hFL : FrL LL_X1_countHonest τ0 τ0 := FrL.rf
  have hA := A_X1_countHonest p l e s m _ below meth c D cA ad σ0 τ0 a1 C ha1 18
  have K2 := hA
  clear hA
  obtain ⟨hx, hb, _, hown, hts, _, hk, hr, _, _⟩ := C
  refine r_iconst hx hb dX1_countHonest_0 (by decide) (fun z1 ez1 => ?_)
  refine lv_istore_n (lv' := [(2, .int z1), (0, .ref (ad 21)), (1, .int a1)]) hx hb dX1_countHonest_1 rfl hl (by decide) rfl (fun ls hl => ?_)
  exact K2 σ0 τ0 s.heap [] z1 ls hR hF hFL hP hS (by omega) (lv_sub hl [1, 2, 0] rfl) (by omega)
abbrev L_X9_chances : List Rc := []
abbrev LL_X9_chances : List Rc := []
def P_X9_chances (σ0 : Nat → Nat → Int32) (τ0 : Nat → Nat → Int64)  (r : Int32) (σ : Nat → Nat → Int32) (τ : Nat → Nat → Int64) : Prop := Rg σ ∧ Fr L_X9_chances σ0 σ ∧ FrL LL_X9_chances τ0 τ
def J_X9_chances_4 (p : Program) (l : Launch) (e : Env) (s : State) (m : MethodId) (args : Array Value) (below : List Frame) (meth : Method) (c : Code) (D : va_G) (cA : Nat → ClassId) (ad : Nat → Nat) (σ0 : Nat → Nat → Int32) (τ0 : Nat → Nat → Int64)  (n : Nat) : Prop := ∀ (σ : Nat → Nat → Int32) (τ : Nat → Nat → Int64) (H : Heap) (locs : List Loc) (x1 : Int32) (x2 : Int32) (ls : Array Slot), Rg σ → Fr L_X9_chances σ0 σ → FrL LL_X9_chances τ0 τ → va_P D vwCl (gw cA ad σ τ) H → va_S (AA ad) s.heap H locs → (0 ≤ x2.toInt ∧ x2.toInt ≤ 4) → lv_has ls 3 [(0, .ref (ad 2)), (1, .int x1), (2, .int x2)] → 2 * (4 - x2.toInt) + 1 < (n : Int) → W p l e ({ frames := 0, cells := 0, slots := 0, locals := 0 } : Room) s m args below meth c H locs 0 0 (MQ below (va_Qi (fun (r : Int32) (u : SS) => P_X9_chances σ0 τ0 r u.1 u.2) (WB D cA ad) (AA ad)) args s 0 0 (AA ad)) (F0 m 4 ls [])
set_option maxHeartbeats 4000000 in
theorem B_X9_chances_4 (p : Program) (l : Launch) (e : Env) (s : State) (m : MethodId) (args : Array Value) (below : List Frame) (meth : Method) (c : Code) (D : va_G) (cA : Nat → ClassId) (ad : Nat → Nat) (σ0 : Nat → Nat → Int32) (τ0 : Nat → Nat → Int64)  (n : Nat) (C : Cy p s m args meth c cX9_chances 3 wsX9_chances RX9 D cA ad (some .int))  (K4 : J_X9_chances_4 p l e s m args below meth c D cA ad σ0 τ0 n) : J_X9_chances_4 p l e s m args below meth c D cA ad σ0 τ0 (n + 1) := by
  obtain ⟨hx, hb, hml, hown, hts, hK, hk, hr, hI, hN⟩ := C
  intro σ τ H locs x1 x2 ls hR hF hFL hP hS hc0 hl hm
  obtain rfl := Fr.nil hF
  obtain rfl := FrL.nil hFL
  refine lv_iload_n hx hb dX9_chances_4 rfl (lv_at hl 2 rfl) ?_
  refine lv_aload_n hx hb dX9_chances_5 rfl (lv_at hl 0 rfl) ?_
  refine fg_9_6 (k := 2) hx hb hts in_X9_chances_9 hown hK hP (by decide) (by decide) (hts _ lk_X9_chances_55) dX9_chances_6 ?_
  have hr1 := rg_9_6 hR (k := 2) (by decide) (by decide)
  refine r_icmp_ge (tgt := 29) hx hb dX9_chances_9 (by decide) (fun c2 => ?_) (fun c2 => ?_)
  · refine lv_iload_n hx hb dX9_chances_29 rfl (lv_at hl 1 rfl) ?_
    exact r_iret hx hb hr hK hP hS hk dX9_chances_30 (show P_X9_chances σ0 τ0 x1 σ0 τ0 from ⟨hR, hF, hFL⟩)
  · refine lv_iload_n hx hb dX9_chances_12 rfl (lv_at hl 1 rfl) ?_
    refine lv_aload_n hx hb dX9_chances_13 rfl (lv_at hl 0 rfl) ?_
    refine fg_9_11 (k := 2) hx hb hts in_X9_chances_9 hown hK hP (by decide) (by decide) (hts _ lk_X9_chances_26) dX9_chances_14 ?_
    refine lv_iload_n hx hb dX9_chances_17 rfl (lv_at hl 2 rfl) ?_
    obtain ⟨j3, ej3⟩ : ∃ j : Nat, x2.toInt = (j : Int) := ⟨_, ti_nat (by omega)⟩
    refine ad_flightA (k := 56) (j := j3) hx hb hK hP (by decide) (by decide) ej3 (by omega) dX9_chances_18 ?_
    refine r_iconst hx hb dX9_chances_19 (by decide) (fun z4 ez4 => ?_)
    refine ad_flightR (k := 132 + j3) (j := 0) hx hb hK hP (by omega) (by omega) (by omega) (by omega) dX9_chances_20 ?_
    refine r_iaddU hx hb dX9_chances_21 (fun z5 => ?_)
    refine lv_istore_n (lv' := [(1, .int z5), (0, .ref (ad 2)), (2, .int x2)]) hx hb dX9_chances_22 rfl hl (by decide) rfl (fun ls hl => ?_)
    refine r_iinc (k := 2) (lv1 := fun z6 => [(2, .int z6), (1, .int z5), (0, .ref (ad 2))]) hx hb dX9_chances_23 hl rfl (by decide) (fun _ => rfl) (by decide) (by omega) (fun z6 ls ez6 hl => ?_)
    refine lv_goto (tgt := 4) hx hb dX9_chances_26 (by decide) ?_
    exact K4 σ0 τ0 H locs z5 z6 ls hR hF hFL hP hS (by omega) (lv_sub hl [2, 1, 0] rfl) (by omega)
theorem A_X9_chances (p : Program) (l : Launch) (e : Env) (s : State) (m : MethodId) (args : Array Value) (below : List Frame) (meth : Method) (c : Code) (D : va_G) (cA : Nat → ClassId) (ad : Nat → Nat) (σ0 : Nat → Nat → Int32) (τ0 : Nat → Nat → Int64)  (C : Cy p s m args meth c cX9_chances 3 wsX9_chances RX9 D cA ad (some .int))  : ∀ n : Nat, J_X9_chances_4 p l e s m args below meth c D cA ad σ0 τ0 n := by
  intro n
  induction n with
  | zero =>
    exact (by intro σ τ H locs x1 x2 ls hR hF hFL hP hS hc0 hl hm; exfalso; omega)
  | succ n ih =>
    exact B_X9_chances_4 p l e s m args below meth c D cA ad σ0 τ0 n C  ih
set_option maxHeartbeats 4000000 in
theorem c_X9_chances (l : Launch) (D : va_G) (cA : Nat → ClassId) (ad : Nat → Nat) (hI : Inj ad) (σ0 : Nat → Nat → Int32) (τ0 : Nat → Nat → Int64) (hR : Rg σ0)   : Met l yX9_chances wsX9_chances ({ frames := 0, cells := 0, slots := 0, locals := 0 } : Room) (WQc D cA ad [.ref (ad 2)] σ0 τ0) (va_Qi (fun (r : Int32) (u : SS) => P_X9_chances σ0 τ0 r u.1 u.2) (WB D cA ad) (AA ad)) 0 0 (AA ad) := by
  refine Met.ofW (cc := cX9_chances) (maxL := 3) (ret := (some .int)) (by decide) rfl ?_
  intro p e s m args below meth c s₁ B hml hv
  obtain ⟨rfl, hP, hK, hN⟩ := hv
  have C : Cy p s m _ meth c cX9_chances 3 wsX9_chances RX9 D cA ad (some .int) := ⟨B.exec, B.bytes, hml, findClass_of_methodNamed B.named, atoms_spec (ws := wsX9_chances) B.pre, hK, B.notSynchronized, B.returns, hI, hN⟩
  have hl := lv_entry ([.ref (ad 2)]) (n := 3) (Nat.le_of_ble_eq_true rfl)
  rw [lg_entry_eq]
  generalize (lg_sl ([.ref (ad 2)]) ++ List.replicate (3 - (lg_sl ([.ref (ad 2)])).length) Slot.unset).toArray = ls at hl ⊢
  have hl : lv_has ls 3 [(0, .ref (ad 2))] := hl
  have hS : va_S (AA ad) s.heap s.heap [] := va_S.rf
  have hF : Fr L_X9_chances σ0 σ0 := Fr.rf
  have hFL : FrL LL_X9_chances τ0 τ0 := FrL.rf
  have hA := A_X9_chances p l e s m _ below meth c D cA ad σ0 τ0 C  26
  have K4 := hA
  clear hA
  obtain ⟨hx, hb, _, hown, hts, _, hk, hr, _, _⟩ := C
  refine r_iconst hx hb dX9_chances_0 (by decide) (fun z1 ez1 => ?_)
  refine lv_istore_n (lv' := [(1, .int z1), (0, .ref (ad 2))]) hx hb dX9_chances_1 rfl hl (by decide) rfl (fun ls hl => ?_)
  refine r_iconst hx hb dX9_chances_2 (by decide) (fun z2 ez2 => ?_)
  refine lv_istore_n (lv' := [(2, .int z2), (1, .int z1), (0, .ref (ad 2))]) hx hb dX9_chances_3 rfl hl (by decide) rfl (fun ls hl => ?_)
  exact K4 σ0 τ0 s.heap [] z1 z2 ls hR hF hFL hP hS (by omega) (lv_sub hl [2, 1, 0] rfl) (by omega)
theorem in_X1_listenToAll_1 : ∀ w ∈ u_ws RX1 TX1 9, w ∈ wsX1_listenToAll := by decide +kernel
theorem in_X1_listenToAll_9 : ∀ w ∈ u_ws RX9 TX9 14, w ∈ wsX1_listenToAll := by decide +kernel
theorem lk_X1_listenToAll_36 : Cond.fieldLink RX1 36 "CuckooShares$Camp" "valley" "LCuckooShares$Valley;" ∈ wsX1_listenToAll := by decide +kernel
abbrev L_X1_listenToAll : List Rc := [(363, 363, 0, 39)]
abbrev LL_X1_listenToAll : List Rc := []
def P_X1_listenToAll (σ0 : Nat → Nat → Int32) (τ0 : Nat → Nat → Int64)  (σ : Nat → Nat → Int32) (τ : Nat → Nat → Int64) : Prop := Rg σ ∧ Fr L_X1_listenToAll σ0 σ ∧ FrL LL_X1_listenToAll τ0 τ
def J_X1_listenToAll_2 (p : Program) (l : Launch) (e : Env) (s : State) (m : MethodId) (args : Array Value) (below : List Frame) (meth : Method) (c : Code) (D : va_G) (cA : Nat → ClassId) (ad : Nat → Nat) (σ0 : Nat → Nat → Int32) (τ0 : Nat → Nat → Int64)  (n : Nat) : Prop := ∀ (σ : Nat → Nat → Int32) (τ : Nat → Nat → Int64) (H : Heap) (locs : List Loc) (x1 : Int32) (ls : Array Slot), Rg σ → Fr L_X1_listenToAll σ0 σ → FrL LL_X1_listenToAll τ0 τ → va_P D vwCl (gw cA ad σ τ) H → va_S (AA ad) s.heap H locs → (0 ≤ x1.toInt ∧ x1.toInt ≤ 4) → lv_has ls 2 [(0, .ref (ad 21)), (1, .int x1)] → 2 * (4 - x1.toInt) + 1 < (n : Int) → W p l e ({ frames := 5, cells := 0, slots := 0, locals := 117 } : Room) s m args below meth c H locs 0 0 (MQ below (va_Qv (fun u : SS => P_X1_listenToAll σ0 τ0 u.1 u.2) (WB D cA ad) (AA ad)) args s 0 0 (AA ad)) (F0 m 2 ls [])
set_option maxHeartbeats 4000000 in
theorem B_X1_listenToAll_2 (p : Program) (l : Launch) (e : Env) (s : State) (m : MethodId) (args : Array Value) (below : List Frame) (meth : Method) (c : Code) (D : va_G) (cA : Nat → ClassId) (ad : Nat → Nat) (σ0 : Nat → Nat → Int32) (τ0 : Nat → Nat → Int64)  (n : Nat) (C : Cy p s m args meth c cX1_listenToAll 2 wsX1_listenToAll RX1 D cA ad none)  (K2 : J_X1_listenToAll_2 p l e s m args below meth c D cA ad σ0 τ0 n) : J_X1_listenToAll_2 p l e s m args below meth c D cA ad σ0 τ0 (n + 1) := by
  obtain ⟨hx, hb, hml, hown, hts, hK, hk, hr, hI, hN⟩ := C
  intro σ τ H locs x1 ls hR hF hFL hP hS hc0 hl hm
  obtain rfl := FrL.nil hFL
  refine lv_iload_n hx hb dX1_listenToAll_2 rfl (lv_at hl 1 rfl) ?_
  refine lv_aload_n hx hb dX1_listenToAll_3 rfl (lv_at hl 0 rfl) ?_
  refine fg_1_0 (k := 21) hx hb hts in_X1_listenToAll_1 hown hK hP (by decide) (by decide) (hts _ lk_X1_listenToAll_36) dX1_listenToAll_4 ?_
  refine fgN_9_6 (k := 2) hx hb hts in_X1_listenToAll_9 hown hK hP (by decide) (by decide) (hN.use nw_1_104) dX1_listenToAll_7 ?_
  have hr1 := rg_9_6 hR (k := 2) (by decide) (by decide)
  refine r_icmp_ge (tgt := 24) hx hb dX1_listenToAll_10 (by decide) (fun c2 => ?_) (fun c2 => ?_)
  · exact r_vret hx hb hr hK hP hS hk dX1_listenToAll_24 (show P_X1_listenToAll σ0 τ0 σ τ0 from ⟨hR, hF, hFL⟩)
  · refine lv_aload_n hx hb dX1_listenToAll_13 rfl (lv_at hl 0 rfl) ?_
    refine lv_iload_n hx hb dX1_listenToAll_14 rfl (lv_at hl 1 rfl) ?_
    refine r_cVv (k := 21) (As := [.int x1]) (rest := []) ⟨hx, hb, hml, hown, hts⟩ hK hP hN hS (c_X1_listen l D cA ad hI σ τ0 hR x1 (by omega)) (cwV 1 hts gX1_listenToAll_X1_listen rfl rfl rfl (by decide +kernel) ⟨by decide, by decide⟩) (rv_Camp hK hP (by decide) (by decide)) rfl hl.1 rfl (Nat.le_of_ble_eq_true rfl) dX1_listenToAll_15 (Nat.zero_le _) (Nat.zero_le _) (fun u3 H3 locs3 hp3 hP hS => ?_)
    obtain ⟨σ3, τ3⟩ := u3
    obtain ⟨hR, f3, fL3⟩ : P_X1_listen σ τ0 x1 σ3 τ3 := hp3
    have hP : va_P D vwCl (gw cA ad σ3 τ3) H3 := hP
    obtain rfl := FrL.nil fL3
    have hF := hF.step f3 (by decide)
    refine r_iinc (k := 1) (lv1 := fun z4 => [(1, .int z4), (0, .ref (ad 21))]) hx hb dX1_listenToAll_18 hl rfl (by decide) (fun _ => rfl) (by decide) (by omega) (fun z4 ls ez4 hl => ?_)
    refine lv_goto (tgt := 2) hx hb dX1_listenToAll_21 (by decide) ?_
    exact K2 σ3 τ0 H3 locs3 z4 ls hR hF hFL hP hS (by omega) (lv_sub hl [1, 0] rfl) (by omega)
theorem A_X1_listenToAll (p : Program) (l : Launch) (e : Env) (s : State) (m : MethodId) (args : Array Value) (below : List Frame) (meth : Method) (c : Code) (D : va_G) (cA : Nat → ClassId) (ad : Nat → Nat) (σ0 : Nat → Nat → Int32) (τ0 : Nat → Nat → Int64)  (C : Cy p s m args meth c cX1_listenToAll 2 wsX1_listenToAll RX1 D cA ad none)  : ∀ n : Nat, J_X1_listenToAll_2 p l e s m args below meth c D cA ad σ0 τ0 n := by
  intro n
  induction n with
  | zero =>
    exact (by intro σ τ H locs x1 ls hR hF hFL hP hS hc0 hl hm; exfalso; omega)
  | succ n ih =>
    exact B_X1_listenToAll_2 p l e s m args below meth c D cA ad σ0 τ0 n C  ih
set_option maxHeartbeats 4000000 in
theorem c_X1_listenToAll (l : Launch) (D : va_G) (cA : Nat → ClassId) (ad : Nat → Nat) (hI : Inj ad) (σ0 : Nat → Nat → Int32) (τ0 : Nat → Nat → Int64) (hR : Rg σ0)   : Met l yX1_listenToAll wsX1_listenToAll ({ frames := 5, cells := 0, slots := 0, locals := 117 } : Room) (WQc D cA ad [.ref (ad 21)] σ0 τ0) (va_Qv (fun u : SS => P_X1_listenToAll σ0 τ0 u.1 u.2) (WB D cA ad) (AA ad)) 0 0 (AA ad) := by
  refine Met.ofW (cc := cX1_listenToAll) (maxL := 2) (ret := none) (by decide) rfl ?_
  intro p e s m args below meth c s₁ B hml hv
  obtain ⟨rfl, hP, hK, hN⟩ := hv
  have C : Cy p s m _ meth c cX1_listenToAll 2 wsX1_listenToAll RX1 D cA ad none := ⟨B.exec, B.bytes, hml, findClass_of_methodNamed B.named, atoms_spec (ws := wsX1_listenToAll) B.pre, hK, B.notSynchronized, B.returns, hI, hN⟩
  have hl := lv_entry ([.ref (ad 21)]) (n := 2) (Nat.le_of_ble_eq_true rfl)
  rw [lg_entry_eq]
  generalize (lg_sl ([.ref (ad 21)]) ++ List.replicate (2 - (lg_sl ([.ref (ad 21)])).length) Slot.unset).toArray = ls at hl ⊢
  have hl : lv_has ls 2 [(0, .ref (ad 21))] := hl
  have hS : va_S (AA ad) s.heap s.heap [] := va_S.rf
  have hF : Fr L_X1_listenToAll σ0 σ0 := Fr.rf
  have hFL : FrL LL_X1_listenToAll τ0 τ0 := FrL.rf
  have hA := A_X1_listenToAll p l e s m _ below meth c D cA ad σ0 τ0 C  26
  have K2 := hA
  clear hA
  obtain ⟨hx, hb, _, hown, hts, _, hk, hr, _, _⟩ := C
  refine r_iconst hx hb dX1_listenToAll_0 (by decide) (fun z1 ez1 => ?_)
  refine lv_istore_n (lv' := [(1, .int z1), (0, .ref (ad 21))]) hx hb dX1_listenToAll_1 rfl hl (by decide) rfl (fun ls hl => ?_)
  exact K2 σ0 τ0 s.heap [] z1 ls hR hF hFL hP hS (by omega) (lv_sub hl [1, 0] rfl) (by omega)
theorem in_X1_listenAgain_1 : ∀ w ∈ u_ws RX1 TX1 9, w ∈ wsX1_listenAgain := by decide +kernel
theorem in_X1_listenAgain_9 : ∀ w ∈ u_ws RX9 TX9 14, w ∈ wsX1_listenAgain := by decide +kernel
theorem lk_X1_listenAgain_21 : Cond.fieldLink RX1 21 "CuckooShares$Camp" "heard" "[I" ∈ wsX1_listenAgain := by decide +kernel
theorem lk_X1_listenAgain_36 : Cond.fieldLink RX1 36 "CuckooShares$Camp" "valley" "LCuckooShares$Valley;" ∈ wsX1_listenAgain := by decide +kernel
abbrev L_X1_listenAgain : List Rc := [(363, 363, 0, 39)]
abbrev LL_X1_listenAgain : List Rc := []
def P_X1_listenAgain (σ0 : Nat → Nat → Int32) (τ0 : Nat → Nat → Int64) (a1 : Int32) (σ : Nat → Nat → Int32) (τ : Nat → Nat → Int64) : Prop := Rg σ ∧ Fr L_X1_listenAgain σ0 σ ∧ FrL LL_X1_listenAgain τ0 τ
def J_X1_listenAgain_17 (p : Program) (l : Launch) (e : Env) (s : State) (m : MethodId) (args : Array Value) (below : List Frame) (meth : Method) (c : Code) (D : va_G) (cA : Nat → ClassId) (ad : Nat → Nat) (σ0 : Nat → Nat → Int32) (τ0 : Nat → Nat → Int64) (a1 : Int32) (n : Nat) : Prop := ∀ (σ : Nat → Nat → Int32) (τ : Nat → Nat → Int64) (H : Heap) (locs : List Loc) (x2 : Int32) (x3 : Int32) (ls : Array Slot), Rg σ → Fr L_X1_listenAgain σ0 σ → FrL LL_X1_listenAgain τ0 τ → va_P D vwCl (gw cA ad σ τ) H → va_S (AA ad) s.heap H locs → (0 ≤ x3.toInt ∧ x3.toInt ≤ 4) → lv_has ls 6 [(0, .ref (ad 21)), (1, .int a1), (2, .int x2), (3, .int x3)] → 25 * (4 - x3.toInt) + 24 < (n : Int) → W p l e ({ frames := 3, cells := 0, slots := 0, locals := 71 } : Room) s m args below meth c H locs 0 0 (MQ below (va_Qv (fun u : SS => P_X1_listenAgain σ0 τ0 a1 u.1 u.2) (WB D cA ad) (AA ad)) args s 0 0 (AA ad)) (F0 m 17 ls [])
def J_X1_listenAgain_31 (p : Program) (l : Launch) (e : Env) (s : State) (m : MethodId) (args : Array Value) (below : List Frame) (meth : Method) (c : Code) (D : va_G) (cA : Nat → ClassId) (ad : Nat → Nat) (σ0 : Nat → Nat → Int32) (τ0 : Nat → Nat → Int64) (a1 : Int32) (n : Nat) : Prop := ∀ (σ : Nat → Nat → Int32) (τ : Nat → Nat → Int64) (H : Heap) (locs : List Loc) (x2 : Int32) (x3 : Int32) (x4 : Int32) (ls : Array Slot), Rg σ → Fr L_X1_listenAgain σ0 σ → FrL LL_X1_listenAgain τ0 τ → va_P D vwCl (gw cA ad σ τ) H → va_S (AA ad) s.heap H locs → (0 ≤ x3.toInt ∧ x3.toInt ≤ 3) → (0 ≤ x4.toInt ∧ x4.toInt ≤ 10) → lv_has ls 6 [(0, .ref (ad 21)), (1, .int a1), (2, .int x2), (3, .int x3), (4, .int x4)] → 25 * (4 - x3.toInt) + 2 * (10 - x4.toInt) + 1 < (n : Int) → W p l e ({ frames := 3, cells := 0, slots := 0, locals := 71 } : Room) s m args below meth c H locs 0 0 (MQ below (va_Qv (fun u : SS => P_X1_listenAgain σ0 τ0 a1 u.1 u.2) (WB D cA ad) (AA ad)) args s 0 0 (AA ad)) (F0 m 31 ls [])
set_option maxHeartbeats 4000000 in
theorem B_X1_listenAgain_17 (p : Program) (l : Launch) (e : Env) (s : State) (m : MethodId) (args : Array Value) (below : List Frame) (meth : Method) (c : Code) (D : va_G) (cA : Nat → ClassId) (ad : Nat → Nat) (σ0 : Nat → Nat → Int32) (τ0 : Nat → Nat → Int64) (a1 : Int32) (n : Nat) (C : Cy p s m args meth c cX1_listenAgain 6 wsX1_listenAgain RX1 D cA ad none) (ha1 : 0 ≤ a1.toInt ∧ a1.toInt ≤ 7) (K17 : J_X1_listenAgain_17 p l e s m args below meth c D cA ad σ0 τ0 a1 n) (K31 : J_X1_listenAgain_31 p l e s m args below meth c D cA ad σ0 τ0 a1 n) : J_X1_listenAgain_17 p l e s m args below meth c D cA ad σ0 τ0 a1 (n + 1) := by
  obtain ⟨hx, hb, hml, hown, hts, hK, hk, hr, hI, hN⟩ := C
  intro σ τ H locs x2 x3 ls hR hF hFL hP hS hc0 hl hm
  obtain rfl := FrL.nil hFL
  refine lv_iload_n hx hb dX1_listenAgain_17 rfl (lv_at hl 3 rfl) ?_
  refine lv_aload_n hx hb dX1_listenAgain_18 rfl (lv_at hl 0 rfl) ?_
  refine fg_1_0 (k := 21) hx hb hts in_X1_listenAgain_1 hown hK hP (by decide) (by decide) (hts _ lk_X1_listenAgain_36) dX1_listenAgain_19 ?_
  refine fgN_9_6 (k := 2) hx hb hts in_X1_listenAgain_9 hown hK hP (by decide) (by decide) (hN.use nw_1_104) dX1_listenAgain_22 ?_
  have hr1 := rg_9_6 hR (k := 2) (by decide) (by decide)
  refine r_icmp_ge (tgt := 109) hx hb dX1_listenAgain_25 (by decide) (fun c2 => ?_) (fun c2 => ?_)
  · exact r_vret hx hb hr hK hP hS hk dX1_listenAgain_109 (show P_X1_listenAgain σ0 τ0 a1 σ τ0 from ⟨hR, hF, hFL⟩)
  · refine r_iconst hx hb dX1_listenAgain_28 (by decide) (fun z3 ez3 => ?_)
    refine lv_istore (lv' := [(4, .int z3), (0, .ref (ad 21)), (1, .int a1), (2, .int x2), (3, .int x3)]) hx hb dX1_listenAgain_29 hl (by decide) rfl (fun ls hl => ?_)
    exact K31 σ τ0 H locs x2 x3 z3 ls hR hF hFL hP hS (by omega) (by omega) (lv_sub hl [1, 2, 3, 4, 0] rfl) (by omega)
set_option maxHeartbeats 4000000 in
theorem B_X1_listenAgain_31 (p : Program) (l : Launch) (e : Env) (s : State) (m : MethodId) (args : Array Value) (below : List Frame) (meth : Method) (c : Code) (D : va_G) (cA : Nat → ClassId) (ad : Nat → Nat) (σ0 : Nat → Nat → Int32) (τ0 : Nat → Nat → Int64) (a1 : Int32) (n : Nat) (C : Cy p s m args meth c cX1_listenAgain 6 wsX1_listenAgain RX1 D cA ad none) (ha1 : 0 ≤ a1.toInt ∧ a1.toInt ≤ 7) (K17 : J_X1_listenAgain_17 p l e s m args below meth c D cA ad σ0 τ0 a1 n) (K31 : J_X1_listenAgain_31 p l e s m args below meth c D cA ad σ0 τ0 a1 n) : J_X1_listenAgain_31 p l e s m args below meth c D cA ad σ0 τ0 a1 (n + 1) := by
  obtain ⟨hx, hb, hml, hown, hts, hK, hk, hr, hI, hN⟩ := C
  intro σ τ H locs x2 x3 x4 ls hR hF hFL hP hS hc0 hc1 hl hm
  obtain rfl := FrL.nil hFL
  refine lv_iload hx hb dX1_listenAgain_31 (lv_at hl 4 rfl) ?_
  refine lv_aload_n hx hb dX1_listenAgain_33 rfl (lv_at hl 0 rfl) ?_
  refine fg_1_0 (k := 21) hx hb hts in_X1_listenAgain_1 hown hK hP (by decide) (by decide) (hts _ lk_X1_listenAgain_36) dX1_listenAgain_34 ?_
  refine fgN_9_11 (k := 2) hx hb hts in_X1_listenAgain_9 hown hK hP (by decide) (by decide) (hN.use nw_1_79) dX1_listenAgain_37 ?_
  refine lv_iload_n hx hb dX1_listenAgain_40 rfl (lv_at hl 3 rfl) ?_
  obtain ⟨j1, ej1⟩ : ∃ j : Nat, x3.toInt = (j : Int) := ⟨_, ti_nat (by omega)⟩
  refine ad_flightA (k := 56) (j := j1) hx hb hK hP (by decide) (by decide) ej1 (by omega) dX1_listenAgain_41 ?_
  refine r_iconst hx hb dX1_listenAgain_42 (by decide) (fun z2 ez2 => ?_)
  refine ad_flightR (k := 132 + j1) (j := 2) hx hb hK hP (by omega) (by omega) (by omega) (by omega) dX1_listenAgain_43 ?_
  have hr3 := ra_flightR_0 hR (k := 132 + j1) (j := 2) (by omega) (by omega) (by decide) (by decide)
  refine r_icmp_ge (tgt := 103) hx hb dX1_listenAgain_44 (by decide) (fun c4 => ?_) (fun c4 => ?_)
  · refine r_iinc (k := 3) (lv1 := fun z5 => [(3, .int z5), (0, .ref (ad 21)), (1, .int a1), (2, .int x2), (4, .int x4)]) hx hb dX1_listenAgain_103 hl rfl (by decide) (fun _ => rfl) (by decide) (by omega) (fun z5 ls ez5 hl => ?_)
    refine lv_goto (tgt := 17) hx hb dX1_listenAgain_106 (by decide) ?_
    exact K17 σ τ0 H locs x2 z5 ls hR hF hFL hP hS (by omega) (lv_sub hl [1, 2, 3, 0] rfl) (by omega)
  · refine lv_aload_n hx hb dX1_listenAgain_47 rfl (lv_at hl 0 rfl) ?_
    refine fg_1_4 (k := 21) hx hb hts in_X1_listenAgain_1 hown hK hP (by decide) (by decide) (hts _ lk_X1_listenAgain_21) dX1_listenAgain_48 ?_
    refine lv_iload_n hx hb dX1_listenAgain_51 rfl (lv_at hl 3 rfl) ?_
    refine r_bipush hx hb dX1_listenAgain_52 (by decide) (fun z6 ez6 => ?_)
    refine r_imulR (n := 10) hx hb dX1_listenAgain_54 (by omega) (by omega) (fun z7 ez7 => ?_)
    refine lv_iload hx hb dX1_listenAgain_55 (lv_at hl 4 rfl) ?_
    refine r_iadd hx hb dX1_listenAgain_57 (by omega) (fun z8 ez8 => ?_)
    obtain ⟨j9, ej9⟩ : ∃ j : Nat, z8.toInt = (j : Int) := ⟨_, ti_nat (by omega)⟩
    refine ad_heard (k := 363) (j := j9) hx hb hK hP (by decide) (by decide) ej9 (by omega) dX1_listenAgain_58 ?_
    refine lv_iload_n hx hb dX1_listenAgain_59 rfl (lv_at hl 2 rfl) ?_
    refine r_iconst hx hb dX1_listenAgain_60 (by decide) (fun z10 ez10 => ?_)
    refine r_ixorU hx hb dX1_listenAgain_61 (fun z11 => ?_)
    refine r_iandU hx hb dX1_listenAgain_62 (fun z12 => ?_)
    refine lv_istore (lv' := [(5, .int z12), (0, .ref (ad 21)), (1, .int a1), (2, .int x2), (3, .int x3), (4, .int x4)]) hx hb dX1_listenAgain_63 hl (by decide) rfl (fun ls hl => ?_)
    refine lv_aload_n hx hb dX1_listenAgain_65 rfl (lv_at hl 1 rfl) ?_
    refine fg_1_4 (k := 21) hx hb hts in_X1_listenAgain_1 hown hK hP (by decide) (by decide) (hts _ lk_X1_listenAgain_21) dX1_listenAgain_66 ?_
    refine lv_iload_n hx hb dX1_listenAgain_69 rfl (lv_at hl 4 rfl) ?_
    refine r_bipush hx hb dX1_listenAgain_70 (by decide) (fun z13 ez13 => ?_)
    refine r_imulR (n := 10) hx hb dX1_listenAgain_72 (by omega) (by omega) (fun z14 ez14 => ?_)
    refine lv_iload hx hb dX1_listenAgain_73 (lv_at hl 5 rfl) ?_
    refine r_iadd hx hb dX1_listenAgain_75 (by omega) (fun z15 ez15 => ?_)
    refine lv_aload_n hx hb dX1_listenAgain_76 rfl (lv_at hl 1 rfl) ?_
    refine lv_iload_n hx hb dX1_listenAgain_77 rfl (lv_at hl 2 rfl) ?_
    refine lv_iload_n hx hb dX1_listenAgain_78 rfl (lv_at hl 4 rfl) ?_
    refine lv_iload hx hb dX1_listenAgain_79 (lv_at hl 5 rfl) ?_
    refine r_cVi (k := 21) (As := [.int a1, .int x3, .int x4]) (rest := [.int z15, .ref (ad 363)]) ⟨hx, hb, hml, hown, hts⟩ hK hP hN hS (c_X1_reaches l D cA ad hI σ τ0 hR a1 x3 x4 (by omega) (by omega) (by omega)) (cwV 3 hts gX1_listenAgain_X1_reaches rfl rfl rfl (by decide +kernel) ⟨by decide, by decide⟩) (rv_Camp hK hP (by decide) (by decide)) rfl hl.1 rfl (Nat.le_of_ble_eq_true rfl) dX1_listenAgain_81 (Nat.zero_le _) (Nat.zero_le _) (fun r16 u16 H16 locs16 hp16 hP hS => ?_)
    obtain ⟨σ16, τ16⟩ := u16
    obtain ⟨hR, f16, fL16, hq16⟩ : P_X1_reaches σ τ0 a1 x3 x4 r16 σ16 τ16 := hp16
    have hP : va_P D vwCl (gw cA ad σ16 τ16) H16 := hP
    obtain rfl := FrL.nil fL16
    obtain rfl := Fr.nil f16
    refine r_if_eq (tgt := 94) hx hb dX1_listenAgain_84 (by decide) (fun c17 => ?_) (fun c17 => ?_)
    · refine lv_iload hx hb dX1_listenAgain_94 (lv_at hl 0 rfl) ?_
      refine as_heard (k := 363) (j := j9) hx hb hK hP hI hR hS (by decide) (by decide) (by omega) (by omega) dX1_listenAgain_96 (fun σ18 H18 locs18 u18 v18 hR hP hS => ?_)
      have hF := hF.puts u18 0 rfl (by decide) (by decide) (by omega) (by omega)
      refine r_iinc (k := 5) (lv1 := fun z19 => [(4, .int z19), (5, .int z12), (0, .ref (ad 21)), (1, .int a1), (2, .int x2), (3, .int x3)]) hx hb dX1_listenAgain_97 hl rfl (by decide) (fun _ => rfl) (by decide) (by omega) (fun z19 ls ez19 hl => ?_)
      refine lv_goto (tgt := 31) hx hb dX1_listenAgain_100 (by decide) ?_
      exact K31 σ18 τ0 H18 locs18 x2 x3 z19 ls hR hF hFL hP hS (by omega) (by omega) (lv_sub hl [2, 3, 4, 5, 0] rfl) (by omega)
    · refine lv_iload hx hb dX1_listenAgain_87 (lv_at hl 0 rfl) ?_
      refine lv_iload_n hx hb dX1_listenAgain_89 rfl (lv_at hl 3 rfl) ?_
      refine r_iorU hx hb dX1_listenAgain_90 (fun z20 => ?_)
      refine lv_goto (tgt := 96) hx hb dX1_listenAgain_91 (by decide) ?_
      refine as_heard (k := 363) (j := j9) hx hb hK hP hI hR hS (by decide) (by decide) (by omega) (by omega) dX1_listenAgain_96 (fun σ21 H21 locs21 u21 v21 hR hP hS => ?_)
      have hF := hF.puts u21 0 rfl (by decide) (by decide) (by omega) (by omega)
      refine r_iinc (k := 5) (lv1 := fun z22 => [(4, .int z22), (5, .int z12), (0, .ref (ad 21)), (1, .int a1), (2, .int x2), (3, .int x3)]) hx hb dX1_listenAgain_97 hl rfl (by decide) (fun _ => rfl) (by decide) (by omega) (fun z22 ls ez22 hl => ?_)
      refine lv_goto (tgt := 31) hx hb dX1_listenAgain_100 (by decide) ?_
      exact K31 σ21 τ0 H21 locs21 x2 x3 z22 ls hR hF hFL hP hS (by omega) (by omega) (lv_sub hl [2, 3, 4, 5, 0] rfl) (by omega)
theorem A_X1_listenAgain (p : Program) (l : Launch) (e : Env) (s : State) (m : MethodId) (args : Array Value) (below : List Frame) (meth : Method) (c : Code) (D : va_G) (cA : Nat → ClassId) (ad : Nat → Nat) (σ0 : Nat → Nat → Int32) (τ0 : Nat → Nat → Int64) (a1 : Int32) (C : Cy p s m args meth c cX1_listenAgain 6 wsX1_listenAgain RX1 D cA ad none) (ha1 : 0 ≤ a1.toInt ∧ a1.toInt ≤ 7) : ∀ n : Nat, J_X1_listenAgain_17 p l e s m args below meth c D cA ad σ0 τ0 a1 n ∧ J_X1_listenAgain_31 p l e s m args below meth c D cA ad σ0 τ0 a1 n := by
  intro n
  induction n with
  | zero =>
    exact ⟨(by intro σ τ H locs x2 x3 ls hR hF hFL hP hS hc0 hl hm; exfalso; omega), (by intro σ τ H locs x2 x3 x4 ls hR hF hFL hP hS hc0 hc1 hl hm; exfalso; omega)⟩
  | succ n ih =>
    exact ⟨B_X1_listenAgain_17 p l e s m args below meth c D cA ad σ0 τ0 a1 n C ha1 ih.1 ih.2, B_X1_listenAgain_31 p l e s m args below meth c D cA ad σ0 τ0 a1 n C ha1 ih.1 ih.2⟩
set_option maxHeartbeats 4000000 in
theorem c_X1_listenAgain (l : Launch) (D : va_G) (cA : Nat → ClassId) (ad : Nat → Nat) (hI : Inj ad) (σ0 : Nat → Nat → Int32) (τ0 : Nat → Nat → Int64) (hR : Rg σ0) (a1 : Int32) (ha1 : 0 ≤ a1.toInt ∧ a1.toInt ≤ 7) : Met l yX1_listenAgain wsX1_listenAgain ({ frames := 3, cells := 0, slots := 0, locals := 71 } : Room) (WQc D cA ad [.ref (ad 21), .int a1] σ0 τ0) (va_Qv (fun u : SS => P_X1_listenAgain σ0 τ0 a1 u.1 u.2) (WB D cA ad) (AA ad)) 0 0 (AA ad) := by
  refine Met.ofW (cc := cX1_listenAgain) (maxL := 6) (ret := none) (by decide) rfl ?_
  intro p e s m args below meth c s₁ B hml hv
  obtain ⟨rfl, hP, hK, hN⟩ := hv
  have C : Cy p s m _ meth c cX1_listenAgain 6 wsX1_listenAgain RX1 D cA ad none := ⟨B.exec, B.bytes, hml, findClass_of_methodNamed B.named, atoms_spec (ws := wsX1_listenAgain) B.pre, hK, B.notSynchronized, B.returns, hI, hN⟩
  have hl := lv_entry ([.ref (ad 21), .int a1]) (n := 6) (Nat.le_of_ble_eq_true rfl)
  rw [lg_entry_eq]
  generalize (lg_sl ([.ref (ad 21), .int a1]) ++ List.replicate (6 - (lg_sl ([.ref (ad 21), .int a1])).length) Slot.unset).toArray = ls at hl ⊢
  have hl : lv_has ls 6 [(0, .ref (ad 21)), (1, .int a1)] := hl
  have hS : va_S (AA ad) s.heap s.heap [] := va_S.rf
  have hF : Fr L_X1_listenAgain σ0 σ0 := Fr.rf
  have hFL : FrL LL_X1_listenAgain τ0 τ0 := FrL.rf
  have hA := A_X1_listenAgain p l e s m _ below meth c D cA ad σ0 τ0 a1 C ha1 301
  have K17 := hA.1
  have K31 := hA.2
  clear hA
  obtain ⟨hx, hb, _, hown, hts, _, hk, hr, _, _⟩ := C
  refine lv_aload_n hx hb dX1_listenAgain_0 rfl (lv_at hl 0 rfl) ?_
  refine fg_1_0 (k := 21) hx hb hts in_X1_listenAgain_1 hown hK hP (by decide) (by decide) (hts _ lk_X1_listenAgain_36) dX1_listenAgain_1 ?_
  refine fgN_9_13 (k := 2) hx hb hts in_X1_listenAgain_9 hown hK hP (by decide) (by decide) (hN.use nw_1_93) dX1_listenAgain_4 ?_
  refine lv_iload_n hx hb dX1_listenAgain_7 rfl (lv_at hl 1 rfl) ?_
  obtain ⟨j1, ej1⟩ : ∃ j : Nat, a1.toInt = (j : Int) := ⟨_, ti_nat (by omega)⟩
  refine ad_echo (k := 64) (j := j1) hx hb hK hP (by decide) (by decide) ej1 (by omega) dX1_listenAgain_8 ?_
  refine lv_istore_n (lv' := [(2, .int (σ0 64 j1)), (0, .ref (ad 21)), (1, .int a1)]) hx hb dX1_listenAgain_9 rfl hl (by decide) rfl (fun ls hl => ?_)
  refine lv_iload_n hx hb dX1_listenAgain_10 rfl (lv_at hl 0 rfl) ?_
  refine r_if_ne (tgt := 15) hx hb dX1_listenAgain_11 (by decide) (fun c2 => ?_) (fun c2 => ?_)
  · refine r_iconst hx hb dX1_listenAgain_15 (by decide) (fun z3 ez3 => ?_)
    refine lv_istore_n (lv' := [(3, .int z3), (2, .int (σ0 64 j1)), (0, .ref (ad 21)), (1, .int a1)]) hx hb dX1_listenAgain_16 rfl hl (by decide) rfl (fun ls hl => ?_)
    exact K17 σ0 τ0 s.heap [] (σ0 64 j1) z3 ls hR hF hFL hP hS (by omega) (lv_sub hl [2, 3, 1, 0] rfl) (by omega)
  · exact r_vret hx hb hr hK hP hS hk dX1_listenAgain_14 (show P_X1_listenAgain σ0 τ0 a1 σ0 τ0 from ⟨hR, hF, hFL⟩)
theorem in_X1_weighedShare_1 : ∀ w ∈ u_ws RX1 TX1 9, w ∈ wsX1_weighedShare := by decide +kernel
theorem in_X1_weighedShare_9 : ∀ w ∈ u_ws RX9 TX9 14, w ∈ wsX1_weighedShare := by decide +kernel
theorem lk_X1_weighedShare_36 : Cond.fieldLink RX1 36 "CuckooShares$Camp" "valley" "LCuckooShares$Valley;" ∈ wsX1_weighedShare := by decide +kernel
abbrev L_X1_weighedShare : List Rc := [(365, 365, 0, 1), (366, 366, 0, 1), (367, 367, 0, 1)]
abbrev LL_X1_weighedShare : List Rc := []
def P_X1_weighedShare (σ0 : Nat → Nat → Int32) (τ0 : Nat → Nat → Int64) (a1 : Int32) (r : Int32) (σ : Nat → Nat → Int32) (τ : Nat → Nat → Int64) : Prop := Rg σ ∧ Fr L_X1_weighedShare σ0 σ ∧ FrL LL_X1_weighedShare τ0 τ
def J_X1_weighedShare_4 (p : Program) (l : Launch) (e : Env) (s : State) (m : MethodId) (args : Array Value) (below : List Frame) (meth : Method) (c : Code) (D : va_G) (cA : Nat → ClassId) (ad : Nat → Nat) (σ0 : Nat → Nat → Int32) (τ0 : Nat → Nat → Int64) (a1 : Int32) (n : Nat) : Prop := ∀ (σ : Nat → Nat → Int32) (τ : Nat → Nat → Int64) (H : Heap) (locs : List Loc) (x2 : Int32) (x3 : Int32) (ls : Array Slot), Rg σ → Fr L_X1_weighedShare σ0 σ → FrL LL_X1_weighedShare τ0 τ → va_P D vwCl (gw cA ad σ τ) H → va_S (AA ad) s.heap H locs → (0 ≤ x3.toInt ∧ x3.toInt ≤ 4) → lv_has ls 4 [(0, .ref (ad 21)), (1, .int a1), (2, .int x2), (3, .int x3)] → 2 * (4 - x3.toInt) + 1 < (n : Int) → W p l e ({ frames := 4, cells := 0, slots := 0, locals := 92 } : Room) s m args below meth c H locs 0 0 (MQ below (va_Qi (fun (r : Int32) (u : SS) => P_X1_weighedShare σ0 τ0 a1 r u.1 u.2) (WB D cA ad) (AA ad)) args s 0 0 (AA ad)) (F0 m 4 ls [])
set_option maxHeartbeats 4000000 in
theorem B_X1_weighedShare_4 (p : Program) (l : Launch) (e : Env) (s : State) (m : MethodId) (args : Array Value) (below : List Frame) (meth : Method) (c : Code) (D : va_G) (cA : Nat → ClassId) (ad : Nat → Nat) (σ0 : Nat → Nat → Int32) (τ0 : Nat → Nat → Int64) (a1 : Int32) (n : Nat) (C : Cy p s m args meth c cX1_weighedShare 4 wsX1_weighedShare RX1 D cA ad (some .int)) (ha1 : 0 ≤ a1.toInt ∧ a1.toInt ≤ 7) (K4 : J_X1_weighedShare_4 p l e s m args below meth c D cA ad σ0 τ0 a1 n) : J_X1_weighedShare_4 p l e s m args below meth c D cA ad σ0 τ0 a1 (n + 1) := by
  obtain ⟨hx, hb, hml, hown, hts, hK, hk, hr, hI, hN⟩ := C
  intro σ τ H locs x2 x3 ls hR hF hFL hP hS hc0 hl hm
  obtain rfl := FrL.nil hFL
  refine lv_iload_n hx hb dX1_weighedShare_4 rfl (lv_at hl 3 rfl) ?_
  refine lv_aload_n hx hb dX1_weighedShare_5 rfl (lv_at hl 0 rfl) ?_
  refine fg_1_0 (k := 21) hx hb hts in_X1_weighedShare_1 hown hK hP (by decide) (by decide) (hts _ lk_X1_weighedShare_36) dX1_weighedShare_6 ?_
  refine fgN_9_6 (k := 2) hx hb hts in_X1_weighedShare_9 hown hK hP (by decide) (by decide) (hN.use nw_1_104) dX1_weighedShare_9 ?_
  have hr1 := rg_9_6 hR (k := 2) (by decide) (by decide)
  refine r_icmp_ge (tgt := 53) hx hb dX1_weighedShare_12 (by decide) (fun c2 => ?_) (fun c2 => ?_)
  · refine lv_iload_n hx hb dX1_weighedShare_53 rfl (lv_at hl 2 rfl) ?_
    exact r_iret hx hb hr hK hP hS hk dX1_weighedShare_54 (show P_X1_weighedShare σ0 τ0 a1 x2 σ τ0 from ⟨hR, hF, hFL⟩)
  · refine lv_aload_n hx hb dX1_weighedShare_15 rfl (lv_at hl 0 rfl) ?_
    refine lv_iload_n hx hb dX1_weighedShare_16 rfl (lv_at hl 3 rfl) ?_
    refine r_cVv (k := 21) (As := [.int x3]) (rest := []) ⟨hx, hb, hml, hown, hts⟩ hK hP hN hS (c_X1_countHonest l D cA ad hI σ τ0 hR x3 (by omega)) (cwV 1 hts gX1_weighedShare_X1_countHonest rfl rfl rfl (by decide +kernel) ⟨by decide, by decide⟩) (rv_Camp hK hP (by decide) (by decide)) rfl hl.1 rfl (Nat.le_of_ble_eq_true rfl) dX1_weighedShare_17 (Nat.zero_le _) (Nat.zero_le _) (fun u3 H3 locs3 hp3 hP hS => ?_)
    obtain ⟨σ3, τ3⟩ := u3
    obtain ⟨hR, f3, fL3⟩ : P_X1_countHonest σ τ0 x3 σ3 τ3 := hp3
    have hP : va_P D vwCl (gw cA ad σ3 τ3) H3 := hP
    obtain rfl := FrL.nil fL3
    have hF := hF.step f3 (by decide)
    refine lv_iload_n hx hb dX1_weighedShare_20 rfl (lv_at hl 2 rfl) ?_
    refine lv_aload_n hx hb dX1_weighedShare_21 rfl (lv_at hl 0 rfl) ?_
    refine fg_1_0 (k := 21) hx hb hts in_X1_weighedShare_1 hown hK hP (by decide) (by decide) (hts _ lk_X1_weighedShare_36) dX1_weighedShare_22 ?_
    refine fgN_9_11 (k := 2) hx hb hts in_X1_weighedShare_9 hown hK hP (by decide) (by decide) (hN.use nw_1_79) dX1_weighedShare_25 ?_
    refine lv_iload_n hx hb dX1_weighedShare_28 rfl (lv_at hl 3 rfl) ?_
    obtain ⟨j4, ej4⟩ : ∃ j : Nat, x3.toInt = (j : Int) := ⟨_, ti_nat (by omega)⟩
    refine ad_flightA (k := 56) (j := j4) hx hb hK hP (by decide) (by decide) ej4 (by omega) dX1_weighedShare_29 ?_
    refine r_iconst hx hb dX1_weighedShare_30 (by decide) (fun z5 ez5 => ?_)
    refine ad_flightR (k := 132 + j4) (j := 0) hx hb hK hP (by omega) (by omega) (by omega) (by omega) dX1_weighedShare_31 ?_
    refine lv_aload_n hx hb dX1_weighedShare_32 rfl (lv_at hl 0 rfl) ?_
    refine lv_iload_n hx hb dX1_weighedShare_33 rfl (lv_at hl 1 rfl) ?_
    refine lv_aload_n hx hb dX1_weighedShare_34 rfl (lv_at hl 0 rfl) ?_
    refine fg_1_0 (k := 21) hx hb hts in_X1_weighedShare_1 hown hK hP (by decide) (by decide) (hts _ lk_X1_weighedShare_36) dX1_weighedShare_35 ?_
    refine fgN_9_1 (k := 2) hx hb hts in_X1_weighedShare_9 hown hK hP (by decide) (by decide) (hN.use nw_1_133) dX1_weighedShare_38 ?_
    refine r_cVi (k := 21) (As := [.int a1, .int (σ3 2 1)]) (rest := [.int (σ3 (132 + j4) 0), .int x2]) ⟨hx, hb, hml, hown, hts⟩ hK hP hN hS (c_X1_portion l D cA ad hI σ3 τ0 hR a1 (σ3 2 1) (by omega)) (cwV 2 hts gX1_weighedShare_X1_portion rfl rfl rfl (by decide +kernel) ⟨by decide, by decide⟩) (rv_Camp hK hP (by decide) (by decide)) rfl hl.1 rfl (Nat.le_of_ble_eq_true rfl) dX1_weighedShare_41 (Nat.zero_le _) (Nat.zero_le _) (fun r6 u6 H6 locs6 hp6 hP hS => ?_)
    obtain ⟨σ6, τ6⟩ := u6
    obtain ⟨hR, f6, fL6⟩ : P_X1_portion σ3 τ0 a1 (σ3 2 1) r6 σ6 τ6 := hp6
    have hP : va_P D vwCl (gw cA ad σ6 τ6) H6 := hP
    obtain rfl := FrL.nil fL6
    obtain rfl := Fr.nil f6
    refine r_imulU hx hb dX1_weighedShare_44 (fun z7 => ?_)
    refine r_iaddU hx hb dX1_weighedShare_45 (fun z8 => ?_)
    refine lv_istore_n (lv' := [(2, .int z8), (0, .ref (ad 21)), (1, .int a1), (3, .int x3)]) hx hb dX1_weighedShare_46 rfl hl (by decide) rfl (fun ls hl => ?_)
    refine r_iinc (k := 3) (lv1 := fun z9 => [(3, .int z9), (2, .int z8), (0, .ref (ad 21)), (1, .int a1)]) hx hb dX1_weighedShare_47 hl rfl (by decide) (fun _ => rfl) (by decide) (by omega) (fun z9 ls ez9 hl => ?_)
    refine lv_goto (tgt := 4) hx hb dX1_weighedShare_50 (by decide) ?_
    exact K4 σ3 τ0 H6 locs6 z8 z9 ls hR hF hFL hP hS (by omega) (lv_sub hl [2, 3, 1, 0] rfl) (by omega)
theorem A_X1_weighedShare (p : Program) (l : Launch) (e : Env) (s : State) (m : MethodId) (args : Array Value) (below : List Frame) (meth : Method) (c : Code) (D : va_G) (cA : Nat → ClassId) (ad : Nat → Nat) (σ0 : Nat → Nat → Int32) (τ0 : Nat → Nat → Int64) (a1 : Int32) (C : Cy p s m args meth c cX1_weighedShare 4 wsX1_weighedShare RX1 D cA ad (some .int)) (ha1 : 0 ≤ a1.toInt ∧ a1.toInt ≤ 7) : ∀ n : Nat, J_X1_weighedShare_4 p l e s m args below meth c D cA ad σ0 τ0 a1 n := by
  intro n
  induction n with
  | zero =>
    exact (by intro σ τ H locs x2 x3 ls hR hF hFL hP hS hc0 hl hm; exfalso; omega)
  | succ n ih =>
    exact B_X1_weighedShare_4 p l e s m args below meth c D cA ad σ0 τ0 a1 n C ha1 ih
set_option maxHeartbeats 4000000 in
theorem c_X1_weighedShare (l : Launch) (D : va_G) (cA : Nat → ClassId) (ad : Nat → Nat) (hI : Inj ad) (σ0 : Nat → Nat → Int32) (τ0 : Nat → Nat → Int64) (hR : Rg σ0) (a1 : Int32) (ha1 : 0 ≤ a1.toInt ∧ a1.toInt ≤ 7) : Met l yX1_weighedShare wsX1_weighedShare ({ frames := 4, cells := 0, slots := 0, locals := 92 } : Room) (WQc D cA ad [.ref (ad 21), .int a1] σ0 τ0) (va_Qi (fun (r : Int32) (u : SS) => P_X1_weighedShare σ0 τ0 a1 r u.1 u.2) (WB D cA ad) (AA ad)) 0 0 (AA ad) := by
  refine Met.ofW (cc := cX1_weighedShare) (maxL := 4) (ret := (some .int)) (by decide) rfl ?_
  intro p e s m args below meth c s₁ B hml hv
  obtain ⟨rfl, hP, hK, hN⟩ := hv
  have C : Cy p s m _ meth c cX1_weighedShare 4 wsX1_weighedShare RX1 D cA ad (some .int) := ⟨B.exec, B.bytes, hml, findClass_of_methodNamed B.named, atoms_spec (ws := wsX1_weighedShare) B.pre, hK, B.notSynchronized, B.returns, hI, hN⟩
  have hl := lv_entry ([.ref (ad 21), .int a1]) (n := 4) (Nat.le_of_ble_eq_true rfl)
  rw [lg_entry_eq]
  generalize (lg_sl ([.ref (ad 21), .int a1]) ++ List.replicate (4 - (lg_sl ([.ref (ad 21), .int a1])).length) Slot.unset).toArray = ls at hl ⊢
  have hl : lv_has ls 4 [(0, .ref (ad 21)), (1, .int a1)] := hl
  have hS : va_S (AA ad) s.heap s.heap [] := va_S.rf
  have hF : Fr L_X1_weighedShare σ0 σ0 := Fr.rf
  have hFL : FrL LL_X1_weighedShare τ0 τ0 := FrL.rf
  have hA := A_X1_weighedShare p l e s m _ below meth c D cA ad σ0 τ0 a1 C ha1 26
  have K4 := hA
  clear hA
  obtain ⟨hx, hb, _, hown, hts, _, hk, hr, _, _⟩ := C
  refine r_iconst hx hb dX1_weighedShare_0 (by decide) (fun z1 ez1 => ?_)
  refine lv_istore_n (lv' := [(2, .int z1), (0, .ref (ad 21)), (1, .int a1)]) hx hb dX1_weighedShare_1 rfl hl (by decide) rfl (fun ls hl => ?_)
  refine r_iconst hx hb dX1_weighedShare_2 (by decide) (fun z2 ez2 => ?_)
  refine lv_istore_n (lv' := [(3, .int z2), (2, .int z1), (0, .ref (ad 21)), (1, .int a1)]) hx hb dX1_weighedShare_3 rfl hl (by decide) rfl (fun ls hl => ?_)
  exact K4 σ0 τ0 s.heap [] z1 z2 ls hR hF hFL hP hS (by omega) (lv_sub hl [2, 3, 1, 0] rfl) (by omega)
abbrev L_X1_shareHeardAnew : List Rc := [(363, 363, 0, 39), (365, 365, 0, 1), (366, 366, 0, 1), (367, 367, 0, 1)]
abbrev LL_X1_shareHeardAnew : List Rc := []
def P_X1_shareHeardAnew (σ0 : Nat → Nat → Int32) (τ0 : Nat → Nat → Int64) (a1 : Int32) (r : Int32) (σ : Nat → Nat → Int32) (τ : Nat → Nat → Int64) : Prop := Rg σ ∧ Fr L_X1_shareHeardAnew σ0 σ ∧ FrL LL_X1_shareHeardAnew τ0 τ
set_option maxHeartbeats 4000000 in
theorem c_X1_shareHeardAnew (l : Launch) (D : va_G) (cA : Nat → ClassId) (ad : Nat → Nat) (hI : Inj ad) (σ0 : Nat → Nat → Int32) (τ0 : Nat → Nat → Int64) (hR : Rg σ0) (a1 : Int32) (ha1 : 0 ≤ a1.toInt ∧ a1.toInt ≤ 7) : Met l yX1_shareHeardAnew wsX1_shareHeardAnew ({ frames := 5, cells := 0, slots := 0, locals := 115 } : Room) (WQc D cA ad [.ref (ad 21), .int a1] σ0 τ0) (va_Qi (fun (r : Int32) (u : SS) => P_X1_shareHeardAnew σ0 τ0 a1 r u.1 u.2) (WB D cA ad) (AA ad)) 0 0 (AA ad) := by
  refine Met.ofW (cc := cX1_shareHeardAnew) (maxL := 2) (ret := (some .int)) (by decide) rfl ?_
  intro p e s m args below meth c s₁ B hml hv
  obtain ⟨rfl, hP, hK, hN⟩ := hv
  have C : Cy p s m _ meth c cX1_shareHeardAnew 2 wsX1_shareHeardAnew RX1 D cA ad (some .int) := ⟨B.exec, B.bytes, hml, findClass_of_methodNamed B.named, atoms_spec (ws := wsX1_shareHeardAnew) B.pre, hK, B.notSynchronized, B.returns, hI, hN⟩
  have hl := lv_entry ([.ref (ad 21), .int a1]) (n := 2) (Nat.le_of_ble_eq_true rfl)
  rw [lg_entry_eq]
  generalize (lg_sl ([.ref (ad 21), .int a1]) ++ List.replicate (2 - (lg_sl ([.ref (ad 21), .int a1])).length) Slot.unset).toArray = ls at hl ⊢
  have hl : lv_has ls 2 [(0, .ref (ad 21)), (1, .int a1)] := hl
  have hS : va_S (AA ad) s.heap s.heap [] := va_S.rf
  have hF : Fr L_X1_shareHeardAnew σ0 σ0 := Fr.rf
  have hFL : FrL LL_X1_shareHeardAnew τ0 τ0 := FrL.rf
  obtain ⟨hx, hb, _, hown, hts, _, hk, hr, _, _⟩ := C
  refine lv_aload_n hx hb dX1_shareHeardAnew_0 rfl (lv_at hl 0 rfl) ?_
  refine lv_iload_n hx hb dX1_shareHeardAnew_1 rfl (lv_at hl 1 rfl) ?_
  refine r_cVv (k := 21) (As := [.int a1]) (rest := []) ⟨hx, hb, hml, hown, hts⟩ hK hP hN hS (c_X1_listenAgain l D cA ad hI σ0 τ0 hR a1 (by omega)) (cwV 1 hts gX1_shareHeardAnew_X1_listenAgain rfl rfl rfl (by decide +kernel) ⟨by decide, by decide⟩) (rv_Camp hK hP (by decide) (by decide)) rfl hl.1 rfl (Nat.le_of_ble_eq_true rfl) dX1_shareHeardAnew_2 (Nat.zero_le _) (Nat.zero_le _) (fun u1 H1 locs1 hp1 hP hS => ?_)
  obtain ⟨σ1, τ1⟩ := u1
  obtain ⟨hR, f1, fL1⟩ : P_X1_listenAgain σ0 τ0 a1 σ1 τ1 := hp1
  have hP : va_P D vwCl (gw cA ad σ1 τ1) H1 := hP
  obtain rfl := FrL.nil fL1
  have hF := hF.step f1 (by decide)
  refine lv_aload_n hx hb dX1_shareHeardAnew_5 rfl (lv_at hl 0 rfl) ?_
  refine lv_iload_n hx hb dX1_shareHeardAnew_6 rfl (lv_at hl 1 rfl) ?_
  refine r_cVi (k := 21) (As := [.int a1]) (rest := []) ⟨hx, hb, hml, hown, hts⟩ hK hP hN hS (c_X1_weighedShare l D cA ad hI σ1 τ0 hR a1 (by omega)) (cwV 1 hts gX1_shareHeardAnew_X1_weighedShare rfl rfl rfl (by decide +kernel) ⟨by decide, by decide⟩) (rv_Camp hK hP (by decide) (by decide)) rfl hl.1 rfl (Nat.le_of_ble_eq_true rfl) dX1_shareHeardAnew_7 (Nat.zero_le _) (Nat.zero_le _) (fun r2 u2 H2 locs2 hp2 hP hS => ?_)
  obtain ⟨σ2, τ2⟩ := u2
  obtain ⟨hR, f2, fL2⟩ : P_X1_weighedShare σ1 τ0 a1 r2 σ2 τ2 := hp2
  have hP : va_P D vwCl (gw cA ad σ2 τ2) H2 := hP
  obtain rfl := FrL.nil fL2
  have hF := hF.step f2 (by decide)
  exact r_iret hx hb hr hK hP hS hk dX1_shareHeardAnew_10 (show P_X1_shareHeardAnew σ0 τ0 a1 r2 σ2 τ0 from ⟨hR, hF, hFL⟩)
