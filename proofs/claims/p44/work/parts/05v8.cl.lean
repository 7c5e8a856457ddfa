abbrev L_X7_readAll_d4 : List Rc := [(1, 1, 7, 10), (372, 372, 0, 39), (376, 376, 0, 39), (380, 380, 0, 39), (24, 24, 1, 2), (1, 1, 12, 14)]
abbrev LL_X7_readAll_d4 : List Rc := [(1, 1, 11, 11)]
def P_X7_readAll_d4 (σ0 : Nat → Nat → Int32) (τ0 : Nat → Nat → Int64) (a1 : Int32) (r : Int32) (σ : Nat → Nat → Int32) (τ : Nat → Nat → Int64) : Prop := Rg σ ∧ Fr L_X7_readAll_d4 σ0 σ ∧ FrL LL_X7_readAll_d4 τ0 τ ∧ (0 ≤ r.toInt ∧ r.toInt ≤ 1)
def J_X7_readAll_d4_12 (p : Program) (l : Launch) (e : Env) (s : State) (m : MethodId) (args : Array Value) (below : List Frame) (meth : Method) (c : Code) (D : va_G) (cA : Nat → ClassId) (ad : Nat → Nat) (σ0 : Nat → Nat → Int32) (τ0 : Nat → Nat → Int64) (a1 : Int32) (n : Nat) : Prop := ∀ (σ : Nat → Nat → Int32) (τ : Nat → Nat → Int64) (H : Heap) (locs : List Loc) (x2 : Int32) (ls : Array Slot), Rg σ → Fr L_X7_readAll_d4 σ0 σ → FrL LL_X7_readAll_d4 τ0 τ → va_P D vwCl (gw cA ad σ τ) H → va_S (AA ad) s.heap H locs → (0 ≤ x2.toInt ∧ x2.toInt ≤ 200) → lv_has ls 3 [(0, .ref (ad 27)), (1, .int a1), (2, .int x2)] → 2 * (200 - x2.toInt) + 1 < (n : Int) → W p l e ({ frames := 17, cells := 0, slots := 0, locals := 373 } : Room) s m args below meth c H locs 0 0 (MQ below (va_Qi (fun (r : Int32) (u : SS) => P_X7_readAll_d4 σ0 τ0 a1 r u.1 u.2) (WB D cA ad) (AA ad)) args s 0 0 (AA ad)) (F0 m 12 ls [])
set_option maxHeartbeats 4000000 in
theorem B_X7_readAll_d4_12 (p : Program) (l : Launch) (e : Env) (s : State) (m : MethodId) (args : Array Value) (below : List Frame) (meth : Method) (c : Code) (D : va_G) (cA : Nat → ClassId) (ad : Nat → Nat) (σ0 : Nat → Nat → Int32) (τ0 : Nat → Nat → Int64) (a1 : Int32) (n : Nat) (C : Cy p s m args meth c cX7_readAll 3 wsX7_readAll RX7 D cA ad (some .boolean)) (ha1 : 4 ≤ a1.toInt ∧ a1.toInt ≤ 4) (K12 : J_X7_readAll_d4_12 p l e s m args below meth c D cA ad σ0 τ0 a1 n) : J_X7_readAll_d4_12 p l e s m args below meth c D cA ad σ0 τ0 a1 (n + 1) := by
  obtain ⟨hx, hb, hml, hown, hts, hK, hk, hr, hI, hN⟩ := C
  intro σ τ H locs x2 ls hR hF hFL hP hS hc0 hl hm
  refine lv_iload_n hx hb dX7_readAll_12 rfl (lv_at hl 2 rfl) ?_
  refine r_sipush hx hb dX7_readAll_13 (by decide) (fun z1 ez1 => ?_)
  refine r_icmp_ge (tgt := 68) hx hb dX7_readAll_16 (by decide) (fun c2 => ?_) (fun c2 => ?_)
  · refine r_iconst hx hb dX7_readAll_68 (by decide) (fun z3 ez3 => ?_)
    exact r_zret hx hb hr hK hP hS hk (by omega) dX7_readAll_69 (show P_X7_readAll_d4 σ0 τ0 a1 z3 σ τ from ⟨hR, hF, hFL, by omega⟩)
  · refine lv_aload_n hx hb dX7_readAll_19 rfl (lv_at hl 0 rfl) ?_
    refine fg_7_0 (k := 27) hx hb hts in_X7_readAll_7 hown hK hP (by decide) (by decide) (hts _ lk_X7_readAll_9) dX7_readAll_20 ?_
    refine fgN_8_9 (k := 1) hx hb hts in_X7_readAll_8 hown hK hP (by decide) (by decide) (hN.use nw_7_32) dX7_readAll_23 ?_
    refine r_bipush hx hb dX7_readAll_26 (by decide) (fun z4 ez4 => ?_)
    refine r_icmp_ne (tgt := 68) hx hb dX7_readAll_28 (by decide) (fun c5 => ?_) (fun c5 => ?_)
    · refine r_iconst hx hb dX7_readAll_68 (by decide) (fun z6 ez6 => ?_)
      exact r_zret hx hb hr hK hP hS hk (by omega) dX7_readAll_69 (show P_X7_readAll_d4 σ0 τ0 a1 z6 σ τ from ⟨hR, hF, hFL, by omega⟩)
    · refine lv_aload_n hx hb dX7_readAll_31 rfl (lv_at hl 0 rfl) ?_
      refine fg_7_0 (k := 27) hx hb hts in_X7_readAll_7 hown hK hP (by decide) (by decide) (hts _ lk_X7_readAll_9) dX7_readAll_32 ?_
      refine r_cVv (k := 1) (As := []) (rest := []) ⟨hx, hb, hml, hown, hts⟩ hK hP hN hS (c_X8_next l D cA ad hI σ τ hR) (cwV 0 hts gX7_readAll_X8_next rfl rfl rfl (by decide +kernel) ⟨by decide, by decide⟩) (rv_Tape hK hP (by decide) (by decide)) rfl hl.1 rfl (Nat.le_of_ble_eq_true rfl) dX7_readAll_35 (Nat.zero_le _) (Nat.zero_le _) (fun u7 H7 locs7 hp7 hP hS => ?_)
      obtain ⟨σ7, τ7⟩ := u7
      obtain ⟨hR, f7, fL7⟩ : P_X8_next σ τ σ7 τ7 := hp7
      have hP : va_P D vwCl (gw cA ad σ7 τ7) H7 := hP
      have hFL := hFL.step fL7 (by decide)
      have hF := hF.step f7 (by decide)
      refine lv_aload_n hx hb dX7_readAll_38 rfl (lv_at hl 0 rfl) ?_
      refine lv_iload_n hx hb dX7_readAll_39 rfl (lv_at hl 1 rfl) ?_
      refine r_cVi (k := 27) (As := [.int a1]) (rest := []) ⟨hx, hb, hml, hown, hts⟩ hK hP hN hS (c_X7_readOne_d4 l D cA ad hI σ7 τ7 hR a1 (by omega)) (cwV 1 hts gX7_readAll_X7_readOne rfl rfl rfl (by decide +kernel) ⟨by decide, by decide⟩) (rv_SText hK hP (by decide) (by decide)) rfl hl.1 rfl (Nat.le_of_ble_eq_true rfl) dX7_readAll_40 (Nat.zero_le _) (Nat.zero_le _) (fun r8 u8 H8 locs8 hp8 hP hS => ?_)
      obtain ⟨σ8, τ8⟩ := u8
      obtain ⟨hR, f8, fL8, hq8⟩ : P_X7_readOne_d4 σ7 τ7 a1 r8 σ8 τ8 := hp8
      have hP : va_P D vwCl (gw cA ad σ8 τ8) H8 := hP
      have hFL := hFL.step fL8 (by decide)
      have hF := hF.step f8 (by decide)
      refine r_if_eq (tgt := 60) hx hb dX7_readAll_43 (by decide) (fun c9 => ?_) (fun c9 => ?_)
      · refine r_iconst hx hb dX7_readAll_60 (by decide) (fun z10 ez10 => ?_)
        exact r_zret hx hb hr hK hP hS hk (by omega) dX7_readAll_61 (show P_X7_readAll_d4 σ0 τ0 a1 z10 σ8 τ8 from ⟨hR, hF, hFL, by omega⟩)
      · refine lv_aload_n hx hb dX7_readAll_46 rfl (lv_at hl 0 rfl) ?_
        refine fg_7_2 (k := 27) hx hb hts in_X7_readAll_7 hown hK hP (by decide) (by decide) (hts _ lk_X7_readAll_19) dX7_readAll_47 ?_
        refine r_bipush hx hb dX7_readAll_50 (by decide) (fun z11 ez11 => ?_)
        refine r_iconst hx hb dX7_readAll_52 (by decide) (fun z12 ez12 => ?_)
        refine r_iconst hx hb dX7_readAll_53 (by decide) (fun z13 ez13 => ?_)
        refine r_cVi (k := 24) (As := [.int z11, .int z12, .int z13]) (rest := []) ⟨hx, hb, hml, hown, hts⟩ hK hP hN hS (c_X6_add l D cA ad hI σ8 τ8 hR z11 z12 z13 (by omega)) (cwV 3 hts gX7_readAll_X6_add rfl rfl rfl (by decide +kernel) ⟨by decide, by decide⟩) (rv_Sent hK hP (by decide) (by decide)) rfl hl.1 rfl (Nat.le_of_ble_eq_true rfl) dX7_readAll_54 (Nat.zero_le _) (Nat.zero_le _) (fun r14 u14 H14 locs14 hp14 hP hS => ?_)
        obtain ⟨σ14, τ14⟩ := u14
        obtain ⟨hR, f14, fL14, hq14⟩ : P_X6_add σ8 τ8 z11 z12 z13 r14 σ14 τ14 := hp14
        have hP : va_P D vwCl (gw cA ad σ14 τ14) H14 := hP
        obtain rfl := FrL.nil fL14
        have hF := hF.step f14 (by decide)
        refine r_if_ne (tgt := 62) hx hb dX7_readAll_57 (by decide) (fun c15 => ?_) (fun c15 => ?_)
        · refine r_iinc (k := 2) (lv1 := fun z16 => [(2, .int z16), (0, .ref (ad 27)), (1, .int a1)]) hx hb dX7_readAll_62 hl rfl (by decide) (fun _ => rfl) (by decide) (by omega) (fun z16 ls ez16 hl => ?_)
          refine lv_goto (tgt := 12) hx hb dX7_readAll_65 (by decide) ?_
          exact K12 σ14 τ8 H14 locs14 z16 ls hR hF hFL hP hS (by omega) (lv_sub hl [1, 2, 0] rfl) (by omega)
        · refine r_iconst hx hb dX7_readAll_60 (by decide) (fun z17 ez17 => ?_)
          exact r_zret hx hb hr hK hP hS hk (by omega) dX7_readAll_61 (show P_X7_readAll_d4 σ0 τ0 a1 z17 σ14 τ8 from ⟨hR, hF, hFL, by omega⟩)
theorem A_X7_readAll_d4 (p : Program) (l : Launch) (e : Env) (s : State) (m : MethodId) (args : Array Value) (below : List Frame) (meth : Method) (c : Code) (D : va_G) (cA : Nat → ClassId) (ad : Nat → Nat) (σ0 : Nat → Nat → Int32) (τ0 : Nat → Nat → Int64) (a1 : Int32) (C : Cy p s m args meth c cX7_readAll 3 wsX7_readAll RX7 D cA ad (some .boolean)) (ha1 : 4 ≤ a1.toInt ∧ a1.toInt ≤ 4) : ∀ n : Nat, J_X7_readAll_d4_12 p l e s m args below meth c D cA ad σ0 τ0 a1 n := by
  intro n
  induction n with
  | zero =>
    exact (by intro σ τ H locs x2 ls hR hF hFL hP hS hc0 hl hm; exfalso; omega)
  | succ n ih =>
    exact B_X7_readAll_d4_12 p l e s m args below meth c D cA ad σ0 τ0 a1 n C ha1 ih
set_option maxHeartbeats 4000000 in
theorem c_X7_readAll_d4 (l : Launch) (D : va_G) (cA : Nat → ClassId) (ad : Nat → Nat) (hI : Inj ad) (σ0 : Nat → Nat → Int32) (τ0 : Nat → Nat → Int64) (hR : Rg σ0) (a1 : Int32) (ha1 : 4 ≤ a1.toInt ∧ a1.toInt ≤ 4) : Met l yX7_readAll wsX7_readAll ({ frames := 17, cells := 0, slots := 0, locals := 373 } : Room) (WQc D cA ad [.ref (ad 27), .int a1] σ0 τ0) (va_Qi (fun (r : Int32) (u : SS) => P_X7_readAll_d4 σ0 τ0 a1 r u.1 u.2) (WB D cA ad) (AA ad)) 0 0 (AA ad) := by
  refine Met.ofW (cc := cX7_readAll) (maxL := 3) (ret := (some .boolean)) (by decide) rfl ?_
  intro p e s m args below meth c s₁ B hml hv
  obtain ⟨rfl, hP, hK, hN⟩ := hv
  have C : Cy p s m _ meth c cX7_readAll 3 wsX7_readAll RX7 D cA ad (some .boolean) := ⟨B.exec, B.bytes, hml, findClass_of_methodNamed B.named, atoms_spec (ws := wsX7_readAll) B.pre, hK, B.notSynchronized, B.returns, hI, hN⟩
  have hl := lv_entry ([.ref (ad 27), .int a1]) (n := 3) (Nat.le_of_ble_eq_true rfl)
  rw [lg_entry_eq]
  generalize (lg_sl ([.ref (ad 27), .int a1]) ++ List.replicate (3 - (lg_sl ([.ref (ad 27), .int a1])).length) Slot.unset).toArray = ls at hl ⊢
  have hl : lv_has ls 3 [(0, .ref (ad 27)), (1, .int a1)] := hl
  have hS : va_S (AA ad) s.heap s.heap [] := va_S.rf
  have hF : Fr L_X7_readAll_d4 σ0 σ0 := Fr.rf
  have hFL : FrL LL_X7_readAll_d4 τ0 τ0 := FrL.rf
  have hA := A_X7_readAll_d4 p l e s m _ below meth c D cA ad σ0 τ0 a1 C ha1 810
  have K12 := hA
  clear hA
  obtain ⟨hx, hb, _, hown, hts, _, hk, hr, _, _⟩ := C
  refine lv_aload_n hx hb dX7_readAll_0 rfl (lv_at hl 0 rfl) ?_
  refine lv_iload_n hx hb dX7_readAll_1 rfl (lv_at hl 1 rfl) ?_
  refine r_cVi (k := 27) (As := [.int a1]) (rest := []) ⟨hx, hb, hml, hown, hts⟩ hK hP hN hS (c_X7_readOne_d4 l D cA ad hI σ0 τ0 hR a1 (by omega)) (cwV 1 hts gX7_readAll_X7_readOne rfl rfl rfl (by decide +kernel) ⟨by decide, by decide⟩) (rv_SText hK hP (by decide) (by decide)) rfl hl.1 rfl (Nat.le_of_ble_eq_true rfl) dX7_readAll_2 (Nat.zero_le _) (Nat.zero_le _) (fun r1 u1 H1 locs1 hp1 hP hS => ?_)
  obtain ⟨σ1, τ1⟩ := u1
  obtain ⟨hR, f1, fL1, hq1⟩ : P_X7_readOne_d4 σ0 τ0 a1 r1 σ1 τ1 := hp1
  have hP : va_P D vwCl (gw cA ad σ1 τ1) H1 := hP
  have hFL := hFL.step fL1 (by decide)
  have hF := hF.step f1 (by decide)
  refine r_if_ne (tgt := 10) hx hb dX7_readAll_5 (by decide) (fun c2 => ?_) (fun c2 => ?_)
  · refine r_iconst hx hb dX7_readAll_10 (by decide) (fun z3 ez3 => ?_)
    refine lv_istore_n (lv' := [(2, .int z3), (0, .ref (ad 27)), (1, .int a1)]) hx hb dX7_readAll_11 rfl hl (by decide) rfl (fun ls hl => ?_)
    exact K12 σ1 τ1 H1 locs1 z3 ls hR hF hFL hP hS (by omega) (lv_sub hl [1, 2, 0] rfl) (by omega)
  · refine r_iconst hx hb dX7_readAll_8 (by decide) (fun z4 ez4 => ?_)
    exact r_zret hx hb hr hK hP hS hk (by omega) dX7_readAll_9 (show P_X7_readAll_d4 σ0 τ0 a1 z4 σ1 τ1 from ⟨hR, hF, hFL, by omega⟩)
abbrev L_X7_readCond_d4 : List Rc := [(1, 1, 7, 10), (372, 372, 0, 39), (376, 376, 0, 39), (380, 380, 0, 39), (24, 24, 1, 2), (1, 1, 12, 14)]
abbrev LL_X7_readCond_d4 : List Rc := [(1, 1, 11, 11)]
def P_X7_readCond_d4 (σ0 : Nat → Nat → Int32) (τ0 : Nat → Nat → Int64) (a1 : Int32) (r : Int32) (σ : Nat → Nat → Int32) (τ : Nat → Nat → Int64) : Prop := Rg σ ∧ Fr L_X7_readCond_d4 σ0 σ ∧ FrL LL_X7_readCond_d4 τ0 τ ∧ (0 ≤ r.toInt ∧ r.toInt ≤ 1)
def J_X7_readCond_d4_12 (p : Program) (l : Launch) (e : Env) (s : State) (m : MethodId) (args : Array Value) (below : List Frame) (meth : Method) (c : Code) (D : va_G) (cA : Nat → ClassId) (ad : Nat → Nat) (σ0 : Nat → Nat → Int32) (τ0 : Nat → Nat → Int64) (a1 : Int32) (n : Nat) : Prop := ∀ (σ : Nat → Nat → Int32) (τ : Nat → Nat → Int64) (H : Heap) (locs : List Loc) (x2 : Int32) (ls : Array Slot), Rg σ → Fr L_X7_readCond_d4 σ0 σ → FrL LL_X7_readCond_d4 τ0 τ → va_P D vwCl (gw cA ad σ τ) H → va_S (AA ad) s.heap H locs → (0 ≤ x2.toInt ∧ x2.toInt ≤ 200) → lv_has ls 3 [(0, .ref (ad 27)), (1, .int a1), (2, .int x2)] → 2 * (200 - x2.toInt) + 1 < (n : Int) → W p l e ({ frames := 18, cells := 0, slots := 0, locals := 395 } : Room) s m args below meth c H locs 0 0 (MQ below (va_Qi (fun (r : Int32) (u : SS) => P_X7_readCond_d4 σ0 τ0 a1 r u.1 u.2) (WB D cA ad) (AA ad)) args s 0 0 (AA ad)) (F0 m 12 ls [])
set_option maxHeartbeats 4000000 in
theorem B_X7_readCond_d4_12 (p : Program) (l : Launch) (e : Env) (s : State) (m : MethodId) (args : Array Value) (below : List Frame) (meth : Method) (c : Code) (D : va_G) (cA : Nat → ClassId) (ad : Nat → Nat) (σ0 : Nat → Nat → Int32) (τ0 : Nat → Nat → Int64) (a1 : Int32) (n : Nat) (C : Cy p s m args meth c cX7_readCond 3 wsX7_readCond RX7 D cA ad (some .boolean)) (ha1 : 4 ≤ a1.toInt ∧ a1.toInt ≤ 4) (K12 : J_X7_readCond_d4_12 p l e s m args below meth c D cA ad σ0 τ0 a1 n) : J_X7_readCond_d4_12 p l e s m args below meth c D cA ad σ0 τ0 a1 (n + 1) := by
  obtain ⟨hx, hb, hml, hown, hts, hK, hk, hr, hI, hN⟩ := C
  intro σ τ H locs x2 ls hR hF hFL hP hS hc0 hl hm
  refine lv_iload_n hx hb dX7_readCond_12 rfl (lv_at hl 2 rfl) ?_
  refine r_sipush hx hb dX7_readCond_13 (by decide) (fun z1 ez1 => ?_)
  refine r_icmp_ge (tgt := 68) hx hb dX7_readCond_16 (by decide) (fun c2 => ?_) (fun c2 => ?_)
  · refine r_iconst hx hb dX7_readCond_68 (by decide) (fun z3 ez3 => ?_)
    exact r_zret hx hb hr hK hP hS hk (by omega) dX7_readCond_69 (show P_X7_readCond_d4 σ0 τ0 a1 z3 σ τ from ⟨hR, hF, hFL, by omega⟩)
  · refine lv_aload_n hx hb dX7_readCond_19 rfl (lv_at hl 0 rfl) ?_
    refine fg_7_0 (k := 27) hx hb hts in_X7_readCond_7 hown hK hP (by decide) (by decide) (hts _ lk_X7_readCond_9) dX7_readCond_20 ?_
    refine fgN_8_9 (k := 1) hx hb hts in_X7_readCond_8 hown hK hP (by decide) (by decide) (hN.use nw_7_32) dX7_readCond_23 ?_
    refine r_bipush hx hb dX7_readCond_26 (by decide) (fun z4 ez4 => ?_)
    refine r_icmp_ne (tgt := 68) hx hb dX7_readCond_28 (by decide) (fun c5 => ?_) (fun c5 => ?_)
    · refine r_iconst hx hb dX7_readCond_68 (by decide) (fun z6 ez6 => ?_)
      exact r_zret hx hb hr hK hP hS hk (by omega) dX7_readCond_69 (show P_X7_readCond_d4 σ0 τ0 a1 z6 σ τ from ⟨hR, hF, hFL, by omega⟩)
    · refine lv_aload_n hx hb dX7_readCond_31 rfl (lv_at hl 0 rfl) ?_
      refine fg_7_0 (k := 27) hx hb hts in_X7_readCond_7 hown hK hP (by decide) (by decide) (hts _ lk_X7_readCond_9) dX7_readCond_32 ?_
      refine r_cVv (k := 1) (As := []) (rest := []) ⟨hx, hb, hml, hown, hts⟩ hK hP hN hS (c_X8_next l D cA ad hI σ τ hR) (cwV 0 hts gX7_readCond_X8_next rfl rfl rfl (by decide +kernel) ⟨by decide, by decide⟩) (rv_Tape hK hP (by decide) (by decide)) rfl hl.1 rfl (Nat.le_of_ble_eq_true rfl) dX7_readCond_35 (Nat.zero_le _) (Nat.zero_le _) (fun u7 H7 locs7 hp7 hP hS => ?_)
      obtain ⟨σ7, τ7⟩ := u7
      obtain ⟨hR, f7, fL7⟩ : P_X8_next σ τ σ7 τ7 := hp7
      have hP : va_P D vwCl (gw cA ad σ7 τ7) H7 := hP
      have hFL := hFL.step fL7 (by decide)
      have hF := hF.step f7 (by decide)
      refine lv_aload_n hx hb dX7_readCond_38 rfl (lv_at hl 0 rfl) ?_
      refine lv_iload_n hx hb dX7_readCond_39 rfl (lv_at hl 1 rfl) ?_
      refine r_cVi (k := 27) (As := [.int a1]) (rest := []) ⟨hx, hb, hml, hown, hts⟩ hK hP hN hS (c_X7_readAll_d4 l D cA ad hI σ7 τ7 hR a1 (by omega)) (cwV 1 hts gX7_readCond_X7_readAll rfl rfl rfl (by decide +kernel) ⟨by decide, by decide⟩) (rv_SText hK hP (by decide) (by decide)) rfl hl.1 rfl (Nat.le_of_ble_eq_true rfl) dX7_readCond_40 (Nat.zero_le _) (Nat.zero_le _) (fun r8 u8 H8 locs8 hp8 hP hS => ?_)
      obtain ⟨σ8, τ8⟩ := u8
      obtain ⟨hR, f8, fL8, hq8⟩ : P_X7_readAll_d4 σ7 τ7 a1 r8 σ8 τ8 := hp8
      have hP : va_P D vwCl (gw cA ad σ8 τ8) H8 := hP
      have hFL := hFL.step fL8 (by decide)
      have hF := hF.step f8 (by decide)
      refine r_if_eq (tgt := 60) hx hb dX7_readCond_43 (by decide) (fun c9 => ?_) (fun c9 => ?_)
      · refine r_iconst hx hb dX7_readCond_60 (by decide) (fun z10 ez10 => ?_)
        exact r_zret hx hb hr hK hP hS hk (by omega) dX7_readCond_61 (show P_X7_readCond_d4 σ0 τ0 a1 z10 σ8 τ8 from ⟨hR, hF, hFL, by omega⟩)
      · refine lv_aload_n hx hb dX7_readCond_46 rfl (lv_at hl 0 rfl) ?_
        refine fg_7_2 (k := 27) hx hb hts in_X7_readCond_7 hown hK hP (by decide) (by decide) (hts _ lk_X7_readCond_19) dX7_readCond_47 ?_
        refine r_bipush hx hb dX7_readCond_50 (by decide) (fun z11 ez11 => ?_)
        refine r_iconst hx hb dX7_readCond_52 (by decide) (fun z12 ez12 => ?_)
        refine r_iconst hx hb dX7_readCond_53 (by decide) (fun z13 ez13 => ?_)
        refine r_cVi (k := 24) (As := [.int z11, .int z12, .int z13]) (rest := []) ⟨hx, hb, hml, hown, hts⟩ hK hP hN hS (c_X6_add l D cA ad hI σ8 τ8 hR z11 z12 z13 (by omega)) (cwV 3 hts gX7_readCond_X6_add rfl rfl rfl (by decide +kernel) ⟨by decide, by decide⟩) (rv_Sent hK hP (by decide) (by decide)) rfl hl.1 rfl (Nat.le_of_ble_eq_true rfl) dX7_readCond_54 (Nat.zero_le _) (Nat.zero_le _) (fun r14 u14 H14 locs14 hp14 hP hS => ?_)
        obtain ⟨σ14, τ14⟩ := u14
        obtain ⟨hR, f14, fL14, hq14⟩ : P_X6_add σ8 τ8 z11 z12 z13 r14 σ14 τ14 := hp14
        have hP : va_P D vwCl (gw cA ad σ14 τ14) H14 := hP
        obtain rfl := FrL.nil fL14
        have hF := hF.step f14 (by decide)
        refine r_if_ne (tgt := 62) hx hb dX7_readCond_57 (by decide) (fun c15 => ?_) (fun c15 => ?_)
        · refine r_iinc (k := 2) (lv1 := fun z16 => [(2, .int z16), (0, .ref (ad 27)), (1, .int a1)]) hx hb dX7_readCond_62 hl rfl (by decide) (fun _ => rfl) (by decide) (by omega) (fun z16 ls ez16 hl => ?_)
          refine lv_goto (tgt := 12) hx hb dX7_readCond_65 (by decide) ?_
          exact K12 σ14 τ8 H14 locs14 z16 ls hR hF hFL hP hS (by omega) (lv_sub hl [1, 2, 0] rfl) (by omega)
        · refine r_iconst hx hb dX7_readCond_60 (by decide) (fun z17 ez17 => ?_)
          exact r_zret hx hb hr hK hP hS hk (by omega) dX7_readCond_61 (show P_X7_readCond_d4 σ0 τ0 a1 z17 σ14 τ8 from ⟨hR, hF, hFL, by omega⟩)
theorem A_X7_readCond_d4 (p : Program) (l : Launch) (e : Env) (s : State) (m : MethodId) (args : Array Value) (below : List Frame) (meth : Method) (c : Code) (D : va_G) (cA : Nat → ClassId) (ad : Nat → Nat) (σ0 : Nat → Nat → Int32) (τ0 : Nat → Nat → Int64) (a1 : Int32) (C : Cy p s m args meth c cX7_readCond 3 wsX7_readCond RX7 D cA ad (some .boolean)) (ha1 : 4 ≤ a1.toInt ∧ a1.toInt ≤ 4) : ∀ n : Nat, J_X7_readCond_d4_12 p l e s m args below meth c D cA ad σ0 τ0 a1 n := by
  intro n
  induction n with
  | zero =>
    exact (by intro σ τ H locs x2 ls hR hF hFL hP hS hc0 hl hm; exfalso; omega)
  | succ n ih =>
    exact B_X7_readCond_d4_12 p l e s m args below meth c D cA ad σ0 τ0 a1 n C ha1 ih
set_option maxHeartbeats 4000000 in
theorem c_X7_readCond_d4 (l : Launch) (D : va_G) (cA : Nat → ClassId) (ad : Nat → Nat) (hI : Inj ad) (σ0 : Nat → Nat → Int32) (τ0 : Nat → Nat → Int64) (hR : Rg σ0) (a1 : Int32) (ha1 : 4 ≤ a1.toInt ∧ a1.toInt ≤ 4) : Met l yX7_readCond wsX7_readCond ({ frames := 18, cells := 0, slots := 0, locals := 395 } : Room) (WQc D cA ad [.ref (ad 27), .int a1] σ0 τ0) (va_Qi (fun (r : Int32) (u : SS) => P_X7_readCond_d4 σ0 τ0 a1 r u.1 u.2) (WB D cA ad) (AA ad)) 0 0 (AA ad) := by
  refine Met.ofW (cc := cX7_readCond) (maxL := 3) (ret := (some .boolean)) (by decide) rfl ?_
  intro p e s m args below meth c s₁ B hml hv
  obtain ⟨rfl, hP, hK, hN⟩ := hv
  have C : Cy p s m _ meth c cX7_readCond 3 wsX7_readCond RX7 D cA ad (some .boolean) := ⟨B.exec, B.bytes, hml, findClass_of_methodNamed B.named, atoms_spec (ws := wsX7_readCond) B.pre, hK, B.notSynchronized, B.returns, hI, hN⟩
  have hl := lv_entry ([.ref (ad 27), .int a1]) (n := 3) (Nat.le_of_ble_eq_true rfl)
  rw [lg_entry_eq]
  generalize (lg_sl ([.ref (ad 27), .int a1]) ++ List.replicate (3 - (lg_sl ([.ref (ad 27), .int a1])).length) Slot.unset).toArray = ls at hl ⊢
  have hl : lv_has ls 3 [(0, .ref (ad 27)), (1, .int a1)] := hl
  have hS : va_S (AA ad) s.heap s.heap [] := va_S.rf
  have hF : Fr L_X7_readCond_d4 σ0 σ0 := Fr.rf
  have hFL : FrL LL_X7_readCond_d4 τ0 τ0 := FrL.rf
  have hA := A_X7_readCond_d4 p l e s m _ below meth c D cA ad σ0 τ0 a1 C ha1 810
  have K12 := hA
  clear hA
  obtain ⟨hx, hb, _, hown, hts, _, hk, hr, _, _⟩ := C
  refine lv_aload_n hx hb dX7_readCond_0 rfl (lv_at hl 0 rfl) ?_
  refine lv_iload_n hx hb dX7_readCond_1 rfl (lv_at hl 1 rfl) ?_
  refine r_cVi (k := 27) (As := [.int a1]) (rest := []) ⟨hx, hb, hml, hown, hts⟩ hK hP hN hS (c_X7_readAll_d4 l D cA ad hI σ0 τ0 hR a1 (by omega)) (cwV 1 hts gX7_readCond_X7_readAll rfl rfl rfl (by decide +kernel) ⟨by decide, by decide⟩) (rv_SText hK hP (by decide) (by decide)) rfl hl.1 rfl (Nat.le_of_ble_eq_true rfl) dX7_readCond_2 (Nat.zero_le _) (Nat.zero_le _) (fun r1 u1 H1 locs1 hp1 hP hS => ?_)
  obtain ⟨σ1, τ1⟩ := u1
  obtain ⟨hR, f1, fL1, hq1⟩ : P_X7_readAll_d4 σ0 τ0 a1 r1 σ1 τ1 := hp1
  have hP : va_P D vwCl (gw cA ad σ1 τ1) H1 := hP
  have hFL := hFL.step fL1 (by decide)
  have hF := hF.step f1 (by decide)
  refine r_if_ne (tgt := 10) hx hb dX7_readCond_5 (by decide) (fun c2 => ?_) (fun c2 => ?_)
  · refine r_iconst hx hb dX7_readCond_10 (by decide) (fun z3 ez3 => ?_)
    refine lv_istore_n (lv' := [(2, .int z3), (0, .ref (ad 27)), (1, .int a1)]) hx hb dX7_readCond_11 rfl hl (by decide) rfl (fun ls hl => ?_)
    exact K12 σ1 τ1 H1 locs1 z3 ls hR hF hFL hP hS (by omega) (lv_sub hl [1, 2, 0] rfl) (by omega)
  · refine r_iconst hx hb dX7_readCond_8 (by decide) (fun z4 ez4 => ?_)
    exact r_zret hx hb hr hK hP hS hk (by omega) dX7_readCond_9 (show P_X7_readCond_d4 σ0 τ0 a1 z4 σ1 τ1 from ⟨hR, hF, hFL, by omega⟩)
abbrev L_X7_readOne_d3 : List Rc := [(1, 1, 7, 10), (372, 372, 0, 39), (376, 376, 0, 39), (380, 380, 0, 39), (24, 24, 1, 2), (1, 1, 12, 14)]
abbrev LL_X7_readOne_d3 : List Rc := [(1, 1, 11, 11)]
def P_X7_readOne_d3 (σ0 : Nat → Nat → Int32) (τ0 : Nat → Nat → Int64) (a1 : Int32) (r : Int32) (σ : Nat → Nat → Int32) (τ : Nat → Nat → Int64) : Prop := Rg σ ∧ Fr L_X7_readOne_d3 σ0 σ ∧ FrL LL_X7_readOne_d3 τ0 τ ∧ (0 ≤ r.toInt ∧ r.toInt ≤ 1)
set_option maxHeartbeats 4000000 in
theorem c_X7_readOne_d3 (l : Launch) (D : va_G) (cA : Nat → ClassId) (ad : Nat → Nat) (hI : Inj ad) (σ0 : Nat → Nat → Int32) (τ0 : Nat → Nat → Int64) (hR : Rg σ0) (a1 : Int32) (ha1 : 3 ≤ a1.toInt ∧ a1.toInt ≤ 3) : Met l yX7_readOne wsX7_readOne ({ frames := 19, cells := 0, slots := 0, locals := 417 } : Room) (WQc D cA ad [.ref (ad 27), .int a1] σ0 τ0) (va_Qi (fun (r : Int32) (u : SS) => P_X7_readOne_d3 σ0 τ0 a1 r u.1 u.2) (WB D cA ad) (AA ad)) 0 0 (AA ad) := by
  refine Met.ofW (cc := cX7_readOne) (maxL := 3) (ret := (some .boolean)) (by decide) rfl ?_
  intro p e s m args below meth c s₁ B hml hv
  obtain ⟨rfl, hP, hK, hN⟩ := hv
  have C : Cy p s m _ meth c cX7_readOne 3 wsX7_readOne RX7 D cA ad (some .boolean) := ⟨B.exec, B.bytes, hml, findClass_of_methodNamed B.named, atoms_spec (ws := wsX7_readOne) B.pre, hK, B.notSynchronized, B.returns, hI, hN⟩
  have hl := lv_entry ([.ref (ad 27), .int a1]) (n := 3) (Nat.le_of_ble_eq_true rfl)
  rw [lg_entry_eq]
  generalize (lg_sl ([.ref (ad 27), .int a1]) ++ List.replicate (3 - (lg_sl ([.ref (ad 27), .int a1])).length) Slot.unset).toArray = ls at hl ⊢
  have hl : lv_has ls 3 [(0, .ref (ad 27)), (1, .int a1)] := hl
  have hS : va_S (AA ad) s.heap s.heap [] := va_S.rf
  have hF : Fr L_X7_readOne_d3 σ0 σ0 := Fr.rf
  have hFL : FrL LL_X7_readOne_d3 τ0 τ0 := FrL.rf
  obtain ⟨hx, hb, _, hown, hts, _, hk, hr, _, _⟩ := C
  refine lv_aload_n hx hb dX7_readOne_0 rfl (lv_at hl 0 rfl) ?_
  refine fg_7_0 (k := 27) hx hb hts in_X7_readOne_7 hown hK hP (by decide) (by decide) (hts _ lk_X7_readOne_9) dX7_readOne_1 ?_
  refine fgN_8_9 (k := 1) hx hb hts in_X7_readOne_8 hown hK hP (by decide) (by decide) (hN.use nw_7_32) dX7_readOne_4 ?_
  refine lv_istore_n (lv' := [(2, .int (σ0 1 9)), (0, .ref (ad 27)), (1, .int a1)]) hx hb dX7_readOne_7 rfl hl (by decide) rfl (fun ls hl => ?_)
  refine lv_iload_n hx hb dX7_readOne_8 rfl (lv_at hl 0 rfl) ?_
  refine r_cSi (As := [.int (σ0 1 9)]) (rest := []) ⟨hx, hb, hml, hown, hts⟩ hK hP hN hS (c_X7_beginsOne l D cA ad hI σ0 τ0 hR (σ0 1 9)) (va_cwS 1 hts gX7_readOne_X7_beginsOne rfl rfl rfl (by decide +kernel) ⟨by decide, by decide⟩) rfl hl.1 rfl (Nat.le_of_ble_eq_true rfl) dX7_readOne_9 (Nat.zero_le _) (Nat.zero_le _) (fun r1 u1 H1 locs1 hp1 hP hS => ?_)
  obtain ⟨σ1, τ1⟩ := u1
  obtain ⟨hR, f1, fL1, hq1⟩ : P_X7_beginsOne σ0 τ0 (σ0 1 9) r1 σ1 τ1 := hp1
  have hP : va_P D vwCl (gw cA ad σ1 τ1) H1 := hP
  obtain rfl := FrL.nil fL1
  obtain rfl := Fr.nil f1
  refine r_if_ne (tgt := 24) hx hb dX7_readOne_12 (by decide) (fun c2 => ?_) (fun c2 => ?_)
  · refine lv_aload_n hx hb dX7_readOne_24 rfl (lv_at hl 1 rfl) ?_
    refine fg_7_2 (k := 27) hx hb hts in_X7_readOne_7 hown hK hP (by decide) (by decide) (hts _ lk_X7_readOne_19) dX7_readOne_25 ?_
    refine fgN_6_1 (k := 24) hx hb hts in_X7_readOne_6 hown hK hP (by decide) (by decide) (hN.use nw_7_61) dX7_readOne_28 ?_
    have hr3 := rg_6_1 hR (k := 24) (by decide) (by decide)
    refine r_bipush hx hb dX7_readOne_31 (by decide) (fun z4 ez4 => ?_)
    refine r_icmp_ge (tgt := 42) hx hb dX7_readOne_33 (by decide) (fun c5 => ?_) (fun c5 => ?_)
    · refine lv_aload_n hx hb dX7_readOne_42 rfl (lv_at hl 1 rfl) ?_
      refine fg_7_0 (k := 27) hx hb hts in_X7_readOne_7 hown hK hP (by decide) (by decide) (hts _ lk_X7_readOne_9) dX7_readOne_43 ?_
      refine r_iconst hx hb dX7_readOne_46 (by decide) (fun z6 ez6 => ?_)
      refine r_cVi (k := 1) (As := [.int z6]) (rest := []) ⟨hx, hb, hml, hown, hts⟩ hK hP hN hS (c_X8_blame l D cA ad hI σ0 τ0 hR z6 (by omega)) (cwV 1 hts gX7_readOne_X8_blame rfl rfl rfl (by decide +kernel) ⟨by decide, by decide⟩) (rv_Tape hK hP (by decide) (by decide)) rfl hl.1 rfl (Nat.le_of_ble_eq_true rfl) dX7_readOne_47 (Nat.zero_le _) (Nat.zero_le _) (fun r7 u7 H7 locs7 hp7 hP hS => ?_)
      obtain ⟨σ7, τ7⟩ := u7
      obtain ⟨hR, f7, fL7, hq7⟩ : P_X8_blame σ0 τ0 z6 r7 σ7 τ7 := hp7
      have hP : va_P D vwCl (gw cA ad σ7 τ7) H7 := hP
      obtain rfl := FrL.nil fL7
      have hF := hF.step f7 (by decide)
      have t8 : (σ7 24 1).toInt = (σ0 24 1).toInt := congrArg Int32.toInt (f7.at 24 1 (by decide))
      exact r_zret hx hb hr hK hP hS hk (by omega) dX7_readOne_50 (show P_X7_readOne_d3 σ0 τ0 a1 r7 σ7 τ0 from ⟨hR, hF, hFL, by omega⟩)
    · refine lv_iload_n hx hb dX7_readOne_36 rfl (lv_at hl 2 rfl) ?_
      refine r_bipush hx hb dX7_readOne_37 (by decide) (fun z9 ez9 => ?_)
      refine r_icmp_le (tgt := 51) hx hb dX7_readOne_39 (by decide) (fun c10 => ?_) (fun c10 => ?_)
      · refine lv_aload_n hx hb dX7_readOne_51 rfl (lv_at hl 1 rfl) ?_
        refine fg_7_2 (k := 27) hx hb hts in_X7_readOne_7 hown hK hP (by decide) (by decide) (hts _ lk_X7_readOne_19) dX7_readOne_52 ?_
        refine lv_dup hx hb dX7_readOne_55 rfl ?_
        refine fgN_6_1 (k := 24) hx hb hts in_X7_readOne_6 hown hK hP (by decide) (by decide) (hN.use nw_7_61) dX7_readOne_56 ?_
        refine r_iconst hx hb dX7_readOne_59 (by decide) (fun z11 ez11 => ?_)
        refine r_iadd hx hb dX7_readOne_60 (by omega) (fun z12 ez12 => ?_)
        refine fpN_6_1 (k := 24) hx hb hts in_X7_readOne_6 hown hK hP (by decide) (by decide) (hN.use nw_7_61) hI hR hS (by omega) dX7_readOne_61 (fun σ13 H13 locs13 u13 v13 hR hP hS => ?_)
        have hF := hF.puts u13 4 rfl (by decide) (by decide) (by decide) (by decide)
        refine lv_aload_n hx hb dX7_readOne_64 rfl (lv_at hl 1 rfl) ?_
        refine fg_7_0 (k := 27) hx hb hts in_X7_readOne_7 hown hK hP (by decide) (by decide) (hts _ lk_X7_readOne_9) dX7_readOne_65 ?_
        refine r_cVv (k := 1) (As := []) (rest := []) ⟨hx, hb, hml, hown, hts⟩ hK hP hN hS (c_X8_next l D cA ad hI σ13 τ0 hR) (cwV 0 hts gX7_readOne_X8_next rfl rfl rfl (by decide +kernel) ⟨by decide, by decide⟩) (rv_Tape hK hP (by decide) (by decide)) rfl hl.1 rfl (Nat.le_of_ble_eq_true rfl) dX7_readOne_68 (Nat.zero_le _) (Nat.zero_le _) (fun u14 H14 locs14 hp14 hP hS => ?_)
        obtain ⟨σ14, τ14⟩ := u14
        obtain ⟨hR, f14, fL14⟩ : P_X8_next σ13 τ0 σ14 τ14 := hp14
        have hP : va_P D vwCl (gw cA ad σ14 τ14) H14 := hP
        have hFL := hFL.step fL14 (by decide)
        have hF := hF.step f14 (by decide)
        have t15 : (σ14 24 1).toInt = (σ13 24 1).toInt := congrArg Int32.toInt (f14.at 24 1 (by decide))
        refine lv_iload_n hx hb dX7_readOne_71 rfl (lv_at hl 0 rfl) ?_
        by_cases c16 : (σ0 1 9).toInt = 22
        · refine lv_tableIn (off := 108) (tgt := 180) hx hb dX7_readOne_72 (by omega) (by omega) (by rw [c16]; rfl) (by decide) ?_
          refine lv_aload_n hx hb dX7_readOne_180 rfl (lv_at hl 1 rfl) ?_
          refine lv_iload_n hx hb dX7_readOne_181 rfl (lv_at hl 2 rfl) ?_
          refine r_iconst hx hb dX7_readOne_182 (by decide) (fun z17 ez17 => ?_)
          refine r_iadd hx hb dX7_readOne_183 (by omega) (fun z18 ez18 => ?_)
          refine r_cVi (k := 27) (As := [.int z18]) (rest := []) ⟨hx, hb, hml, hown, hts⟩ hK hP hN hS (c_X7_readOne_d4 l D cA ad hI σ14 τ14 hR z18 (by omega)) (cwV 1 hts gX7_readOne_X7_readOne rfl rfl rfl (by decide +kernel) ⟨by decide, by decide⟩) (rv_SText hK hP (by decide) (by decide)) rfl hl.1 rfl (Nat.le_of_ble_eq_true rfl) dX7_readOne_184 (Nat.zero_le _) (Nat.zero_le _) (fun r19 u19 H19 locs19 hp19 hP hS => ?_)
          obtain ⟨σ19, τ19⟩ := u19
          obtain ⟨hR, f19, fL19, hq19⟩ : P_X7_readOne_d4 σ14 τ14 z18 r19 σ19 τ19 := hp19
          have hP : va_P D vwCl (gw cA ad σ19 τ19) H19 := hP
          have hFL := hFL.step fL19 (by decide)
          have hF := hF.step f19 (by decide)
          refine r_if_eq (tgt := 208) hx hb dX7_readOne_187 (by decide) (fun c20 => ?_) (fun c20 => ?_)
          · refine r_iconst hx hb dX7_readOne_208 (by decide) (fun z21 ez21 => ?_)
            exact r_zret hx hb hr hK hP hS hk (by omega) dX7_readOne_209 (show P_X7_readOne_d3 σ0 τ0 a1 z21 σ19 τ19 from ⟨hR, hF, hFL, by omega⟩)
          · refine lv_aload_n hx hb dX7_readOne_190 rfl (lv_at hl 1 rfl) ?_
            refine fg_7_2 (k := 27) hx hb hts in_X7_readOne_7 hown hK hP (by decide) (by decide) (hts _ lk_X7_readOne_19) dX7_readOne_191 ?_
            refine r_bipush hx hb dX7_readOne_194 (by decide) (fun z22 ez22 => ?_)
            refine r_iconst hx hb dX7_readOne_196 (by decide) (fun z23 ez23 => ?_)
            refine r_iconst hx hb dX7_readOne_197 (by decide) (fun z24 ez24 => ?_)
            refine r_cVi (k := 24) (As := [.int z22, .int z23, .int z24]) (rest := []) ⟨hx, hb, hml, hown, hts⟩ hK hP hN hS (c_X6_add l D cA ad hI σ19 τ19 hR z22 z23 z24 (by omega)) (cwV 3 hts gX7_readOne_X6_add rfl rfl rfl (by decide +kernel) ⟨by decide, by decide⟩) (rv_Sent hK hP (by decide) (by decide)) rfl hl.1 rfl (Nat.le_of_ble_eq_true rfl) dX7_readOne_198 (Nat.zero_le _) (Nat.zero_le _) (fun r25 u25 H25 locs25 hp25 hP hS => ?_)
            obtain ⟨σ25, τ25⟩ := u25
            obtain ⟨hR, f25, fL25, hq25⟩ : P_X6_add σ19 τ19 z22 z23 z24 r25 σ25 τ25 := hp25
            have hP : va_P D vwCl (gw cA ad σ25 τ25) H25 := hP
            obtain rfl := FrL.nil fL25
            have hF := hF.step f25 (by decide)
            refine r_if_eq (tgt := 208) hx hb dX7_readOne_201 (by decide) (fun c26 => ?_) (fun c26 => ?_)
            · refine r_iconst hx hb dX7_readOne_208 (by decide) (fun z27 ez27 => ?_)
              exact r_zret hx hb hr hK hP hS hk (by omega) dX7_readOne_209 (show P_X7_readOne_d3 σ0 τ0 a1 z27 σ25 τ19 from ⟨hR, hF, hFL, by omega⟩)
            · refine r_iconst hx hb dX7_readOne_204 (by decide) (fun z28 ez28 => ?_)
              refine lv_goto (tgt := 209) hx hb dX7_readOne_205 (by decide) ?_
              exact r_zret hx hb hr hK hP hS hk (by omega) dX7_readOne_209 (show P_X7_readOne_d3 σ0 τ0 a1 z28 σ25 τ19 from ⟨hR, hF, hFL, by omega⟩)
        by_cases c29 : (σ0 1 9).toInt = 23
        · refine lv_tableIn (off := 177) (tgt := 249) hx hb dX7_readOne_72 (by omega) (by omega) (by rw [c29]; rfl) (by decide) ?_
          refine lv_aload_n hx hb dX7_readOne_249 rfl (lv_at hl 1 rfl) ?_
          refine fg_7_2 (k := 27) hx hb hts in_X7_readOne_7 hown hK hP (by decide) (by decide) (hts _ lk_X7_readOne_19) dX7_readOne_250 ?_
          refine lv_iload_n hx hb dX7_readOne_253 rfl (lv_at hl 0 rfl) ?_
          refine r_bipush hx hb dX7_readOne_254 (by decide) (fun z30 ez30 => ?_)
          refine r_iconst hx hb dX7_readOne_256 (by decide) (fun z31 ez31 => ?_)
          refine r_cVi (k := 24) (As := [.int (σ0 1 9), .int z30, .int z31]) (rest := []) ⟨hx, hb, hml, hown, hts⟩ hK hP hN hS (c_X6_add l D cA ad hI σ14 τ14 hR (σ0 1 9) z30 z31 (by omega)) (cwV 3 hts gX7_readOne_X6_add rfl rfl rfl (by decide +kernel) ⟨by decide, by decide⟩) (rv_Sent hK hP (by decide) (by decide)) rfl hl.1 rfl (Nat.le_of_ble_eq_true rfl) dX7_readOne_257 (Nat.zero_le _) (Nat.zero_le _) (fun r32 u32 H32 locs32 hp32 hP hS => ?_)
          obtain ⟨σ32, τ32⟩ := u32
          obtain ⟨hR, f32, fL32, hq32⟩ : P_X6_add σ14 τ14 (σ0 1 9) z30 z31 r32 σ32 τ32 := hp32
          have hP : va_P D vwCl (gw cA ad σ32 τ32) H32 := hP
          obtain rfl := FrL.nil fL32
          have hF := hF.step f32 (by decide)
          have t33 : (σ32 24 1).toInt = (σ14 24 1).toInt := congrArg Int32.toInt (f32.at 24 1 (by decide))
          exact r_zret hx hb hr hK hP hS hk (by omega) dX7_readOne_260 (show P_X7_readOne_d3 σ0 τ0 a1 r32 σ32 τ14 from ⟨hR, hF, hFL, by omega⟩)
        by_cases c34 : (σ0 1 9).toInt = 24
        · refine lv_tableIn (off := 177) (tgt := 249) hx hb dX7_readOne_72 (by omega) (by omega) (by rw [c34]; rfl) (by decide) ?_
          refine lv_aload_n hx hb dX7_readOne_249 rfl (lv_at hl 1 rfl) ?_
          refine fg_7_2 (k := 27) hx hb hts in_X7_readOne_7 hown hK hP (by decide) (by decide) (hts _ lk_X7_readOne_19) dX7_readOne_250 ?_
          refine lv_iload_n hx hb dX7_readOne_253 rfl (lv_at hl 0 rfl) ?_
          refine r_bipush hx hb dX7_readOne_254 (by decide) (fun z35 ez35 => ?_)
          refine r_iconst hx hb dX7_readOne_256 (by decide) (fun z36 ez36 => ?_)
          refine r_cVi (k := 24) (As := [.int (σ0 1 9), .int z35, .int z36]) (rest := []) ⟨hx, hb, hml, hown, hts⟩ hK hP hN hS (c_X6_add l D cA ad hI σ14 τ14 hR (σ0 1 9) z35 z36 (by omega)) (cwV 3 hts gX7_readOne_X6_add rfl rfl rfl (by decide +kernel) ⟨by decide, by decide⟩) (rv_Sent hK hP (by decide) (by decide)) rfl hl.1 rfl (Nat.le_of_ble_eq_true rfl) dX7_readOne_257 (Nat.zero_le _) (Nat.zero_le _) (fun r37 u37 H37 locs37 hp37 hP hS => ?_)
          obtain ⟨σ37, τ37⟩ := u37
          obtain ⟨hR, f37, fL37, hq37⟩ : P_X6_add σ14 τ14 (σ0 1 9) z35 z36 r37 σ37 τ37 := hp37
          have hP : va_P D vwCl (gw cA ad σ37 τ37) H37 := hP
          obtain rfl := FrL.nil fL37
          have hF := hF.step f37 (by decide)
          have t38 : (σ37 24 1).toInt = (σ14 24 1).toInt := congrArg Int32.toInt (f37.at 24 1 (by decide))
          exact r_zret hx hb hr hK hP hS hk (by omega) dX7_readOne_260 (show P_X7_readOne_d3 σ0 τ0 a1 r37 σ37 τ14 from ⟨hR, hF, hFL, by omega⟩)
        by_cases c39 : (σ0 1 9).toInt = 25
        · refine lv_tableIn (off := 166) (tgt := 238) hx hb dX7_readOne_72 (by omega) (by omega) (by rw [c39]; rfl) (by decide) ?_
          refine lv_aload_n hx hb dX7_readOne_238 rfl (lv_at hl 1 rfl) ?_
          refine r_cVi (k := 27) (As := []) (rest := []) ⟨hx, hb, hml, hown, hts⟩ hK hP hN hS (c_X7_readOn l D cA ad hI σ14 τ14 hR) (cwV 0 hts gX7_readOne_X7_readOn rfl rfl rfl (by decide +kernel) ⟨by decide, by decide⟩) (rv_SText hK hP (by decide) (by decide)) rfl hl.1 rfl (Nat.le_of_ble_eq_true rfl) dX7_readOne_239 (Nat.zero_le _) (Nat.zero_le _) (fun r40 u40 H40 locs40 hp40 hP hS => ?_)
          obtain ⟨σ40, τ40⟩ := u40
          obtain ⟨hR, f40, fL40, hq40⟩ : P_X7_readOn σ14 τ14 r40 σ40 τ40 := hp40
          have hP : va_P D vwCl (gw cA ad σ40 τ40) H40 := hP
          have hFL := hFL.step fL40 (by decide)
          have hF := hF.step f40 (by decide)
          have t41 : (σ40 24 1).toInt = (σ14 24 1).toInt := congrArg Int32.toInt (f40.at 24 1 (by decide))
          exact r_zret hx hb hr hK hP hS hk (by omega) dX7_readOne_242 (show P_X7_readOne_d3 σ0 τ0 a1 r40 σ40 τ40 from ⟨hR, hF, hFL, by omega⟩)
        by_cases c42 : (σ0 1 9).toInt = 26
        · refine lv_tableIn (off := 177) (tgt := 249) hx hb dX7_readOne_72 (by omega) (by omega) (by rw [c42]; rfl) (by decide) ?_
          refine lv_aload_n hx hb dX7_readOne_249 rfl (lv_at hl 1 rfl) ?_
          refine fg_7_2 (k := 27) hx hb hts in_X7_readOne_7 hown hK hP (by decide) (by decide) (hts _ lk_X7_readOne_19) dX7_readOne_250 ?_
          refine lv_iload_n hx hb dX7_readOne_253 rfl (lv_at hl 0 rfl) ?_
          refine r_bipush hx hb dX7_readOne_254 (by decide) (fun z43 ez43 => ?_)
          refine r_iconst hx hb dX7_readOne_256 (by decide) (fun z44 ez44 => ?_)
          refine r_cVi (k := 24) (As := [.int (σ0 1 9), .int z43, .int z44]) (rest := []) ⟨hx, hb, hml, hown, hts⟩ hK hP hN hS (c_X6_add l D cA ad hI σ14 τ14 hR (σ0 1 9) z43 z44 (by omega)) (cwV 3 hts gX7_readOne_X6_add rfl rfl rfl (by decide +kernel) ⟨by decide, by decide⟩) (rv_Sent hK hP (by decide) (by decide)) rfl hl.1 rfl (Nat.le_of_ble_eq_true rfl) dX7_readOne_257 (Nat.zero_le _) (Nat.zero_le _) (fun r45 u45 H45 locs45 hp45 hP hS => ?_)
          obtain ⟨σ45, τ45⟩ := u45
          obtain ⟨hR, f45, fL45, hq45⟩ : P_X6_add σ14 τ14 (σ0 1 9) z43 z44 r45 σ45 τ45 := hp45
          have hP : va_P D vwCl (gw cA ad σ45 τ45) H45 := hP
          obtain rfl := FrL.nil fL45
          have hF := hF.step f45 (by decide)
          have t46 : (σ45 24 1).toInt = (σ14 24 1).toInt := congrArg Int32.toInt (f45.at 24 1 (by decide))
          exact r_zret hx hb hr hK hP hS hk (by omega) dX7_readOne_260 (show P_X7_readOne_d3 σ0 τ0 a1 r45 σ45 τ14 from ⟨hR, hF, hFL, by omega⟩)
        by_cases c47 : (σ0 1 9).toInt = 27
        · refine lv_tableIn (off := 171) (tgt := 243) hx hb dX7_readOne_72 (by omega) (by omega) (by rw [c47]; rfl) (by decide) ?_
          refine lv_aload_n hx hb dX7_readOne_243 rfl (lv_at hl 1 rfl) ?_
          refine lv_iload_n hx hb dX7_readOne_244 rfl (lv_at hl 0 rfl) ?_
          refine r_cVi (k := 27) (As := [.int (σ0 1 9)]) (rest := []) ⟨hx, hb, hml, hown, hts⟩ hK hP hN hS (c_X7_readMeasure l D cA ad hI σ14 τ14 hR (σ0 1 9) (by omega)) (cwV 1 hts gX7_readOne_X7_readMeasure rfl rfl rfl (by decide +kernel) ⟨by decide, by decide⟩) (rv_SText hK hP (by decide) (by decide)) rfl hl.1 rfl (Nat.le_of_ble_eq_true rfl) dX7_readOne_245 (Nat.zero_le _) (Nat.zero_le _) (fun r48 u48 H48 locs48 hp48 hP hS => ?_)
          obtain ⟨σ48, τ48⟩ := u48
          obtain ⟨hR, f48, fL48, hq48⟩ : P_X7_readMeasure σ14 τ14 (σ0 1 9) r48 σ48 τ48 := hp48
          have hP : va_P D vwCl (gw cA ad σ48 τ48) H48 := hP
          have hFL := hFL.step fL48 (by decide)
          have hF := hF.step f48 (by decide)
          have t49 : (σ48 24 1).toInt = (σ14 24 1).toInt := congrArg Int32.toInt (f48.at 24 1 (by decide))
          exact r_zret hx hb hr hK hP hS hk (by omega) dX7_readOne_248 (show P_X7_readOne_d3 σ0 τ0 a1 r48 σ48 τ48 from ⟨hR, hF, hFL, by omega⟩)
        by_cases c50 : (σ0 1 9).toInt = 28
        · refine lv_tableIn (off := 171) (tgt := 243) hx hb dX7_readOne_72 (by omega) (by omega) (by rw [c50]; rfl) (by decide) ?_
          refine lv_aload_n hx hb dX7_readOne_243 rfl (lv_at hl 1 rfl) ?_
          refine lv_iload_n hx hb dX7_readOne_244 rfl (lv_at hl 0 rfl) ?_
          refine r_cVi (k := 27) (As := [.int (σ0 1 9)]) (rest := []) ⟨hx, hb, hml, hown, hts⟩ hK hP hN hS (c_X7_readMeasure l D cA ad hI σ14 τ14 hR (σ0 1 9) (by omega)) (cwV 1 hts gX7_readOne_X7_readMeasure rfl rfl rfl (by decide +kernel) ⟨by decide, by decide⟩) (rv_SText hK hP (by decide) (by decide)) rfl hl.1 rfl (Nat.le_of_ble_eq_true rfl) dX7_readOne_245 (Nat.zero_le _) (Nat.zero_le _) (fun r51 u51 H51 locs51 hp51 hP hS => ?_)
          obtain ⟨σ51, τ51⟩ := u51
          obtain ⟨hR, f51, fL51, hq51⟩ : P_X7_readMeasure σ14 τ14 (σ0 1 9) r51 σ51 τ51 := hp51
          have hP : va_P D vwCl (gw cA ad σ51 τ51) H51 := hP
          have hFL := hFL.step fL51 (by decide)
          have hF := hF.step f51 (by decide)
          have t52 : (σ51 24 1).toInt = (σ14 24 1).toInt := congrArg Int32.toInt (f51.at 24 1 (by decide))
          exact r_zret hx hb hr hK hP hS hk (by omega) dX7_readOne_248 (show P_X7_readOne_d3 σ0 τ0 a1 r51 σ51 τ51 from ⟨hR, hF, hFL, by omega⟩)
        by_cases c53 : (σ0 1 9).toInt = 29
        · refine lv_tableIn (off := 171) (tgt := 243) hx hb dX7_readOne_72 (by omega) (by omega) (by rw [c53]; rfl) (by decide) ?_
          refine lv_aload_n hx hb dX7_readOne_243 rfl (lv_at hl 1 rfl) ?_
          refine lv_iload_n hx hb dX7_readOne_244 rfl (lv_at hl 0 rfl) ?_
          refine r_cVi (k := 27) (As := [.int (σ0 1 9)]) (rest := []) ⟨hx, hb, hml, hown, hts⟩ hK hP hN hS (c_X7_readMeasure l D cA ad hI σ14 τ14 hR (σ0 1 9) (by omega)) (cwV 1 hts gX7_readOne_X7_readMeasure rfl rfl rfl (by decide +kernel) ⟨by decide, by decide⟩) (rv_SText hK hP (by decide) (by decide)) rfl hl.1 rfl (Nat.le_of_ble_eq_true rfl) dX7_readOne_245 (Nat.zero_le _) (Nat.zero_le _) (fun r54 u54 H54 locs54 hp54 hP hS => ?_)
          obtain ⟨σ54, τ54⟩ := u54
          obtain ⟨hR, f54, fL54, hq54⟩ : P_X7_readMeasure σ14 τ14 (σ0 1 9) r54 σ54 τ54 := hp54
          have hP : va_P D vwCl (gw cA ad σ54 τ54) H54 := hP
          have hFL := hFL.step fL54 (by decide)
          have hF := hF.step f54 (by decide)
          have t55 : (σ54 24 1).toInt = (σ14 24 1).toInt := congrArg Int32.toInt (f54.at 24 1 (by decide))
          exact r_zret hx hb hr hK hP hS hk (by omega) dX7_readOne_248 (show P_X7_readOne_d3 σ0 τ0 a1 r54 σ54 τ54 from ⟨hR, hF, hFL, by omega⟩)
        by_cases c56 : (σ0 1 9).toInt = 30
        · refine lv_tableIn (off := 171) (tgt := 243) hx hb dX7_readOne_72 (by omega) (by omega) (by rw [c56]; rfl) (by decide) ?_
          refine lv_aload_n hx hb dX7_readOne_243 rfl (lv_at hl 1 rfl) ?_
          refine lv_iload_n hx hb dX7_readOne_244 rfl (lv_at hl 0 rfl) ?_
          refine r_cVi (k := 27) (As := [.int (σ0 1 9)]) (rest := []) ⟨hx, hb, hml, hown, hts⟩ hK hP hN hS (c_X7_readMeasure l D cA ad hI σ14 τ14 hR (σ0 1 9) (by omega)) (cwV 1 hts gX7_readOne_X7_readMeasure rfl rfl rfl (by decide +kernel) ⟨by decide, by decide⟩) (rv_SText hK hP (by decide) (by decide)) rfl hl.1 rfl (Nat.le_of_ble_eq_true rfl) dX7_readOne_245 (Nat.zero_le _) (Nat.zero_le _) (fun r57 u57 H57 locs57 hp57 hP hS => ?_)
          obtain ⟨σ57, τ57⟩ := u57
          obtain ⟨hR, f57, fL57, hq57⟩ : P_X7_readMeasure σ14 τ14 (σ0 1 9) r57 σ57 τ57 := hp57
          have hP : va_P D vwCl (gw cA ad σ57 τ57) H57 := hP
          have hFL := hFL.step fL57 (by decide)
          have hF := hF.step f57 (by decide)
          have t58 : (σ57 24 1).toInt = (σ14 24 1).toInt := congrArg Int32.toInt (f57.at 24 1 (by decide))
          exact r_zret hx hb hr hK hP hS hk (by omega) dX7_readOne_248 (show P_X7_readOne_d3 σ0 τ0 a1 r57 σ57 τ57 from ⟨hR, hF, hFL, by omega⟩)
        by_cases c59 : (σ0 1 9).toInt = 31
        · refine lv_tableIn (off := 177) (tgt := 249) hx hb dX7_readOne_72 (by omega) (by omega) (by rw [c59]; rfl) (by decide) ?_
          refine lv_aload_n hx hb dX7_readOne_249 rfl (lv_at hl 1 rfl) ?_
          refine fg_7_2 (k := 27) hx hb hts in_X7_readOne_7 hown hK hP (by decide) (by decide) (hts _ lk_X7_readOne_19) dX7_readOne_250 ?_
          refine lv_iload_n hx hb dX7_readOne_253 rfl (lv_at hl 0 rfl) ?_
          refine r_bipush hx hb dX7_readOne_254 (by decide) (fun z60 ez60 => ?_)
          refine r_iconst hx hb dX7_readOne_256 (by decide) (fun z61 ez61 => ?_)
          refine r_cVi (k := 24) (As := [.int (σ0 1 9), .int z60, .int z61]) (rest := []) ⟨hx, hb, hml, hown, hts⟩ hK hP hN hS (c_X6_add l D cA ad hI σ14 τ14 hR (σ0 1 9) z60 z61 (by omega)) (cwV 3 hts gX7_readOne_X6_add rfl rfl rfl (by decide +kernel) ⟨by decide, by decide⟩) (rv_Sent hK hP (by decide) (by decide)) rfl hl.1 rfl (Nat.le_of_ble_eq_true rfl) dX7_readOne_257 (Nat.zero_le _) (Nat.zero_le _) (fun r62 u62 H62 locs62 hp62 hP hS => ?_)
          obtain ⟨σ62, τ62⟩ := u62
          obtain ⟨hR, f62, fL62, hq62⟩ : P_X6_add σ14 τ14 (σ0 1 9) z60 z61 r62 σ62 τ62 := hp62
          have hP : va_P D vwCl (gw cA ad σ62 τ62) H62 := hP
          obtain rfl := FrL.nil fL62
          have hF := hF.step f62 (by decide)
          have t63 : (σ62 24 1).toInt = (σ14 24 1).toInt := congrArg Int32.toInt (f62.at 24 1 (by decide))
          exact r_zret hx hb hr hK hP hS hk (by omega) dX7_readOne_260 (show P_X7_readOne_d3 σ0 τ0 a1 r62 σ62 τ14 from ⟨hR, hF, hFL, by omega⟩)
        by_cases c64 : (σ0 1 9).toInt = 32
        · refine lv_tableIn (off := 177) (tgt := 249) hx hb dX7_readOne_72 (by omega) (by omega) (by rw [c64]; rfl) (by decide) ?_
          refine lv_aload_n hx hb dX7_readOne_249 rfl (lv_at hl 1 rfl) ?_
          refine fg_7_2 (k := 27) hx hb hts in_X7_readOne_7 hown hK hP (by decide) (by decide) (hts _ lk_X7_readOne_19) dX7_readOne_250 ?_
          refine lv_iload_n hx hb dX7_readOne_253 rfl (lv_at hl 0 rfl) ?_
          refine r_bipush hx hb dX7_readOne_254 (by decide) (fun z65 ez65 => ?_)
          refine r_iconst hx hb dX7_readOne_256 (by decide) (fun z66 ez66 => ?_)
          refine r_cVi (k := 24) (As := [.int (σ0 1 9), .int z65, .int z66]) (rest := []) ⟨hx, hb, hml, hown, hts⟩ hK hP hN hS (c_X6_add l D cA ad hI σ14 τ14 hR (σ0 1 9) z65 z66 (by omega)) (cwV 3 hts gX7_readOne_X6_add rfl rfl rfl (by decide +kernel) ⟨by decide, by decide⟩) (rv_Sent hK hP (by decide) (by decide)) rfl hl.1 rfl (Nat.le_of_ble_eq_true rfl) dX7_readOne_257 (Nat.zero_le _) (Nat.zero_le _) (fun r67 u67 H67 locs67 hp67 hP hS => ?_)
          obtain ⟨σ67, τ67⟩ := u67
          obtain ⟨hR, f67, fL67, hq67⟩ : P_X6_add σ14 τ14 (σ0 1 9) z65 z66 r67 σ67 τ67 := hp67
          have hP : va_P D vwCl (gw cA ad σ67 τ67) H67 := hP
          obtain rfl := FrL.nil fL67
          have hF := hF.step f67 (by decide)
          have t68 : (σ67 24 1).toInt = (σ14 24 1).toInt := congrArg Int32.toInt (f67.at 24 1 (by decide))
          exact r_zret hx hb hr hK hP hS hk (by omega) dX7_readOne_260 (show P_X7_readOne_d3 σ0 τ0 a1 r67 σ67 τ14 from ⟨hR, hF, hFL, by omega⟩)
        by_cases c69 : (σ0 1 9).toInt = 33
        · refine lv_tableIn (off := 177) (tgt := 249) hx hb dX7_readOne_72 (by omega) (by omega) (by rw [c69]; rfl) (by decide) ?_
          refine lv_aload_n hx hb dX7_readOne_249 rfl (lv_at hl 1 rfl) ?_
          refine fg_7_2 (k := 27) hx hb hts in_X7_readOne_7 hown hK hP (by decide) (by decide) (hts _ lk_X7_readOne_19) dX7_readOne_250 ?_
          refine lv_iload_n hx hb dX7_readOne_253 rfl (lv_at hl 0 rfl) ?_
          refine r_bipush hx hb dX7_readOne_254 (by decide) (fun z70 ez70 => ?_)
          refine r_iconst hx hb dX7_readOne_256 (by decide) (fun z71 ez71 => ?_)
          refine r_cVi (k := 24) (As := [.int (σ0 1 9), .int z70, .int z71]) (rest := []) ⟨hx, hb, hml, hown, hts⟩ hK hP hN hS (c_X6_add l D cA ad hI σ14 τ14 hR (σ0 1 9) z70 z71 (by omega)) (cwV 3 hts gX7_readOne_X6_add rfl rfl rfl (by decide +kernel) ⟨by decide, by decide⟩) (rv_Sent hK hP (by decide) (by decide)) rfl hl.1 rfl (Nat.le_of_ble_eq_true rfl) dX7_readOne_257 (Nat.zero_le _) (Nat.zero_le _) (fun r72 u72 H72 locs72 hp72 hP hS => ?_)
          obtain ⟨σ72, τ72⟩ := u72
          obtain ⟨hR, f72, fL72, hq72⟩ : P_X6_add σ14 τ14 (σ0 1 9) z70 z71 r72 σ72 τ72 := hp72
          have hP : va_P D vwCl (gw cA ad σ72 τ72) H72 := hP
          obtain rfl := FrL.nil fL72
          have hF := hF.step f72 (by decide)
          have t73 : (σ72 24 1).toInt = (σ14 24 1).toInt := congrArg Int32.toInt (f72.at 24 1 (by decide))
          exact r_zret hx hb hr hK hP hS hk (by omega) dX7_readOne_260 (show P_X7_readOne_d3 σ0 τ0 a1 r72 σ72 τ14 from ⟨hR, hF, hFL, by omega⟩)
        by_cases c74 : (σ0 1 9).toInt = 34
        · refine lv_tableIn (off := 177) (tgt := 249) hx hb dX7_readOne_72 (by omega) (by omega) (by rw [c74]; rfl) (by decide) ?_
          refine lv_aload_n hx hb dX7_readOne_249 rfl (lv_at hl 1 rfl) ?_
          refine fg_7_2 (k := 27) hx hb hts in_X7_readOne_7 hown hK hP (by decide) (by decide) (hts _ lk_X7_readOne_19) dX7_readOne_250 ?_
          refine lv_iload_n hx hb dX7_readOne_253 rfl (lv_at hl 0 rfl) ?_
          refine r_bipush hx hb dX7_readOne_254 (by decide) (fun z75 ez75 => ?_)
          refine r_iconst hx hb dX7_readOne_256 (by decide) (fun z76 ez76 => ?_)
          refine r_cVi (k := 24) (As := [.int (σ0 1 9), .int z75, .int z76]) (rest := []) ⟨hx, hb, hml, hown, hts⟩ hK hP hN hS (c_X6_add l D cA ad hI σ14 τ14 hR (σ0 1 9) z75 z76 (by omega)) (cwV 3 hts gX7_readOne_X6_add rfl rfl rfl (by decide +kernel) ⟨by decide, by decide⟩) (rv_Sent hK hP (by decide) (by decide)) rfl hl.1 rfl (Nat.le_of_ble_eq_true rfl) dX7_readOne_257 (Nat.zero_le _) (Nat.zero_le _) (fun r77 u77 H77 locs77 hp77 hP hS => ?_)
          obtain ⟨σ77, τ77⟩ := u77
          obtain ⟨hR, f77, fL77, hq77⟩ : P_X6_add σ14 τ14 (σ0 1 9) z75 z76 r77 σ77 τ77 := hp77
          have hP : va_P D vwCl (gw cA ad σ77 τ77) H77 := hP
          obtain rfl := FrL.nil fL77
          have hF := hF.step f77 (by decide)
          have t78 : (σ77 24 1).toInt = (σ14 24 1).toInt := congrArg Int32.toInt (f77.at 24 1 (by decide))
          exact r_zret hx hb hr hK hP hS hk (by omega) dX7_readOne_260 (show P_X7_readOne_d3 σ0 τ0 a1 r77 σ77 τ14 from ⟨hR, hF, hFL, by omega⟩)
        by_cases c79 : (σ0 1 9).toInt = 35
        · refine lv_tableIn (off := 177) (tgt := 249) hx hb dX7_readOne_72 (by omega) (by omega) (by rw [c79]; rfl) (by decide) ?_
          refine lv_aload_n hx hb dX7_readOne_249 rfl (lv_at hl 1 rfl) ?_
          refine fg_7_2 (k := 27) hx hb hts in_X7_readOne_7 hown hK hP (by decide) (by decide) (hts _ lk_X7_readOne_19) dX7_readOne_250 ?_
          refine lv_iload_n hx hb dX7_readOne_253 rfl (lv_at hl 0 rfl) ?_
          refine r_bipush hx hb dX7_readOne_254 (by decide) (fun z80 ez80 => ?_)
          refine r_iconst hx hb dX7_readOne_256 (by decide) (fun z81 ez81 => ?_)
          refine r_cVi (k := 24) (As := [.int (σ0 1 9), .int z80, .int z81]) (rest := []) ⟨hx, hb, hml, hown, hts⟩ hK hP hN hS (c_X6_add l D cA ad hI σ14 τ14 hR (σ0 1 9) z80 z81 (by omega)) (cwV 3 hts gX7_readOne_X6_add rfl rfl rfl (by decide +kernel) ⟨by decide, by decide⟩) (rv_Sent hK hP (by decide) (by decide)) rfl hl.1 rfl (Nat.le_of_ble_eq_true rfl) dX7_readOne_257 (Nat.zero_le _) (Nat.zero_le _) (fun r82 u82 H82 locs82 hp82 hP hS => ?_)
          obtain ⟨σ82, τ82⟩ := u82
          obtain ⟨hR, f82, fL82, hq82⟩ : P_X6_add σ14 τ14 (σ0 1 9) z80 z81 r82 σ82 τ82 := hp82
          have hP : va_P D vwCl (gw cA ad σ82 τ82) H82 := hP
          obtain rfl := FrL.nil fL82
          have hF := hF.step f82 (by decide)
          have t83 : (σ82 24 1).toInt = (σ14 24 1).toInt := congrArg Int32.toInt (f82.at 24 1 (by decide))
          exact r_zret hx hb hr hK hP hS hk (by omega) dX7_readOne_260 (show P_X7_readOne_d3 σ0 τ0 a1 r82 σ82 τ14 from ⟨hR, hF, hFL, by omega⟩)
        by_cases c84 : (σ0 1 9).toInt = 36
        · refine lv_tableIn (off := 177) (tgt := 249) hx hb dX7_readOne_72 (by omega) (by omega) (by rw [c84]; rfl) (by decide) ?_
          refine lv_aload_n hx hb dX7_readOne_249 rfl (lv_at hl 1 rfl) ?_
          refine fg_7_2 (k := 27) hx hb hts in_X7_readOne_7 hown hK hP (by decide) (by decide) (hts _ lk_X7_readOne_19) dX7_readOne_250 ?_
          refine lv_iload_n hx hb dX7_readOne_253 rfl (lv_at hl 0 rfl) ?_
          refine r_bipush hx hb dX7_readOne_254 (by decide) (fun z85 ez85 => ?_)
          refine r_iconst hx hb dX7_readOne_256 (by decide) (fun z86 ez86 => ?_)
          refine r_cVi (k := 24) (As := [.int (σ0 1 9), .int z85, .int z86]) (rest := []) ⟨hx, hb, hml, hown, hts⟩ hK hP hN hS (c_X6_add l D cA ad hI σ14 τ14 hR (σ0 1 9) z85 z86 (by omega)) (cwV 3 hts gX7_readOne_X6_add rfl rfl rfl (by decide +kernel) ⟨by decide, by decide⟩) (rv_Sent hK hP (by decide) (by decide)) rfl hl.1 rfl (Nat.le_of_ble_eq_true rfl) dX7_readOne_257 (Nat.zero_le _) (Nat.zero_le _) (fun r87 u87 H87 locs87 hp87 hP hS => ?_)
          obtain ⟨σ87, τ87⟩ := u87
          obtain ⟨hR, f87, fL87, hq87⟩ : P_X6_add σ14 τ14 (σ0 1 9) z85 z86 r87 σ87 τ87 := hp87
          have hP : va_P D vwCl (gw cA ad σ87 τ87) H87 := hP
          obtain rfl := FrL.nil fL87
          have hF := hF.step f87 (by decide)
          have t88 : (σ87 24 1).toInt = (σ14 24 1).toInt := congrArg Int32.toInt (f87.at 24 1 (by decide))
          exact r_zret hx hb hr hK hP hS hk (by omega) dX7_readOne_260 (show P_X7_readOne_d3 σ0 τ0 a1 r87 σ87 τ14 from ⟨hR, hF, hFL, by omega⟩)
        by_cases c89 : (σ0 1 9).toInt = 37
        · refine lv_tableIn (off := 177) (tgt := 249) hx hb dX7_readOne_72 (by omega) (by omega) (by rw [c89]; rfl) (by decide) ?_
          refine lv_aload_n hx hb dX7_readOne_249 rfl (lv_at hl 1 rfl) ?_
          refine fg_7_2 (k := 27) hx hb hts in_X7_readOne_7 hown hK hP (by decide) (by decide) (hts _ lk_X7_readOne_19) dX7_readOne_250 ?_
          refine lv_iload_n hx hb dX7_readOne_253 rfl (lv_at hl 0 rfl) ?_
          refine r_bipush hx hb dX7_readOne_254 (by decide) (fun z90 ez90 => ?_)
          refine r_iconst hx hb dX7_readOne_256 (by decide) (fun z91 ez91 => ?_)
          refine r_cVi (k := 24) (As := [.int (σ0 1 9), .int z90, .int z91]) (rest := []) ⟨hx, hb, hml, hown, hts⟩ hK hP hN hS (c_X6_add l D cA ad hI σ14 τ14 hR (σ0 1 9) z90 z91 (by omega)) (cwV 3 hts gX7_readOne_X6_add rfl rfl rfl (by decide +kernel) ⟨by decide, by decide⟩) (rv_Sent hK hP (by decide) (by decide)) rfl hl.1 rfl (Nat.le_of_ble_eq_true rfl) dX7_readOne_257 (Nat.zero_le _) (Nat.zero_le _) (fun r92 u92 H92 locs92 hp92 hP hS => ?_)
          obtain ⟨σ92, τ92⟩ := u92
          obtain ⟨hR, f92, fL92, hq92⟩ : P_X6_add σ14 τ14 (σ0 1 9) z90 z91 r92 σ92 τ92 := hp92
          have hP : va_P D vwCl (gw cA ad σ92 τ92) H92 := hP
          obtain rfl := FrL.nil fL92
          have hF := hF.step f92 (by decide)
          have t93 : (σ92 24 1).toInt = (σ14 24 1).toInt := congrArg Int32.toInt (f92.at 24 1 (by decide))
          exact r_zret hx hb hr hK hP hS hk (by omega) dX7_readOne_260 (show P_X7_readOne_d3 σ0 τ0 a1 r92 σ92 τ14 from ⟨hR, hF, hFL, by omega⟩)
        by_cases c94 : (σ0 1 9).toInt = 38
        · refine lv_tableIn (off := 177) (tgt := 249) hx hb dX7_readOne_72 (by omega) (by omega) (by rw [c94]; rfl) (by decide) ?_
          refine lv_aload_n hx hb dX7_readOne_249 rfl (lv_at hl 1 rfl) ?_
          refine fg_7_2 (k := 27) hx hb hts in_X7_readOne_7 hown hK hP (by decide) (by decide) (hts _ lk_X7_readOne_19) dX7_readOne_250 ?_
          refine lv_iload_n hx hb dX7_readOne_253 rfl (lv_at hl 0 rfl) ?_
          refine r_bipush hx hb dX7_readOne_254 (by decide) (fun z95 ez95 => ?_)
          refine r_iconst hx hb dX7_readOne_256 (by decide) (fun z96 ez96 => ?_)
          refine r_cVi (k := 24) (As := [.int (σ0 1 9), .int z95, .int z96]) (rest := []) ⟨hx, hb, hml, hown, hts⟩ hK hP hN hS (c_X6_add l D cA ad hI σ14 τ14 hR (σ0 1 9) z95 z96 (by omega)) (cwV 3 hts gX7_readOne_X6_add rfl rfl rfl (by decide +kernel) ⟨by decide, by decide⟩) (rv_Sent hK hP (by decide) (by decide)) rfl hl.1 rfl (Nat.le_of_ble_eq_true rfl) dX7_readOne_257 (Nat.zero_le _) (Nat.zero_le _) (fun r97 u97 H97 locs97 hp97 hP hS => ?_)
          obtain ⟨σ97, τ97⟩ := u97
          obtain ⟨hR, f97, fL97, hq97⟩ : P_X6_add σ14 τ14 (σ0 1 9) z95 z96 r97 σ97 τ97 := hp97
          have hP : va_P D vwCl (gw cA ad σ97 τ97) H97 := hP
          obtain rfl := FrL.nil fL97
          have hF := hF.step f97 (by decide)
          have t98 : (σ97 24 1).toInt = (σ14 24 1).toInt := congrArg Int32.toInt (f97.at 24 1 (by decide))
          exact r_zret hx hb hr hK hP hS hk (by omega) dX7_readOne_260 (show P_X7_readOne_d3 σ0 τ0 a1 r97 σ97 τ14 from ⟨hR, hF, hFL, by omega⟩)
        by_cases c99 : (σ0 1 9).toInt = 39
        · refine lv_tableIn (off := 177) (tgt := 249) hx hb dX7_readOne_72 (by omega) (by omega) (by rw [c99]; rfl) (by decide) ?_
          refine lv_aload_n hx hb dX7_readOne_249 rfl (lv_at hl 1 rfl) ?_
          refine fg_7_2 (k := 27) hx hb hts in_X7_readOne_7 hown hK hP (by decide) (by decide) (hts _ lk_X7_readOne_19) dX7_readOne_250 ?_
          refine lv_iload_n hx hb dX7_readOne_253 rfl (lv_at hl 0 rfl) ?_
          refine r_bipush hx hb dX7_readOne_254 (by decide) (fun z100 ez100 => ?_)
          refine r_iconst hx hb dX7_readOne_256 (by decide) (fun z101 ez101 => ?_)
          refine r_cVi (k := 24) (As := [.int (σ0 1 9), .int z100, .int z101]) (rest := []) ⟨hx, hb, hml, hown, hts⟩ hK hP hN hS (c_X6_add l D cA ad hI σ14 τ14 hR (σ0 1 9) z100 z101 (by omega)) (cwV 3 hts gX7_readOne_X6_add rfl rfl rfl (by decide +kernel) ⟨by decide, by decide⟩) (rv_Sent hK hP (by decide) (by decide)) rfl hl.1 rfl (Nat.le_of_ble_eq_true rfl) dX7_readOne_257 (Nat.zero_le _) (Nat.zero_le _) (fun r102 u102 H102 locs102 hp102 hP hS => ?_)
          obtain ⟨σ102, τ102⟩ := u102
          obtain ⟨hR, f102, fL102, hq102⟩ : P_X6_add σ14 τ14 (σ0 1 9) z100 z101 r102 σ102 τ102 := hp102
          have hP : va_P D vwCl (gw cA ad σ102 τ102) H102 := hP
          obtain rfl := FrL.nil fL102
          have hF := hF.step f102 (by decide)
          have t103 : (σ102 24 1).toInt = (σ14 24 1).toInt := congrArg Int32.toInt (f102.at 24 1 (by decide))
          exact r_zret hx hb hr hK hP hS hk (by omega) dX7_readOne_260 (show P_X7_readOne_d3 σ0 τ0 a1 r102 σ102 τ14 from ⟨hR, hF, hFL, by omega⟩)
        by_cases c104 : (σ0 1 9).toInt = 40
        · refine lv_tableIn (off := 177) (tgt := 249) hx hb dX7_readOne_72 (by omega) (by omega) (by rw [c104]; rfl) (by decide) ?_
          refine lv_aload_n hx hb dX7_readOne_249 rfl (lv_at hl 1 rfl) ?_
          refine fg_7_2 (k := 27) hx hb hts in_X7_readOne_7 hown hK hP (by decide) (by decide) (hts _ lk_X7_readOne_19) dX7_readOne_250 ?_
          refine lv_iload_n hx hb dX7_readOne_253 rfl (lv_at hl 0 rfl) ?_
          refine r_bipush hx hb dX7_readOne_254 (by decide) (fun z105 ez105 => ?_)
          refine r_iconst hx hb dX7_readOne_256 (by decide) (fun z106 ez106 => ?_)
          refine r_cVi (k := 24) (As := [.int (σ0 1 9), .int z105, .int z106]) (rest := []) ⟨hx, hb, hml, hown, hts⟩ hK hP hN hS (c_X6_add l D cA ad hI σ14 τ14 hR (σ0 1 9) z105 z106 (by omega)) (cwV 3 hts gX7_readOne_X6_add rfl rfl rfl (by decide +kernel) ⟨by decide, by decide⟩) (rv_Sent hK hP (by decide) (by decide)) rfl hl.1 rfl (Nat.le_of_ble_eq_true rfl) dX7_readOne_257 (Nat.zero_le _) (Nat.zero_le _) (fun r107 u107 H107 locs107 hp107 hP hS => ?_)
          obtain ⟨σ107, τ107⟩ := u107
          obtain ⟨hR, f107, fL107, hq107⟩ : P_X6_add σ14 τ14 (σ0 1 9) z105 z106 r107 σ107 τ107 := hp107
          have hP : va_P D vwCl (gw cA ad σ107 τ107) H107 := hP
          obtain rfl := FrL.nil fL107
          have hF := hF.step f107 (by decide)
          have t108 : (σ107 24 1).toInt = (σ14 24 1).toInt := congrArg Int32.toInt (f107.at 24 1 (by decide))
          exact r_zret hx hb hr hK hP hS hk (by omega) dX7_readOne_260 (show P_X7_readOne_d3 σ0 τ0 a1 r107 σ107 τ14 from ⟨hR, hF, hFL, by omega⟩)
        by_cases c109 : (σ0 1 9).toInt = 41
        · refine lv_tableIn (off := 177) (tgt := 249) hx hb dX7_readOne_72 (by omega) (by omega) (by rw [c109]; rfl) (by decide) ?_
          refine lv_aload_n hx hb dX7_readOne_249 rfl (lv_at hl 1 rfl) ?_
          refine fg_7_2 (k := 27) hx hb hts in_X7_readOne_7 hown hK hP (by decide) (by decide) (hts _ lk_X7_readOne_19) dX7_readOne_250 ?_
          refine lv_iload_n hx hb dX7_readOne_253 rfl (lv_at hl 0 rfl) ?_
          refine r_bipush hx hb dX7_readOne_254 (by decide) (fun z110 ez110 => ?_)
          refine r_iconst hx hb dX7_readOne_256 (by decide) (fun z111 ez111 => ?_)
          refine r_cVi (k := 24) (As := [.int (σ0 1 9), .int z110, .int z111]) (rest := []) ⟨hx, hb, hml, hown, hts⟩ hK hP hN hS (c_X6_add l D cA ad hI σ14 τ14 hR (σ0 1 9) z110 z111 (by omega)) (cwV 3 hts gX7_readOne_X6_add rfl rfl rfl (by decide +kernel) ⟨by decide, by decide⟩) (rv_Sent hK hP (by decide) (by decide)) rfl hl.1 rfl (Nat.le_of_ble_eq_true rfl) dX7_readOne_257 (Nat.zero_le _) (Nat.zero_le _) (fun r112 u112 H112 locs112 hp112 hP hS => ?_)
          obtain ⟨σ112, τ112⟩ := u112
          obtain ⟨hR, f112, fL112, hq112⟩ : P_X6_add σ14 τ14 (σ0 1 9) z110 z111 r112 σ112 τ112 := hp112
          have hP : va_P D vwCl (gw cA ad σ112 τ112) H112 := hP
          obtain rfl := FrL.nil fL112
          have hF := hF.step f112 (by decide)
          have t113 : (σ112 24 1).toInt = (σ14 24 1).toInt := congrArg Int32.toInt (f112.at 24 1 (by decide))
          exact r_zret hx hb hr hK hP hS hk (by omega) dX7_readOne_260 (show P_X7_readOne_d3 σ0 τ0 a1 r112 σ112 τ14 from ⟨hR, hF, hFL, by omega⟩)
        by_cases c114 : (σ0 1 9).toInt = 42
        · refine lv_tableIn (off := 177) (tgt := 249) hx hb dX7_readOne_72 (by omega) (by omega) (by rw [c114]; rfl) (by decide) ?_
          refine lv_aload_n hx hb dX7_readOne_249 rfl (lv_at hl 1 rfl) ?_
          refine fg_7_2 (k := 27) hx hb hts in_X7_readOne_7 hown hK hP (by decide) (by decide) (hts _ lk_X7_readOne_19) dX7_readOne_250 ?_
          refine lv_iload_n hx hb dX7_readOne_253 rfl (lv_at hl 0 rfl) ?_
          refine r_bipush hx hb dX7_readOne_254 (by decide) (fun z115 ez115 => ?_)
          refine r_iconst hx hb dX7_readOne_256 (by decide) (fun z116 ez116 => ?_)
          refine r_cVi (k := 24) (As := [.int (σ0 1 9), .int z115, .int z116]) (rest := []) ⟨hx, hb, hml, hown, hts⟩ hK hP hN hS (c_X6_add l D cA ad hI σ14 τ14 hR (σ0 1 9) z115 z116 (by omega)) (cwV 3 hts gX7_readOne_X6_add rfl rfl rfl (by decide +kernel) ⟨by decide, by decide⟩) (rv_Sent hK hP (by decide) (by decide)) rfl hl.1 rfl (Nat.le_of_ble_eq_true rfl) dX7_readOne_257 (Nat.zero_le _) (Nat.zero_le _) (fun r117 u117 H117 locs117 hp117 hP hS => ?_)
          obtain ⟨σ117, τ117⟩ := u117
          obtain ⟨hR, f117, fL117, hq117⟩ : P_X6_add σ14 τ14 (σ0 1 9) z115 z116 r117 σ117 τ117 := hp117
          have hP : va_P D vwCl (gw cA ad σ117 τ117) H117 := hP
          obtain rfl := FrL.nil fL117
          have hF := hF.step f117 (by decide)
          have t118 : (σ117 24 1).toInt = (σ14 24 1).toInt := congrArg Int32.toInt (f117.at 24 1 (by decide))
          exact r_zret hx hb hr hK hP hS hk (by omega) dX7_readOne_260 (show P_X7_readOne_d3 σ0 τ0 a1 r117 σ117 τ14 from ⟨hR, hF, hFL, by omega⟩)
        by_cases c119 : (σ0 1 9).toInt = 43
        · refine lv_tableIn (off := 177) (tgt := 249) hx hb dX7_readOne_72 (by omega) (by omega) (by rw [c119]; rfl) (by decide) ?_
          refine lv_aload_n hx hb dX7_readOne_249 rfl (lv_at hl 1 rfl) ?_
          refine fg_7_2 (k := 27) hx hb hts in_X7_readOne_7 hown hK hP (by decide) (by decide) (hts _ lk_X7_readOne_19) dX7_readOne_250 ?_
          refine lv_iload_n hx hb dX7_readOne_253 rfl (lv_at hl 0 rfl) ?_
          refine r_bipush hx hb dX7_readOne_254 (by decide) (fun z120 ez120 => ?_)
          refine r_iconst hx hb dX7_readOne_256 (by decide) (fun z121 ez121 => ?_)
          refine r_cVi (k := 24) (As := [.int (σ0 1 9), .int z120, .int z121]) (rest := []) ⟨hx, hb, hml, hown, hts⟩ hK hP hN hS (c_X6_add l D cA ad hI σ14 τ14 hR (σ0 1 9) z120 z121 (by omega)) (cwV 3 hts gX7_readOne_X6_add rfl rfl rfl (by decide +kernel) ⟨by decide, by decide⟩) (rv_Sent hK hP (by decide) (by decide)) rfl hl.1 rfl (Nat.le_of_ble_eq_true rfl) dX7_readOne_257 (Nat.zero_le _) (Nat.zero_le _) (fun r122 u122 H122 locs122 hp122 hP hS => ?_)
          obtain ⟨σ122, τ122⟩ := u122
          obtain ⟨hR, f122, fL122, hq122⟩ : P_X6_add σ14 τ14 (σ0 1 9) z120 z121 r122 σ122 τ122 := hp122
          have hP : va_P D vwCl (gw cA ad σ122 τ122) H122 := hP
          obtain rfl := FrL.nil fL122
          have hF := hF.step f122 (by decide)
          have t123 : (σ122 24 1).toInt = (σ14 24 1).toInt := congrArg Int32.toInt (f122.at 24 1 (by decide))
          exact r_zret hx hb hr hK hP hS hk (by omega) dX7_readOne_260 (show P_X7_readOne_d3 σ0 τ0 a1 r122 σ122 τ14 from ⟨hR, hF, hFL, by omega⟩)
        by_cases c124 : (σ0 1 9).toInt = 44
        · refine lv_tableIn (off := 138) (tgt := 210) hx hb dX7_readOne_72 (by omega) (by omega) (by rw [c124]; rfl) (by decide) ?_
          refine lv_aload_n hx hb dX7_readOne_210 rfl (lv_at hl 1 rfl) ?_
          refine lv_iload_n hx hb dX7_readOne_211 rfl (lv_at hl 2 rfl) ?_
          refine r_iconst hx hb dX7_readOne_212 (by decide) (fun z125 ez125 => ?_)
          refine r_iadd hx hb dX7_readOne_213 (by omega) (fun z126 ez126 => ?_)
          refine r_cVi (k := 27) (As := [.int z126]) (rest := []) ⟨hx, hb, hml, hown, hts⟩ hK hP hN hS (c_X7_readCond_d4 l D cA ad hI σ14 τ14 hR z126 (by omega)) (cwV 1 hts gX7_readOne_X7_readCond rfl rfl rfl (by decide +kernel) ⟨by decide, by decide⟩) (rv_SText hK hP (by decide) (by decide)) rfl hl.1 rfl (Nat.le_of_ble_eq_true rfl) dX7_readOne_214 (Nat.zero_le _) (Nat.zero_le _) (fun r127 u127 H127 locs127 hp127 hP hS => ?_)
          obtain ⟨σ127, τ127⟩ := u127
          obtain ⟨hR, f127, fL127, hq127⟩ : P_X7_readCond_d4 σ14 τ14 z126 r127 σ127 τ127 := hp127
          have hP : va_P D vwCl (gw cA ad σ127 τ127) H127 := hP
          have hFL := hFL.step fL127 (by decide)
          have hF := hF.step f127 (by decide)
          refine r_if_eq (tgt := 236) hx hb dX7_readOne_217 (by decide) (fun c128 => ?_) (fun c128 => ?_)
          · refine r_iconst hx hb dX7_readOne_236 (by decide) (fun z129 ez129 => ?_)
            exact r_zret hx hb hr hK hP hS hk (by omega) dX7_readOne_237 (show P_X7_readOne_d3 σ0 τ0 a1 z129 σ127 τ127 from ⟨hR, hF, hFL, by omega⟩)
          · refine lv_aload_n hx hb dX7_readOne_220 rfl (lv_at hl 1 rfl) ?_
            refine fg_7_0 (k := 27) hx hb hts in_X7_readOne_7 hown hK hP (by decide) (by decide) (hts _ lk_X7_readOne_9) dX7_readOne_221 ?_
            refine r_bipush hx hb dX7_readOne_224 (by decide) (fun z130 ez130 => ?_)
            refine r_cVi (k := 1) (As := [.int z130]) (rest := []) ⟨hx, hb, hml, hown, hts⟩ hK hP hN hS (c_X8_take l D cA ad hI σ127 τ127 hR z130 (by omega)) (cwV 1 hts gX7_readOne_X8_take rfl rfl rfl (by decide +kernel) ⟨by decide, by decide⟩) (rv_Tape hK hP (by decide) (by decide)) rfl hl.1 rfl (Nat.le_of_ble_eq_true rfl) dX7_readOne_226 (Nat.zero_le _) (Nat.zero_le _) (fun r131 u131 H131 locs131 hp131 hP hS => ?_)
            obtain ⟨σ131, τ131⟩ := u131
            obtain ⟨hR, f131, fL131, hq131⟩ : P_X8_take σ127 τ127 z130 r131 σ131 τ131 := hp131
            have hP : va_P D vwCl (gw cA ad σ131 τ131) H131 := hP
            have hFL := hFL.step fL131 (by decide)
            have hF := hF.step f131 (by decide)
            refine r_if_eq (tgt := 236) hx hb dX7_readOne_229 (by decide) (fun c132 => ?_) (fun c132 => ?_)
            · refine r_iconst hx hb dX7_readOne_236 (by decide) (fun z133 ez133 => ?_)
              exact r_zret hx hb hr hK hP hS hk (by omega) dX7_readOne_237 (show P_X7_readOne_d3 σ0 τ0 a1 z133 σ131 τ131 from ⟨hR, hF, hFL, by omega⟩)
            · refine r_iconst hx hb dX7_readOne_232 (by decide) (fun z134 ez134 => ?_)
              refine lv_goto (tgt := 237) hx hb dX7_readOne_233 (by decide) ?_
              exact r_zret hx hb hr hK hP hS hk (by omega) dX7_readOne_237 (show P_X7_readOne_d3 σ0 τ0 a1 z134 σ131 τ131 from ⟨hR, hF, hFL, by omega⟩)
        refine lv_tableOut (tgt := 249) hx hb dX7_readOne_72 (by omega) (by decide) ?_
        refine lv_aload_n hx hb dX7_readOne_249 rfl (lv_at hl 1 rfl) ?_
        refine fg_7_2 (k := 27) hx hb hts in_X7_readOne_7 hown hK hP (by decide) (by decide) (hts _ lk_X7_readOne_19) dX7_readOne_250 ?_
        refine lv_iload_n hx hb dX7_readOne_253 rfl (lv_at hl 0 rfl) ?_
        refine r_bipush hx hb dX7_readOne_254 (by decide) (fun z135 ez135 => ?_)
        refine r_iconst hx hb dX7_readOne_256 (by decide) (fun z136 ez136 => ?_)
        refine r_cVi (k := 24) (As := [.int (σ0 1 9), .int z135, .int z136]) (rest := []) ⟨hx, hb, hml, hown, hts⟩ hK hP hN hS (c_X6_add l D cA ad hI σ14 τ14 hR (σ0 1 9) z135 z136 (by omega)) (cwV 3 hts gX7_readOne_X6_add rfl rfl rfl (by decide +kernel) ⟨by decide, by decide⟩) (rv_Sent hK hP (by decide) (by decide)) rfl hl.1 rfl (Nat.le_of_ble_eq_true rfl) dX7_readOne_257 (Nat.zero_le _) (Nat.zero_le _) (fun r137 u137 H137 locs137 hp137 hP hS => ?_)
        obtain ⟨σ137, τ137⟩ := u137
        obtain ⟨hR, f137, fL137, hq137⟩ : P_X6_add σ14 τ14 (σ0 1 9) z135 z136 r137 σ137 τ137 := hp137
        have hP : va_P D vwCl (gw cA ad σ137 τ137) H137 := hP
        obtain rfl := FrL.nil fL137
        have hF := hF.step f137 (by decide)
        have t138 : (σ137 24 1).toInt = (σ14 24 1).toInt := congrArg Int32.toInt (f137.at 24 1 (by decide))
        exact r_zret hx hb hr hK hP hS hk (by omega) dX7_readOne_260 (show P_X7_readOne_d3 σ0 τ0 a1 r137 σ137 τ14 from ⟨hR, hF, hFL, by omega⟩)
      · exfalso; omega
  · refine lv_aload_n hx hb dX7_readOne_15 rfl (lv_at hl 1 rfl) ?_
    refine fg_7_0 (k := 27) hx hb hts in_X7_readOne_7 hown hK hP (by decide) (by decide) (hts _ lk_X7_readOne_9) dX7_readOne_16 ?_
    refine r_iconst hx hb dX7_readOne_19 (by decide) (fun z139 ez139 => ?_)
    refine r_cVi (k := 1) (As := [.int z139]) (rest := []) ⟨hx, hb, hml, hown, hts⟩ hK hP hN hS (c_X8_blame l D cA ad hI σ0 τ0 hR z139 (by omega)) (cwV 1 hts gX7_readOne_X8_blame rfl rfl rfl (by decide +kernel) ⟨by decide, by decide⟩) (rv_Tape hK hP (by decide) (by decide)) rfl hl.1 rfl (Nat.le_of_ble_eq_true rfl) dX7_readOne_20 (Nat.zero_le _) (Nat.zero_le _) (fun r140 u140 H140 locs140 hp140 hP hS => ?_)
    obtain ⟨σ140, τ140⟩ := u140
    obtain ⟨hR, f140, fL140, hq140⟩ : P_X8_blame σ0 τ0 z139 r140 σ140 τ140 := hp140
    have hP : va_P D vwCl (gw cA ad σ140 τ140) H140 := hP
    obtain rfl := FrL.nil fL140
    have hF := hF.step f140 (by decide)
    exact r_zret hx hb hr hK hP hS hk (by omega) dX7_readOne_23 (show P_X7_readOne_d3 σ0 τ0 a1 r140 σ140 τ0 from ⟨hR, hF, hFL, by omega⟩)
abbrev L_X7_readAll_d3 : List Rc := [(1, 1, 7, 10), (372, 372, 0, 39), (376, 376, 0, 39), (380, 380, 0, 39), (24, 24, 1, 2), (1, 1, 12, 14)]
abbrev LL_X7_readAll_d3 : List Rc := [(1, 1, 11, 11)]
def P_X7_readAll_d3 (σ0 : Nat → Nat → Int32) (τ0 : Nat → Nat → Int64) (a1 : Int32) (r : Int32) (σ : Nat → Nat → Int32) (τ : Nat → Nat → Int64) : Prop := Rg σ ∧ Fr L_X7_readAll_d3 σ0 σ ∧ FrL LL_X7_readAll_d3 τ0 τ ∧ (0 ≤ r.toInt ∧ r.toInt ≤ 1)
def J_X7_readAll_d3_12 (p : Program) (l : Launch) (e : Env) (s : State) (m : MethodId) (args : Array Value) (below : List Frame) (meth : Method) (c : Code) (D : va_G) (cA : Nat → ClassId) (ad : Nat → Nat) (σ0 : Nat → Nat → Int32) (τ0 : Nat → Nat → Int64) (a1 : Int32) (n : Nat) : Prop := ∀ (σ : Nat → Nat → Int32) (τ : Nat → Nat → Int64) (H : Heap) (locs : List Loc) (x2 : Int32) (ls : Array Slot), Rg σ → Fr L_X7_readAll_d3 σ0 σ → FrL LL_X7_readAll_d3 τ0 τ → va_P D vwCl (gw cA ad σ τ) H → va_S (AA ad) s.heap H locs → (0 ≤ x2.toInt ∧ x2.toInt ≤ 200) → lv_has ls 3 [(0, .ref (ad 27)), (1, .int a1), (2, .int x2)] → 2 * (200 - x2.toInt) + 1 < (n : Int) → W p l e ({ frames := 20, cells := 0, slots := 0, locals := 439 } : Room) s m args below meth c H locs 0 0 (MQ below (va_Qi (fun (r : Int32) (u : SS) => P_X7_readAll_d3 σ0 τ0 a1 r u.1 u.2) (WB D cA ad) (AA ad)) args s 0 0 (AA ad)) (F0 m 12 ls [])
set_option maxHeartbeats 4000000 in
theorem B_X7_readAll_d3_12 (p : Program) (l : Launch) (e : Env) (s : State) (m : MethodId) (args : Array Value) (below : List Frame) (meth : Method) (c : Code) (D : va_G) (cA : Nat → ClassId) (ad : Nat → Nat) (σ0 : Nat → Nat → Int32) (τ0 : Nat → Nat → Int64) (a1 : Int32) (n : Nat) (C : Cy p s m args meth c cX7_readAll 3 wsX7_readAll RX7 D cA ad (some .boolean)) (ha1 : 3 ≤ a1.toInt ∧ a1.toInt ≤ 3) (K12 : J_X7_readAll_d3_12 p l e s m args below meth c D cA ad σ0 τ0 a1 n) : J_X7_readAll_d3_12 p l e s m args below meth c D cA ad σ0 τ0 a1 (n + 1) := by
  obtain ⟨hx, hb, hml, hown, hts, hK, hk, hr, hI, hN⟩ := C
  intro σ τ H locs x2 ls hR hF hFL hP hS hc0 hl hm
  refine lv_iload_n hx hb dX7_readAll_12 rfl (lv_at hl 2 rfl) ?_
  refine r_sipush hx hb dX7_readAll_13 (by decide) (fun z1 ez1 => ?_)
  refine r_icmp_ge (tgt := 68) hx hb dX7_readAll_16 (by decide) (fun c2 => ?_) (fun c2 => ?_)
  · refine r_iconst hx hb dX7_readAll_68 (by decide) (fun z3 ez3 => ?_)
    exact r_zret hx hb hr hK hP hS hk (by omega) dX7_readAll_69 (show P_X7_readAll_d3 σ0 τ0 a1 z3 σ τ from ⟨hR, hF, hFL, by omega⟩)
  · refine lv_aload_n hx hb dX7_readAll_19 rfl (lv_at hl 0 rfl) ?_
    refine fg_7_0 (k := 27) hx hb hts in_X7_readAll_7 hown hK hP (by decide) (by decide) (hts _ lk_X7_readAll_9) dX7_readAll_20 ?_
    refine fgN_8_9 (k := 1) hx hb hts in_X7_readAll_8 hown hK hP (by decide) (by decide) (hN.use nw_7_32) dX7_readAll_23 ?_
    refine r_bipush hx hb dX7_readAll_26 (by decide) (fun z4 ez4 => ?_)
    refine r_icmp_ne (tgt := 68) hx hb dX7_readAll_28 (by decide) (fun c5 => ?_) (fun c5 => ?_)
    · refine r_iconst hx hb dX7_readAll_68 (by decide) (fun z6 ez6 => ?_)
      exact r_zret hx hb hr hK hP hS hk (by omega) dX7_readAll_69 (show P_X7_readAll_d3 σ0 τ0 a1 z6 σ τ from ⟨hR, hF, hFL, by omega⟩)
    · refine lv_aload_n hx hb dX7_readAll_31 rfl (lv_at hl 0 rfl) ?_
      refine fg_7_0 (k := 27) hx hb hts in_X7_readAll_7 hown hK hP (by decide) (by decide) (hts _ lk_X7_readAll_9) dX7_readAll_32 ?_
      refine r_cVv (k := 1) (As := []) (rest := []) ⟨hx, hb, hml, hown, hts⟩ hK hP hN hS (c_X8_next l D cA ad hI σ τ hR) (cwV 0 hts gX7_readAll_X8_next rfl rfl rfl (by decide +kernel) ⟨by decide, by decide⟩) (rv_Tape hK hP (by decide) (by decide)) rfl hl.1 rfl (Nat.le_of_ble_eq_true rfl) dX7_readAll_35 (Nat.zero_le _) (Nat.zero_le _) (fun u7 H7 locs7 hp7 hP hS => ?_)
      obtain ⟨σ7, τ7⟩ := u7
      obtain ⟨hR, f7, fL7⟩ : P_X8_next σ τ σ7 τ7 := hp7
      have hP : va_P D vwCl (gw cA ad σ7 τ7) H7 := hP
      have hFL := hFL.step fL7 (by decide)
      have hF := hF.step f7 (by decide)
      refine lv_aload_n hx hb dX7_readAll_38 rfl (lv_at hl 0 rfl) ?_
      refine lv_iload_n hx hb dX7_readAll_39 rfl (lv_at hl 1 rfl) ?_
      refine r_cVi (k := 27) (As := [.int a1]) (rest := []) ⟨hx, hb, hml, hown, hts⟩ hK hP hN hS (c_X7_readOne_d3 l D cA ad hI σ7 τ7 hR a1 (by omega)) (cwV 1 hts gX7_readAll_X7_readOne rfl rfl rfl (by decide +kernel) ⟨by decide, by decide⟩) (rv_SText hK hP (by decide) (by decide)) rfl hl.1 rfl (Nat.le_of_ble_eq_true rfl) dX7_readAll_40 (Nat.zero_le _) (Nat.zero_le _) (fun r8 u8 H8 locs8 hp8 hP hS => ?_)
      obtain ⟨σ8, τ8⟩ := u8
      obtain ⟨hR, f8, fL8, hq8⟩ : P_X7_readOne_d3 σ7 τ7 a1 r8 σ8 τ8 := hp8
      have hP : va_P D vwCl (gw cA ad σ8 τ8) H8 := hP
      have hFL := hFL.step fL8 (by decide)
      have hF := hF.step f8 (by decide)
      refine r_if_eq (tgt := 60) hx hb dX7_readAll_43 (by decide) (fun c9 => ?_) (fun c9 => ?_)
      · refine r_iconst hx hb dX7_readAll_60 (by decide) (fun z10 ez10 => ?_)
        exact r_zret hx hb hr hK hP hS hk (by omega) dX7_readAll_61 (show P_X7_readAll_d3 σ0 τ0 a1 z10 σ8 τ8 from ⟨hR, hF, hFL, by omega⟩)
      · refine lv_aload_n hx hb dX7_readAll_46 rfl (lv_at hl 0 rfl) ?_
        refine fg_7_2 (k := 27) hx hb hts in_X7_readAll_7 hown hK hP (by decide) (by decide) (hts _ lk_X7_readAll_19) dX7_readAll_47 ?_
        refine r_bipush hx hb dX7_readAll_50 (by decide) (fun z11 ez11 => ?_)
        refine r_iconst hx hb dX7_readAll_52 (by decide) (fun z12 ez12 => ?_)
        refine r_iconst hx hb dX7_readAll_53 (by decide) (fun z13 ez13 => ?_)
        refine r_cVi (k := 24) (As := [.int z11, .int z12, .int z13]) (rest := []) ⟨hx, hb, hml, hown, hts⟩ hK hP hN hS (c_X6_add l D cA ad hI σ8 τ8 hR z11 z12 z13 (by omega)) (cwV 3 hts gX7_readAll_X6_add rfl rfl rfl (by decide +kernel) ⟨by decide, by decide⟩) (rv_Sent hK hP (by decide) (by decide)) rfl hl.1 rfl (Nat.le_of_ble_eq_true rfl) dX7_readAll_54 (Nat.zero_le _) (Nat.zero_le _) (fun r14 u14 H14 locs14 hp14 hP hS => ?_)
        obtain ⟨σ14, τ14⟩ := u14
        obtain ⟨hR, f14, fL14, hq14⟩ : P_X6_add σ8 τ8 z11 z12 z13 r14 σ14 τ14 := hp14
        have hP : va_P D vwCl (gw cA ad σ14 τ14) H14 := hP
        obtain rfl := FrL.nil fL14
        have hF := hF.step f14 (by decide)
        refine r_if_ne (tgt := 62) hx hb dX7_readAll_57 (by decide) (fun c15 => ?_) (fun c15 => ?_)
        · refine r_iinc (k := 2) (lv1 := fun z16 => [(2, .int z16), (0, .ref (ad 27)), (1, .int a1)]) hx hb dX7_readAll_62 hl rfl (by decide) (fun _ => rfl) (by decide) (by omega) (fun z16 ls ez16 hl => ?_)
          refine lv_goto (tgt := 12) hx hb dX7_readAll_65 (by decide) ?_
          exact K12 σ14 τ8 H14 locs14 z16 ls hR hF hFL hP hS (by omega) (lv_sub hl [1, 2, 0] rfl) (by omega)
        · refine r_iconst hx hb dX7_readAll_60 (by decide) (fun z17 ez17 => ?_)
          exact r_zret hx hb hr hK hP hS hk (by omega) dX7_readAll_61 (show P_X7_readAll_d3 σ0 τ0 a1 z17 σ14 τ8 from ⟨hR, hF, hFL, by omega⟩)
theorem A_X7_readAll_d3 (p : Program) (l : Launch) (e : Env) (s : State) (m : MethodId) (args : Array Value) (below : List Frame) (meth : Method) (c : Code) (D : va_G) (cA : Nat → ClassId) (ad : Nat → Nat) (σ0 : Nat → Nat → Int32) (τ0 : Nat → Nat → Int64) (a1 : Int32) (C : Cy p s m args meth c cX7_readAll 3 wsX7_readAll RX7 D cA ad (some .boolean)) (ha1 : 3 ≤ a1.toInt ∧ a1.toInt ≤ 3) : ∀ n : Nat, J_X7_readAll_d3_12 p l e s m args below meth c D cA ad σ0 τ0 a1 n := by
  intro n
  induction n with
  | zero =>
    exact (by intro σ τ H locs x2 ls hR hF hFL hP hS hc0 hl hm; exfalso; omega)
  | succ n ih =>
    exact B_X7_readAll_d3_12 p l e s m args below meth c D cA ad σ0 τ0 a1 n C ha1 ih
set_option maxHeartbeats 4000000 in
theorem c_X7_readAll_d3 (l : Launch) (D : va_G) (cA : Nat → ClassId) (ad : Nat → Nat) (hI : Inj ad) (σ0 : Nat → Nat → Int32) (τ0 : Nat → Nat → Int64) (hR : Rg σ0) (a1 : Int32) (ha1 : 3 ≤ a1.toInt ∧ a1.toInt ≤ 3) : Met l yX7_readAll wsX7_readAll ({ frames := 20, cells := 0, slots := 0, locals := 439 } : Room) (WQc D cA ad [.ref (ad 27), .int a1] σ0 τ0) (va_Qi (fun (r : Int32) (u : SS) => P_X7_readAll_d3 σ0 τ0 a1 r u.1 u.2) (WB D cA ad) (AA ad)) 0 0 (AA ad) := by
  refine Met.ofW (cc := cX7_readAll) (maxL := 3) (ret := (some .boolean)) (by decide) rfl ?_
  intro p e s m args below meth c s₁ B hml hv
  obtain ⟨rfl, hP, hK, hN⟩ := hv
  have C : Cy p s m _ meth c cX7_readAll 3 wsX7_readAll RX7 D cA ad (some .boolean) := ⟨B.exec, B.bytes, hml, findClass_of_methodNamed B.named, atoms_spec (ws := wsX7_readAll) B.pre, hK, B.notSynchronized, B.returns, hI, hN⟩
  have hl := lv_entry ([.ref (ad 27), .int a1]) (n := 3) (Nat.le_of_ble_eq_true rfl)
  rw [lg_entry_eq]
  generalize (lg_sl ([.ref (ad 27), .int a1]) ++ List.replicate (3 - (lg_sl ([.ref (ad 27), .int a1])).length) Slot.unset).toArray = ls at hl ⊢
  have hl : lv_has ls 3 [(0, .ref (ad 27)), (1, .int a1)] := hl
  have hS : va_S (AA ad) s.heap s.heap [] := va_S.rf
  have hF : Fr L_X7_readAll_d3 σ0 σ0 := Fr.rf
  have hFL : FrL LL_X7_readAll_d3 τ0 τ0 := FrL.rf
  have hA := A_X7_readAll_d3 p l e s m _ below meth c D cA ad σ0 τ0 a1 C ha1 810
  have K12 := hA
  clear hA
  obtain ⟨hx, hb, _, hown, hts, _, hk, hr, _, _⟩ := C
  refine lv_aload_n hx hb dX7_readAll_0 rfl (lv_at hl 0 rfl) ?_
  refine lv_iload_n hx hb dX7_readAll_1 rfl (lv_at hl 1 rfl) ?_
  refine r_cVi (k := 27) (As := [.int a1]) (rest := []) ⟨hx, hb, hml, hown, hts⟩ hK hP hN hS (c_X7_readOne_d3 l D cA ad hI σ0 τ0 hR a1 (by omega)) (cwV 1 hts gX7_readAll_X7_readOne rfl rfl rfl (by decide +kernel) ⟨by decide, by decide⟩) (rv_SText hK hP (by decide) (by decide)) rfl hl.1 rfl (Nat.le_of_ble_eq_true rfl) dX7_readAll_2 (Nat.zero_le _) (Nat.zero_le _) (fun r1 u1 H1 locs1 hp1 hP hS => ?_)
  obtain ⟨σ1, τ1⟩ := u1
  obtain ⟨hR, f1, fL1, hq1⟩ : P_X7_readOne_d3 σ0 τ0 a1 r1 σ1 τ1 := hp1
  have hP : va_P D vwCl (gw cA ad σ1 τ1) H1 := hP
  have hFL := hFL.step fL1 (by decide)
  have hF := hF.step f1 (by decide)
  refine r_if_ne (tgt := 10) hx hb dX7_readAll_5 (by decide) (fun c2 => ?_) (fun c2 => ?_)
  · refine r_iconst hx hb dX7_readAll_10 (by decide) (fun z3 ez3 => ?_)
    refine lv_istore_n (lv' := [(2, .int z3), (0, .ref (ad 27)), (1, .int a1)]) hx hb dX7_readAll_11 rfl hl (by decide) rfl (fun ls hl => ?_)
    exact K12 σ1 τ1 H1 locs1 z3 ls hR hF hFL hP hS (by omega) (lv_sub hl [1, 2, 0] rfl) (by omega)
  · refine r_iconst hx hb dX7_readAll_8 (by decide) (fun z4 ez4 => ?_)
    exact r_zret hx hb hr hK hP hS hk (by omega) dX7_readAll_9 (show P_X7_readAll_d3 σ0 τ0 a1 z4 σ1 τ1 from ⟨hR, hF, hFL, by omega⟩)
abbrev L_X7_readCond_d3 : List Rc := [(1, 1, 7, 10), (372, 372, 0, 39), (376, 376, 0, 39), (380, 380, 0, 39), (24, 24, 1, 2), (1, 1, 12, 14)]
abbrev LL_X7_readCond_d3 : List Rc := [(1, 1, 11, 11)]
def P_X7_readCond_d3 (σ0 : Nat → Nat → Int32) (τ0 : Nat → Nat → Int64) (a1 : Int32) (r : Int32) (σ : Nat → Nat → Int32) (τ : Nat → Nat → Int64) : Prop := Rg σ ∧ Fr L_X7_readCond_d3 σ0 σ ∧ FrL LL_X7_readCond_d3 τ0 τ ∧ (0 ≤ r.toInt ∧ r.toInt ≤ 1)
def J_X7_readCond_d3_12 (p : Program) (l : Launch) (e : Env) (s : State) (m : MethodId) (args : Array Value) (below : List Frame) (meth : Method) (c : Code) (D : va_G) (cA : Nat → ClassId) (ad : Nat → Nat) (σ0 : Nat → Nat → Int32) (τ0 : Nat → Nat → Int64) (a1 : Int32) (n : Nat) : Prop := ∀ (σ : Nat → Nat → Int32) (τ : Nat → Nat → Int64) (H : Heap) (locs : List Loc) (x2 : Int32) (ls : Array Slot), Rg σ → Fr L_X7_readCond_d3 σ0 σ → FrL LL_X7_readCond_d3 τ0 τ → va_P D vwCl (gw cA ad σ τ) H → va_S (AA ad) s.heap H locs → (0 ≤ x2.toInt ∧ x2.toInt ≤ 200) → lv_has ls 3 [(0, .ref (ad 27)), (1, .int a1), (2, .int x2)] → 2 * (200 - x2.toInt) + 1 < (n : Int) → W p l e ({ frames := 21, cells := 0, slots := 0, locals := 461 } : Room) s m args below meth c H locs 0 0 (MQ below (va_Qi (fun (r : Int32) (u : SS) => P_X7_readCond_d3 σ0 τ0 a1 r u.1 u.2) (WB D cA ad) (AA ad)) args s 0 0 (AA ad)) (F0 m 12 ls [])
set_option maxHeartbeats 4000000 in
theorem B_X7_readCond_d3_12 (p : Program) (l : Launch) (e : Env) (s : State) (m : MethodId) (args : Array Value) (below : List Frame) (meth : Method) (c : Code) (D : va_G) (cA : Nat → ClassId) (ad : Nat → Nat) (σ0 : Nat → Nat → Int32) (τ0 : Nat → Nat → Int64) (a1 : Int32) (n : Nat) (C : Cy p s m args meth c cX7_readCond 3 wsX7_readCond RX7 D cA ad (some .boolean)) (ha1 : 3 ≤ a1.toInt ∧ a1.toInt ≤ 3) (K12 : J_X7_readCond_d3_12 p l e s m args below meth c D cA ad σ0 τ0 a1 n) : J_X7_readCond_d3_12 p l e s m args below meth c D cA ad σ0 τ0 a1 (n + 1) := by
  obtain ⟨hx, hb, hml, hown, hts, hK, hk, hr, hI, hN⟩ := C
  intro σ τ H locs x2 ls hR hF hFL hP hS hc0 hl hm
  refine lv_iload_n hx hb dX7_readCond_12 rfl (lv_at hl 2 rfl) ?_
  refine r_sipush hx hb dX7_readCond_13 (by decide) (fun z1 ez1 => ?_)
  refine r_icmp_ge (tgt := 68) hx hb dX7_readCond_16 (by decide) (fun c2 => ?_) (fun c2 => ?_)
  · refine r_iconst hx hb dX7_readCond_68 (by decide) (fun z3 ez3 => ?_)
    exact r_zret hx hb hr hK hP hS hk (by omega) dX7_readCond_69 (show P_X7_readCond_d3 σ0 τ0 a1 z3 σ τ from ⟨hR, hF, hFL, by omega⟩)
  · refine lv_aload_n hx hb dX7_readCond_19 rfl (lv_at hl 0 rfl) ?_
    refine fg_7_0 (k := 27) hx hb hts in_X7_readCond_7 hown hK hP (by decide) (by decide) (hts _ lk_X7_readCond_9) dX7_readCond_20 ?_
    refine fgN_8_9 (k := 1) hx hb hts in_X7_readCond_8 hown hK hP (by decide) (by decide) (hN.use nw_7_32) dX7_readCond_23 ?_
    refine r_bipush hx hb dX7_readCond_26 (by decide) (fun z4 ez4 => ?_)
    refine r_icmp_ne (tgt := 68) hx hb dX7_readCond_28 (by decide) (fun c5 => ?_) (fun c5 => ?_)
    · refine r_iconst hx hb dX7_readCond_68 (by decide) (fun z6 ez6 => ?_)
      exact r_zret hx hb hr hK hP hS hk (by omega) dX7_readCond_69 (show P_X7_readCond_d3 σ0 τ0 a1 z6 σ τ from ⟨hR, hF, hFL, by omega⟩)
    · refine lv_aload_n hx hb dX7_readCond_31 rfl (lv_at hl 0 rfl) ?_
      refine fg_7_0 (k := 27) hx hb hts in_X7_readCond_7 hown hK hP (by decide) (by decide) (hts _ lk_X7_readCond_9) dX7_readCond_32 ?_
      refine r_cVv (k := 1) (As := []) (rest := []) ⟨hx, hb, hml, hown, hts⟩ hK hP hN hS (c_X8_next l D cA ad hI σ τ hR) (cwV 0 hts gX7_readCond_X8_next rfl rfl rfl (by decide +kernel) ⟨by decide, by decide⟩) (rv_Tape hK hP (by decide) (by decide)) rfl hl.1 rfl (Nat.le_of_ble_eq_true rfl) dX7_readCond_35 (Nat.zero_le _) (Nat.zero_le _) (fun u7 H7 locs7 hp7 hP hS => ?_)
      obtain ⟨σ7, τ7⟩ := u7
      obtain ⟨hR, f7, fL7⟩ : P_X8_next σ τ σ7 τ7 := hp7
      have hP : va_P D vwCl (gw cA ad σ7 τ7) H7 := hP
      have hFL := hFL.step fL7 (by decide)
      have hF := hF.step f7 (by decide)
      refine lv_aload_n hx hb dX7_readCond_38 rfl (lv_at hl 0 rfl) ?_
      refine lv_iload_n hx hb dX7_readCond_39 rfl (lv_at hl 1 rfl) ?_
      refine r_cVi (k := 27) (As := [.int a1]) (rest := []) ⟨hx, hb, hml, hown, hts⟩ hK hP hN hS (c_X7_readAll_d3 l D cA ad hI σ7 τ7 hR a1 (by omega)) (cwV 1 hts gX7_readCond_X7_readAll rfl rfl rfl (by decide +kernel) ⟨by decide, by decide⟩) (rv_SText hK hP (by decide) (by decide)) rfl hl.1 rfl (Nat.le_of_ble_eq_true rfl) dX7_readCond_40 (Nat.zero_le _) (Nat.zero_le _) (fun r8 u8 H8 locs8 hp8 hP hS => ?_)
      obtain ⟨σ8, τ8⟩ := u8
      obtain ⟨hR, f8, fL8, hq8⟩ : P_X7_readAll_d3 σ7 τ7 a1 r8 σ8 τ8 := hp8
      have hP : va_P D vwCl (gw cA ad σ8 τ8) H8 := hP
      have hFL := hFL.step fL8 (by decide)
      have hF := hF.step f8 (by decide)
      refine r_if_eq (tgt := 60) hx hb dX7_readCond_43 (by decide) (fun c9 => ?_) (fun c9 => ?_)
      · refine r_iconst hx hb dX7_readCond_60 (by decide) (fun z10 ez10 => ?_)
        exact r_zret hx hb hr hK hP hS hk (by omega) dX7_readCond_61 (show P_X7_readCond_d3 σ0 τ0 a1 z10 σ8 τ8 from ⟨hR, hF, hFL, by omega⟩)
      · refine lv_aload_n hx hb dX7_readCond_46 rfl (lv_at hl 0 rfl) ?_
        refine fg_7_2 (k := 27) hx hb hts in_X7_readCond_7 hown hK hP (by decide) (by decide) (hts _ lk_X7_readCond_19) dX7_readCond_47 ?_
        refine r_bipush hx hb dX7_readCond_50 (by decide) (fun z11 ez11 => ?_)
        refine r_iconst hx hb dX7_readCond_52 (by decide) (fun z12 ez12 => ?_)
        refine r_iconst hx hb dX7_readCond_53 (by decide) (fun z13 ez13 => ?_)
        refine r_cVi (k := 24) (As := [.int z11, .int z12, .int z13]) (rest := []) ⟨hx, hb, hml, hown, hts⟩ hK hP hN hS (c_X6_add l D cA ad hI σ8 τ8 hR z11 z12 z13 (by omega)) (cwV 3 hts gX7_readCond_X6_add rfl rfl rfl (by decide +kernel) ⟨by decide, by decide⟩) (rv_Sent hK hP (by decide) (by decide)) rfl hl.1 rfl (Nat.le_of_ble_eq_true rfl) dX7_readCond_54 (Nat.zero_le _) (Nat.zero_le _) (fun r14 u14 H14 locs14 hp14 hP hS => ?_)
        obtain ⟨σ14, τ14⟩ := u14
        obtain ⟨hR, f14, fL14, hq14⟩ : P_X6_add σ8 τ8 z11 z12 z13 r14 σ14 τ14 := hp14
        have hP : va_P D vwCl (gw cA ad σ14 τ14) H14 := hP
        obtain rfl := FrL.nil fL14
        have hF := hF.step f14 (by decide)
        refine r_if_ne (tgt := 62) hx hb dX7_readCond_57 (by decide) (fun c15 => ?_) (fun c15 => ?_)
        · refine r_iinc (k := 2) (lv1 := fun z16 => [(2, .int z16), (0, .ref (ad 27)), (1, .int a1)]) hx hb dX7_readCond_62 hl rfl (by decide) (fun _ => rfl) (by decide) (by omega) (fun z16 ls ez16 hl => ?_)
          refine lv_goto (tgt := 12) hx hb dX7_readCond_65 (by decide) ?_
          exact K12 σ14 τ8 H14 locs14 z16 ls hR hF hFL hP hS (by omega) (lv_sub hl [1, 2, 0] rfl) (by omega)
        · refine r_iconst hx hb dX7_readCond_60 (by decide) (fun z17 ez17 => ?_)
          exact r_zret hx hb hr hK hP hS hk (by omega) dX7_readCond_61 (show P_X7_readCond_d3 σ0 τ0 a1 z17 σ14 τ8 from ⟨hR, hF, hFL, by omega⟩)
theorem A_X7_readCond_d3 (p : Program) (l : Launch) (e : Env) (s : State) (m : MethodId) (args : Array Value) (below : List Frame) (meth : Method) (c : Code) (D : va_G) (cA : Nat → ClassId) (ad : Nat → Nat) (σ0 : Nat → Nat → Int32) (τ0 : Nat → Nat → Int64) (a1 : Int32) (C : Cy p s m args meth c cX7_readCond 3 wsX7_readCond RX7 D cA ad (some .boolean)) (ha1 : 3 ≤ a1.toInt ∧ a1.toInt ≤ 3) : ∀ n : Nat, J_X7_readCond_d3_12 p l e s m args below meth c D cA ad σ0 τ0 a1 n := by
  intro n
  induction n with
  | zero =>
    exact (by intro σ τ H locs x2 ls hR hF hFL hP hS hc0 hl hm; exfalso; omega)
  | succ n ih =>
    exact B_X7_readCond_d3_12 p l e s m args below meth c D cA ad σ0 τ0 a1 n C ha1 ih
set_option maxHeartbeats 4000000 in
theorem c_X7_readCond_d3 (l : Launch) (D : va_G) (cA : Nat → ClassId) (ad : Nat → Nat) (hI : Inj ad) (σ0 : Nat → Nat → Int32) (τ0 : Nat → Nat → Int64) (hR : Rg σ0) (a1 : Int32) (ha1 : 3 ≤ a1.toInt ∧ a1.toInt ≤ 3) : Met l yX7_readCond wsX7_readCond ({ frames := 21, cells := 0, slots := 0, locals := 461 } : Room) (WQc D cA ad [.ref (ad 27), .int a1] σ0 τ0) (va_Qi (fun (r : Int32) (u : SS) => P_X7_readCond_d3 σ0 τ0 a1 r u.1 u.2) (WB D cA ad) (AA ad)) 0 0 (AA ad) := by
  refine Met.ofW (cc := cX7_readCond) (maxL := 3) (ret := (some .boolean)) (by decide) rfl ?_
  intro p e s m args below meth c s₁ B hml hv
  obtain ⟨rfl, hP, hK, hN⟩ := hv
  have C : Cy p s m _ meth c cX7_readCond 3 wsX7_readCond RX7 D cA ad (some .boolean) := ⟨B.exec, B.bytes, hml, findClass_of_methodNamed B.named, atoms_spec (ws := wsX7_readCond) B.pre, hK, B.notSynchronized, B.returns, hI, hN⟩
  have hl := lv_entry ([.ref (ad 27), .int a1]) (n := 3) (Nat.le_of_ble_eq_true rfl)
  rw [lg_entry_eq]
  generalize (lg_sl ([.ref (ad 27), .int a1]) ++ List.replicate (3 - (lg_sl ([.ref (ad 27), .int a1])).length) Slot.unset).toArray = ls at hl ⊢
  have hl : lv_has ls 3 [(0, .ref (ad 27)), (1, .int a1)] := hl
  have hS : va_S (AA ad) s.heap s.heap [] := va_S.rf
  have hF : Fr L_X7_readCond_d3 σ0 σ0 := Fr.rf
  have hFL : FrL LL_X7_readCond_d3 τ0 τ0 := FrL.rf
  have hA := A_X7_readCond_d3 p l e s m _ below meth c D cA ad σ0 τ0 a1 C ha1 810
  have K12 := hA
  clear hA
  obtain ⟨hx, hb, _, hown, hts, _, hk, hr, _, _⟩ := C
  refine lv_aload_n hx hb dX7_readCond_0 rfl (lv_at hl 0 rfl) ?_
  refine lv_iload_n hx hb dX7_readCond_1 rfl (lv_at hl 1 rfl) ?_
  refine r_cVi (k := 27) (As := [.int a1]) (rest := []) ⟨hx, hb, hml, hown, hts⟩ hK hP hN hS (c_X7_readAll_d3 l D cA ad hI σ0 τ0 hR a1 (by omega)) (cwV 1 hts gX7_readCond_X7_readAll rfl rfl rfl (by decide +kernel) ⟨by decide, by decide⟩) (rv_SText hK hP (by decide) (by decide)) rfl hl.1 rfl (Nat.le_of_ble_eq_true rfl) dX7_readCond_2 (Nat.zero_le _) (Nat.zero_le _) (fun r1 u1 H1 locs1 hp1 hP hS => ?_)
  obtain ⟨σ1, τ1⟩ := u1
  obtain ⟨hR, f1, fL1, hq1⟩ : P_X7_readAll_d3 σ0 τ0 a1 r1 σ1 τ1 := hp1
  have hP : va_P D vwCl (gw cA ad σ1 τ1) H1 := hP
  have hFL := hFL.step fL1 (by decide)
  have hF := hF.step f1 (by decide)
  refine r_if_ne (tgt := 10) hx hb dX7_readCond_5 (by decide) (fun c2 => ?_) (fun c2 => ?_)
  · refine r_iconst hx hb dX7_readCond_10 (by decide) (fun z3 ez3 => ?_)
    refine lv_istore_n (lv' := [(2, .int z3), (0, .ref (ad 27)), (1, .int a1)]) hx hb dX7_readCond_11 rfl hl (by decide) rfl (fun ls hl => ?_)
    exact K12 σ1 τ1 H1 locs1 z3 ls hR hF hFL hP hS (by omega) (lv_sub hl [1, 2, 0] rfl) (by omega)
  · refine r_iconst hx hb dX7_readCond_8 (by decide) (fun z4 ez4 => ?_)
    exact r_zret hx hb hr hK hP hS hk (by omega) dX7_readCond_9 (show P_X7_readCond_d3 σ0 τ0 a1 z4 σ1 τ1 from ⟨hR, hF, hFL, by omega⟩)
abbrev L_X7_readOne_d2 : List Rc := [(1, 1, 7, 10), (372, 372, 0, 39), (376, 376, 0, 39), (380, 380, 0, 39), (24, 24, 1, 2), (1, 1, 12, 14)]
abbrev LL_X7_readOne_d2 : List Rc := [(1, 1, 11, 11)]
def P_X7_readOne_d2 (σ0 : Nat → Nat → Int32) (τ0 : Nat → Nat → Int64) (a1 : Int32) (r : Int32) (σ : Nat → Nat → Int32) (τ : Nat → Nat → Int64) : Prop := Rg σ ∧ Fr L_X7_readOne_d2 σ0 σ ∧ FrL LL_X7_readOne_d2 τ0 τ ∧ (0 ≤ r.toInt ∧ r.toInt ≤ 1)
set_option maxHeartbeats 4000000 in
theorem c_X7_readOne_d2 (l : Launch) (D : va_G) (cA : Nat → ClassId) (ad : Nat → Nat) (hI : Inj ad) (σ0 : Nat → Nat → Int32) (τ0 : Nat → Nat → Int64) (hR : Rg σ0) (a1 : Int32) (ha1 : 2 ≤ a1.toInt ∧ a1.toInt ≤ 2) : Met l yX7_readOne wsX7_readOne ({ frames := 22, cells := 0, slots := 0, locals := 483 } : Room) (WQc D cA ad [.ref (ad 27), .int a1] σ0 τ0) (va_Qi (fun (r : Int32) (u : SS) => P_X7_readOne_d2 σ0 τ0 a1 r u.1 u.2) (WB D cA ad) (AA ad)) 0 0 (AA ad) := by
  refine Met.ofW (cc := cX7_readOne) (maxL := 3) (ret := (some .boolean)) (by decide) rfl ?_
  intro p e s m args below meth c s₁ B hml hv
  obtain ⟨rfl, hP, hK, hN⟩ := hv
  have C : Cy p s m _ meth c cX7_readOne 3 wsX7_readOne RX7 D cA ad (some .boolean) := ⟨B.exec, B.bytes, hml, findClass_of_methodNamed B.named, atoms_spec (ws := wsX7_readOne) B.pre, hK, B.notSynchronized, B.returns, hI, hN⟩
  have hl := lv_entry ([.ref (ad 27), .int a1]) (n := 3) (Nat.le_of_ble_eq_true rfl)
  rw [lg_entry_eq]
  generalize (lg_sl ([.ref (ad 27), .int a1]) ++ List.replicate (3 - (lg_sl ([.ref (ad 27), .int a1])).length) Slot.unset).toArray = ls at hl ⊢
  have hl : lv_has ls 3 [(0, .ref (ad 27)), (1, .int a1)] := hl
  have hS : va_S (AA ad) s.heap s.heap [] := va_S.rf
  have hF : Fr L_X7_readOne_d2 σ0 σ0 := Fr.rf
  have hFL : FrL LL_X7_readOne_d2 τ0 τ0 := FrL.rf
  obtain ⟨hx, hb, _, hown, hts, _, hk, hr, _, _⟩ := C
  refine lv_aload_n hx hb dX7_readOne_0 rfl (lv_at hl 0 rfl) ?_
  refine fg_7_0 (k := 27) hx hb hts in_X7_readOne_7 hown hK hP (by decide) (by decide) (hts _ lk_X7_readOne_9) dX7_readOne_1 ?_
  refine fgN_8_9 (k := 1) hx hb hts in_X7_readOne_8 hown hK hP (by decide) (by decide) (hN.use nw_7_32) dX7_readOne_4 ?_
  refine lv_istore_n (lv' := [(2, .int (σ0 1 9)), (0, .ref (ad 27)), (1, .int a1)]) hx hb dX7_readOne_7 rfl hl (by decide) rfl (fun ls hl => ?_)
  refine lv_iload_n hx hb dX7_readOne_8 rfl (lv_at hl 0 rfl) ?_
  refine r_cSi (As := [.int (σ0 1 9)]) (rest := []) ⟨hx, hb, hml, hown, hts⟩ hK hP hN hS (c_X7_beginsOne l D cA ad hI σ0 τ0 hR (σ0 1 9)) (va_cwS 1 hts gX7_readOne_X7_beginsOne rfl rfl rfl (by decide +kernel) ⟨by decide, by decide⟩) rfl hl.1 rfl (Nat.le_of_ble_eq_true rfl) dX7_readOne_9 (Nat.zero_le _) (Nat.zero_le _) (fun r1 u1 H1 locs1 hp1 hP hS => ?_)
  obtain ⟨σ1, τ1⟩ := u1
  obtain ⟨hR, f1, fL1, hq1⟩ : P_X7_beginsOne σ0 τ0 (σ0 1 9) r1 σ1 τ1 := hp1
  have hP : va_P D vwCl (gw cA ad σ1 τ1) H1 := hP
  obtain rfl := FrL.nil fL1
  obtain rfl := Fr.nil f1
  refine r_if_ne (tgt := 24) hx hb dX7_readOne_12 (by decide) (fun c2 => ?_) (fun c2 => ?_)
  · refine lv_aload_n hx hb dX7_readOne_24 rfl (lv_at hl 1 rfl) ?_
    refine fg_7_2 (k := 27) hx hb hts in_X7_readOne_7 hown hK hP (by decide) (by decide) (hts _ lk_X7_readOne_19) dX7_readOne_25 ?_
    refine fgN_6_1 (k := 24) hx hb hts in_X7_readOne_6 hown hK hP (by decide) (by decide) (hN.use nw_7_61) dX7_readOne_28 ?_
    have hr3 := rg_6_1 hR (k := 24) (by decide) (by decide)
    refine r_bipush hx hb dX7_readOne_31 (by decide) (fun z4 ez4 => ?_)
    refine r_icmp_ge (tgt := 42) hx hb dX7_readOne_33 (by decide) (fun c5 => ?_) (fun c5 => ?_)
    · refine lv_aload_n hx hb dX7_readOne_42 rfl (lv_at hl 1 rfl) ?_
      refine fg_7_0 (k := 27) hx hb hts in_X7_readOne_7 hown hK hP (by decide) (by decide) (hts _ lk_X7_readOne_9) dX7_readOne_43 ?_
      refine r_iconst hx hb dX7_readOne_46 (by decide) (fun z6 ez6 => ?_)
      refine r_cVi (k := 1) (As := [.int z6]) (rest := []) ⟨hx, hb, hml, hown, hts⟩ hK hP hN hS (c_X8_blame l D cA ad hI σ0 τ0 hR z6 (by omega)) (cwV 1 hts gX7_readOne_X8_blame rfl rfl rfl (by decide +kernel) ⟨by decide, by decide⟩) (rv_Tape hK hP (by decide) (by decide)) rfl hl.1 rfl (Nat.le_of_ble_eq_true rfl) dX7_readOne_47 (Nat.zero_le _) (Nat.zero_le _) (fun r7 u7 H7 locs7 hp7 hP hS => ?_)
      obtain ⟨σ7, τ7⟩ := u7
      obtain ⟨hR, f7, fL7, hq7⟩ : P_X8_blame σ0 τ0 z6 r7 σ7 τ7 := hp7
      have hP : va_P D vwCl (gw cA ad σ7 τ7) H7 := hP
      obtain rfl := FrL.nil fL7
      have hF := hF.step f7 (by decide)
      have t8 : (σ7 24 1).toInt = (σ0 24 1).toInt := congrArg Int32.toInt (f7.at 24 1 (by decide))
      exact r_zret hx hb hr hK hP hS hk (by omega) dX7_readOne_50 (show P_X7_readOne_d2 σ0 τ0 a1 r7 σ7 τ0 from ⟨hR, hF, hFL, by omega⟩)
    · refine lv_iload_n hx hb dX7_readOne_36 rfl (lv_at hl 2 rfl) ?_
      refine r_bipush hx hb dX7_readOne_37 (by decide) (fun z9 ez9 => ?_)
      refine r_icmp_le (tgt := 51) hx hb dX7_readOne_39 (by decide) (fun c10 => ?_) (fun c10 => ?_)
      · refine lv_aload_n hx hb dX7_readOne_51 rfl (lv_at hl 1 rfl) ?_
        refine fg_7_2 (k := 27) hx hb hts in_X7_readOne_7 hown hK hP (by decide) (by decide) (hts _ lk_X7_readOne_19) dX7_readOne_52 ?_
        refine lv_dup hx hb dX7_readOne_55 rfl ?_
        refine fgN_6_1 (k := 24) hx hb hts in_X7_readOne_6 hown hK hP (by decide) (by decide) (hN.use nw_7_61) dX7_readOne_56 ?_
        refine r_iconst hx hb dX7_readOne_59 (by decide) (fun z11 ez11 => ?_)
        refine r_iadd hx hb dX7_readOne_60 (by omega) (fun z12 ez12 => ?_)
        refine fpN_6_1 (k := 24) hx hb hts in_X7_readOne_6 hown hK hP (by decide) (by decide) (hN.use nw_7_61) hI hR hS (by omega) dX7_readOne_61 (fun σ13 H13 locs13 u13 v13 hR hP hS => ?_)
        have hF := hF.puts u13 4 rfl (by decide) (by decide) (by decide) (by decide)
        refine lv_aload_n hx hb dX7_readOne_64 rfl (lv_at hl 1 rfl) ?_
        refine fg_7_0 (k := 27) hx hb hts in_X7_readOne_7 hown hK hP (by decide) (by decide) (hts _ lk_X7_readOne_9) dX7_readOne_65 ?_
        refine r_cVv (k := 1) (As := []) (rest := []) ⟨hx, hb, hml, hown, hts⟩ hK hP hN hS (c_X8_next l D cA ad hI σ13 τ0 hR) (cwV 0 hts gX7_readOne_X8_next rfl rfl rfl (by decide +kernel) ⟨by decide, by decide⟩) (rv_Tape hK hP (by decide) (by decide)) rfl hl.1 rfl (Nat.le_of_ble_eq_true rfl) dX7_readOne_68 (Nat.zero_le _) (Nat.zero_le _) (fun u14 H14 locs14 hp14 hP hS => ?_)
        obtain ⟨σ14, τ14⟩ := u14
        obtain ⟨hR, f14, fL14⟩ : P_X8_next σ13 τ0 σ14 τ14 := hp14
        have hP : va_P D vwCl (gw cA ad σ14 τ14) H14 := hP
        have hFL := hFL.step fL14 (by decide)
        have hF := hF.step f14 (by decide)
        have t15 : (σ14 24 1).toInt = (σ13 24 1).toInt := congrArg Int32.toInt (f14.at 24 1 (by decide))
        refine lv_iload_n hx hb dX7_readOne_71 rfl (lv_at hl 0 rfl) ?_
        by_cases c16 : (σ0 1 9).toInt = 22
        · refine lv_tableIn (off := 108) (tgt := 180) hx hb dX7_readOne_72 (by omega) (by omega) (by rw [c16]; rfl) (by decide) ?_
          refine lv_aload_n hx hb dX7_readOne_180 rfl (lv_at hl 1 rfl) ?_
          refine lv_iload_n hx hb dX7_readOne_181 rfl (lv_at hl 2 rfl) ?_
          refine r_iconst hx hb dX7_readOne_182 (by decide) (fun z17 ez17 => ?_)
          refine r_iadd hx hb dX7_readOne_183 (by omega) (fun z18 ez18 => ?_)
          refine r_cVi (k := 27) (As := [.int z18]) (rest := []) ⟨hx, hb, hml, hown, hts⟩ hK hP hN hS (c_X7_readOne_d3 l D cA ad hI σ14 τ14 hR z18 (by omega)) (cwV 1 hts gX7_readOne_X7_readOne rfl rfl rfl (by decide +kernel) ⟨by decide, by decide⟩) (rv_SText hK hP (by decide) (by decide)) rfl hl.1 rfl (Nat.le_of_ble_eq_true rfl) dX7_readOne_184 (Nat.zero_le _) (Nat.zero_le _) (fun r19 u19 H19 locs19 hp19 hP hS => ?_)
          obtain ⟨σ19, τ19⟩ := u19
          obtain ⟨hR, f19, fL19, hq19⟩ : P_X7_readOne_d3 σ14 τ14 z18 r19 σ19 τ19 := hp19
          have hP : va_P D vwCl (gw cA ad σ19 τ19) H19 := hP
          have hFL := hFL.step fL19 (by decide)
          have hF := hF.step f19 (by decide)
          refine r_if_eq (tgt := 208) hx hb dX7_readOne_187 (by decide) (fun c20 => ?_) (fun c20 => ?_)
          · refine r_iconst hx hb dX7_readOne_208 (by decide) (fun z21 ez21 => ?_)
            exact r_zret hx hb hr hK hP hS hk (by omega) dX7_readOne_209 (show P_X7_readOne_d2 σ0 τ0 a1 z21 σ19 τ19 from ⟨hR, hF, hFL, by omega⟩)
          · refine lv_aload_n hx hb dX7_readOne_190 rfl (lv_at hl 1 rfl) ?_
            refine fg_7_2 (k := 27) hx hb hts in_X7_readOne_7 hown hK hP (by decide) (by decide) (hts _ lk_X7_readOne_19) dX7_readOne_191 ?_
            refine r_bipush hx hb dX7_readOne_194 (by decide) (fun z22 ez22 => ?_)
            refine r_iconst hx hb dX7_readOne_196 (by decide) (fun z23 ez23 => ?_)
            refine r_iconst hx hb dX7_readOne_197 (by decide) (fun z24 ez24 => ?_)
            refine r_cVi (k := 24) (As := [.int z22, .int z23, .int z24]) (rest := []) ⟨hx, hb, hml, hown, hts⟩ hK hP hN hS (c_X6_add l D cA ad hI σ19 τ19 hR z22 z23 z24 (by omega)) (cwV 3 hts gX7_readOne_X6_add rfl rfl rfl (by decide +kernel) ⟨by decide, by decide⟩) (rv_Sent hK hP (by decide) (by decide)) rfl hl.1 rfl (Nat.le_of_ble_eq_true rfl) dX7_readOne_198 (Nat.zero_le _) (Nat.zero_le _) (fun r25 u25 H25 locs25 hp25 hP hS => ?_)
            obtain ⟨σ25, τ25⟩ := u25
            obtain ⟨hR, f25, fL25, hq25⟩ : P_X6_add σ19 τ19 z22 z23 z24 r25 σ25 τ25 := hp25
            have hP : va_P D vwCl (gw cA ad σ25 τ25) H25 := hP
            obtain rfl := FrL.nil fL25
            have hF := hF.step f25 (by decide)
            refine r_if_eq (tgt := 208) hx hb dX7_readOne_201 (by decide) (fun c26 => ?_) (fun c26 => ?_)
            · refine r_iconst hx hb dX7_readOne_208 (by decide) (fun z27 ez27 => ?_)
              exact r_zret hx hb hr hK hP hS hk (by omega) dX7_readOne_209 (show P_X7_readOne_d2 σ0 τ0 a1 z27 σ25 τ19 from ⟨hR, hF, hFL, by omega⟩)
            · refine r_iconst hx hb dX7_readOne_204 (by decide) (fun z28 ez28 => ?_)
              refine lv_goto (tgt := 209) hx hb dX7_readOne_205 (by decide) ?_
              exact r_zret hx hb hr hK hP hS hk (by omega) dX7_readOne_209 (show P_X7_readOne_d2 σ0 τ0 a1 z28 σ25 τ19 from ⟨hR, hF, hFL, by omega⟩)
        by_cases c29 : (σ0 1 9).toInt = 23
        · refine lv_tableIn (off := 177) (tgt := 249) hx hb dX7_readOne_72 (by omega) (by omega) (by rw [c29]; rfl) (by decide) ?_
          refine lv_aload_n hx hb dX7_readOne_249 rfl (lv_at hl 1 rfl) ?_
          refine fg_7_2 (k := 27) hx hb hts in_X7_readOne_7 hown hK hP (by decide) (by decide) (hts _ lk_X7_readOne_19) dX7_readOne_250 ?_
          refine lv_iload_n hx hb dX7_readOne_253 rfl (lv_at hl 0 rfl) ?_
          refine r_bipush hx hb dX7_readOne_254 (by decide) (fun z30 ez30 => ?_)
          refine r_iconst hx hb dX7_readOne_256 (by decide) (fun z31 ez31 => ?_)
          refine r_cVi (k := 24) (As := [.int (σ0 1 9), .int z30, .int z31]) (rest := []) ⟨hx, hb, hml, hown, hts⟩ hK hP hN hS (c_X6_add l D cA ad hI σ14 τ14 hR (σ0 1 9) z30 z31 (by omega)) (cwV 3 hts gX7_readOne_X6_add rfl rfl rfl (by decide +kernel) ⟨by decide, by decide⟩) (rv_Sent hK hP (by decide) (by decide)) rfl hl.1 rfl (Nat.le_of_ble_eq_true rfl) dX7_readOne_257 (Nat.zero_le _) (Nat.zero_le _) (fun r32 u32 H32 locs32 hp32 hP hS => ?_)
          obtain ⟨σ32, τ32⟩ := u32
          obtain ⟨hR, f32, fL32, hq32⟩ : P_X6_add σ14 τ14 (σ0 1 9) z30 z31 r32 σ32 τ32 := hp32
          have hP : va_P D vwCl (gw cA ad σ32 τ32) H32 := hP
          obtain rfl := FrL.nil fL32
          have hF := hF.step f32 (by decide)
          have t33 : (σ32 24 1).toInt = (σ14 24 1).toInt := congrArg Int32.toInt (f32.at 24 1 (by decide))
          exact r_zret hx hb hr hK hP hS hk (by omega) dX7_readOne_260 (show P_X7_readOne_d2 σ0 τ0 a1 r32 σ32 τ14 from ⟨hR, hF, hFL, by omega⟩)
        by_cases c34 : (σ0 1 9).toInt = 24
        · refine lv_tableIn (off := 177) (tgt := 249) hx hb dX7_readOne_72 (by omega) (by omega) (by rw [c34]; rfl) (by decide) ?_
          refine lv_aload_n hx hb dX7_readOne_249 rfl (lv_at hl 1 rfl) ?_
          refine fg_7_2 (k := 27) hx hb hts in_X7_readOne_7 hown hK hP (by decide) (by decide) (hts _ lk_X7_readOne_19) dX7_readOne_250 ?_
          refine lv_iload_n hx hb dX7_readOne_253 rfl (lv_at hl 0 rfl) ?_
          refine r_bipush hx hb dX7_readOne_254 (by decide) (fun z35 ez35 => ?_)
          refine r_iconst hx hb dX7_readOne_256 (by decide) (fun z36 ez36 => ?_)
          refine r_cVi (k := 24) (As := [.int (σ0 1 9), .int z35, .int z36]) (rest := []) ⟨hx, hb, hml, hown, hts⟩ hK hP hN hS (c_X6_add l D cA ad hI σ14 τ14 hR (σ0 1 9) z35 z36 (by omega)) (cwV 3 hts gX7_readOne_X6_add rfl rfl rfl (by decide +kernel) ⟨by decide, by decide⟩) (rv_Sent hK hP (by decide) (by decide)) rfl hl.1 rfl (Nat.le_of_ble_eq_true rfl) dX7_readOne_257 (Nat.zero_le _) (Nat.zero_le _) (fun r37 u37 H37 locs37 hp37 hP hS => ?_)
          obtain ⟨σ37, τ37⟩ := u37
          obtain ⟨hR, f37, fL37, hq37⟩ : P_X6_add σ14 τ14 (σ0 1 9) z35 z36 r37 σ37 τ37 := hp37
          have hP : va_P D vwCl (gw cA ad σ37 τ37) H37 := hP
          obtain rfl := FrL.nil fL37
          have hF := hF.step f37 (by decide)
          have t38 : (σ37 24 1).toInt = (σ14 24 1).toInt := congrArg Int32.toInt (f37.at 24 1 (by decide))
          exact r_zret hx hb hr hK hP hS hk (by omega) dX7_readOne_260 (show P_X7_readOne_d2 σ0 τ0 a1 r37 σ37 τ14 from ⟨hR, hF, hFL, by omega⟩)
        by_cases c39 : (σ0 1 9).toInt = 25
        · refine lv_tableIn (off := 166) (tgt := 238) hx hb dX7_readOne_72 (by omega) (by omega) (by rw [c39]; rfl) (by decide) ?_
          refine lv_aload_n hx hb dX7_readOne_238 rfl (lv_at hl 1 rfl) ?_
          refine r_cVi (k := 27) (As := []) (rest := []) ⟨hx, hb, hml, hown, hts⟩ hK hP hN hS (c_X7_readOn l D cA ad hI σ14 τ14 hR) (cwV 0 hts gX7_readOne_X7_readOn rfl rfl rfl (by decide +kernel) ⟨by decide, by decide⟩) (rv_SText hK hP (by decide) (by decide)) rfl hl.1 rfl (Nat.le_of_ble_eq_true rfl) dX7_readOne_239 (Nat.zero_le _) (Nat.zero_le _) (fun r40 u40 H40 locs40 hp40 hP hS => ?_)
          obtain ⟨σ40, τ40⟩ := u40
          obtain ⟨hR, f40, fL40, hq40⟩ : P_X7_readOn σ14 τ14 r40 σ40 τ40 := hp40
          have hP : va_P D vwCl (gw cA ad σ40 τ40) H40 := hP
          have hFL := hFL.step fL40 (by decide)
          have hF := hF.step f40 (by decide)
          have t41 : (σ40 24 1).toInt = (σ14 24 1).toInt := congrArg Int32.toInt (f40.at 24 1 (by decide))
          exact r_zret hx hb hr hK hP hS hk (by omega) dX7_readOne_242 (show P_X7_readOne_d2 σ0 τ0 a1 r40 σ40 τ40 from ⟨hR, hF, hFL, by omega⟩)
        by_cases c42 : (σ0 1 9).toInt = 26
        · refine lv_tableIn (off := 177) (tgt := 249) hx hb dX7_readOne_72 (by omega) (by omega) (by rw [c42]; rfl) (by decide) ?_
          refine lv_aload_n hx hb dX7_readOne_249 rfl (lv_at hl 1 rfl) ?_
          refine fg_7_2 (k := 27) hx hb hts in_X7_readOne_7 hown hK hP (by decide) (by decide) (hts _ lk_X7_readOne_19) dX7_readOne_250 ?_
          refine lv_iload_n hx hb dX7_readOne_253 rfl (lv_at hl 0 rfl) ?_
          refine r_bipush hx hb dX7_readOne_254 (by decide) (fun z43 ez43 => ?_)
          refine r_iconst hx hb dX7_readOne_256 (by decide) (fun z44 ez44 => ?_)
          refine r_cVi (k := 24) (As := [.int (σ0 1 9), .int z43, .int z44]) (rest := []) ⟨hx, hb, hml, hown, hts⟩ hK hP hN hS (c_X6_add l D cA ad hI σ14 τ14 hR (σ0 1 9) z43 z44 (by omega)) (cwV 3 hts gX7_readOne_X6_add rfl rfl rfl (by decide +kernel) ⟨by decide, by decide⟩) (rv_Sent hK hP (by decide) (by decide)) rfl hl.1 rfl (Nat.le_of_ble_eq_true rfl) dX7_readOne_257 (Nat.zero_le _) (Nat.zero_le _) (fun r45 u45 H45 locs45 hp45 hP hS => ?_)
          obtain ⟨σ45, τ45⟩ := u45
          obtain ⟨hR, f45, fL45, hq45⟩ : P_X6_add σ14 τ14 (σ0 1 9) z43 z44 r45 σ45 τ45 := hp45
          have hP : va_P D vwCl (gw cA ad σ45 τ45) H45 := hP
          obtain rfl := FrL.nil fL45
          have hF := hF.step f45 (by decide)
          have t46 : (σ45 24 1).toInt = (σ14 24 1).toInt := congrArg Int32.toInt (f45.at 24 1 (by decide))
          exact r_zret hx hb hr hK hP hS hk (by omega) dX7_readOne_260 (show P_X7_readOne_d2 σ0 τ0 a1 r45 σ45 τ14 from ⟨hR, hF, hFL, by omega⟩)
        by_cases c47 : (σ0 1 9).toInt = 27
        · refine lv_tableIn (off := 171) (tgt := 243) hx hb dX7_readOne_72 (by omega) (by omega) (by rw [c47]; rfl) (by decide) ?_
          refine lv_aload_n hx hb dX7_readOne_243 rfl (lv_at hl 1 rfl) ?_
          refine lv_iload_n hx hb dX7_readOne_244 rfl (lv_at hl 0 rfl) ?_
          refine r_cVi (k := 27) (As := [.int (σ0 1 9)]) (rest := []) ⟨hx, hb, hml, hown, hts⟩ hK hP hN hS (c_X7_readMeasure l D cA ad hI σ14 τ14 hR (σ0 1 9) (by omega)) (cwV 1 hts gX7_readOne_X7_readMeasure rfl rfl rfl (by decide +kernel) ⟨by decide, by decide⟩) (rv_SText hK hP (by decide) (by decide)) rfl hl.1 rfl (Nat.le_of_ble_eq_true rfl) dX7_readOne_245 (Nat.zero_le _) (Nat.zero_le _) (fun r48 u48 H48 locs48 hp48 hP hS => ?_)
          obtain ⟨σ48, τ48⟩ := u48
          obtain ⟨hR, f48, fL48, hq48⟩ : P_X7_readMeasure σ14 τ14 (σ0 1 9) r48 σ48 τ48 := hp48
          have hP : va_P D vwCl (gw cA ad σ48 τ48) H48 := hP
          have hFL := hFL.step fL48 (by decide)
          have hF := hF.step f48 (by decide)
          have t49 : (σ48 24 1).toInt = (σ14 24 1).toInt := congrArg Int32.toInt (f48.at 24 1 (by decide))
          exact r_zret hx hb hr hK hP hS hk (by omega) dX7_readOne_248 (show P_X7_readOne_d2 σ0 τ0 a1 r48 σ48 τ48 from ⟨hR, hF, hFL, by omega⟩)
        by_cases c50 : (σ0 1 9).toInt = 28
        · refine lv_tableIn (off := 171) (tgt := 243) hx hb dX7_readOne_72 (by omega) (by omega) (by rw [c50]; rfl) (by decide) ?_
          refine lv_aload_n hx hb dX7_readOne_243 rfl (lv_at hl 1 rfl) ?_
          refine lv_iload_n hx hb dX7_readOne_244 rfl (lv_at hl 0 rfl) ?_
          refine r_cVi (k := 27) (As := [.int (σ0 1 9)]) (rest := []) ⟨hx, hb, hml, hown, hts⟩ hK hP hN hS (c_X7_readMeasure l D cA ad hI σ14 τ14 hR (σ0 1 9) (by omega)) (cwV 1 hts gX7_readOne_X7_readMeasure rfl rfl rfl (by decide +kernel) ⟨by decide, by decide⟩) (rv_SText hK hP (by decide) (by decide)) rfl hl.1 rfl (Nat.le_of_ble_eq_true rfl) dX7_readOne_245 (Nat.zero_le _) (Nat.zero_le _) (fun r51 u51 H51 locs51 hp51 hP hS => ?_)
          obtain ⟨σ51, τ51⟩ := u51
          obtain ⟨hR, f51, fL51, hq51⟩ : P_X7_readMeasure σ14 τ14 (σ0 1 9) r51 σ51 τ51 := hp51
          have hP : va_P D vwCl (gw cA ad σ51 τ51) H51 := hP
          have hFL := hFL.step fL51 (by decide)
          have hF := hF.step f51 (by decide)
          have t52 : (σ51 24 1).toInt = (σ14 24 1).toInt := congrArg Int32.toInt (f51.at 24 1 (by decide))
          exact r_zret hx hb hr hK hP hS hk (by omega) dX7_readOne_248 (show P_X7_readOne_d2 σ0 τ0 a1 r51 σ51 τ51 from ⟨hR, hF, hFL, by omega⟩)
        by_cases c53 : (σ0 1 9).toInt = 29
        · refine lv_tableIn (off := 171) (tgt := 243) hx hb dX7_readOne_72 (by omega) (by omega) (by rw [c53]; rfl) (by decide) ?_
          refine lv_aload_n hx hb dX7_readOne_243 rfl (lv_at hl 1 rfl) ?_
          refine lv_iload_n hx hb dX7_readOne_244 rfl (lv_at hl 0 rfl) ?_
          refine r_cVi (k := 27) (As := [.int (σ0 1 9)]) (rest := []) ⟨hx, hb, hml, hown, hts⟩ hK hP hN hS (c_X7_readMeasure l D cA ad hI σ14 τ14 hR (σ0 1 9) (by omega)) (cwV 1 hts gX7_readOne_X7_readMeasure rfl rfl rfl (by decide +kernel) ⟨by decide, by decide⟩) (rv_SText hK hP (by decide) (by decide)) rfl hl.1 rfl (Nat.le_of_ble_eq_true rfl) dX7_readOne_245 (Nat.zero_le _) (Nat.zero_le _) (fun r54 u54 H54 locs54 hp54 hP hS => ?_)
          obtain ⟨σ54, τ54⟩ := u54
          obtain ⟨hR, f54, fL54, hq54⟩ : P_X7_readMeasure σ14 τ14 (σ0 1 9) r54 σ54 τ54 := hp54
          have hP : va_P D vwCl (gw cA ad σ54 τ54) H54 := hP
          have hFL := hFL.step fL54 (by decide)
          have hF := hF.step f54 (by decide)
          have t55 : (σ54 24 1).toInt = (σ14 24 1).toInt := congrArg Int32.toInt (f54.at 24 1 (by decide))
          exact r_zret hx hb hr hK hP hS hk (by omega) dX7_readOne_248 (show P_X7_readOne_d2 σ0 τ0 a1 r54 σ54 τ54 from ⟨hR, hF, hFL, by omega⟩)
        by_cases c56 : (σ0 1 9).toInt = 30
        · refine lv_tableIn (off := 171) (tgt := 243) hx hb dX7_readOne_72 (by omega) (by omega) (by rw [c56]; rfl) (by decide) ?_
          refine lv_aload_n hx hb dX7_readOne_243 rfl (lv_at hl 1 rfl) ?_
          refine lv_iload_n hx hb dX7_readOne_244 rfl (lv_at hl 0 rfl) ?_
          refine r_cVi (k := 27) (As := [.int (σ0 1 9)]) (rest := []) ⟨hx, hb, hml, hown, hts⟩ hK hP hN hS (c_X7_readMeasure l D cA ad hI σ14 τ14 hR (σ0 1 9) (by omega)) (cwV 1 hts gX7_readOne_X7_readMeasure rfl rfl rfl (by decide +kernel) ⟨by decide, by decide⟩) (rv_SText hK hP (by decide) (by decide)) rfl hl.1 rfl (Nat.le_of_ble_eq_true rfl) dX7_readOne_245 (Nat.zero_le _) (Nat.zero_le _) (fun r57 u57 H57 locs57 hp57 hP hS => ?_)
          obtain ⟨σ57, τ57⟩ := u57
          obtain ⟨hR, f57, fL57, hq57⟩ : P_X7_readMeasure σ14 τ14 (σ0 1 9) r57 σ57 τ57 := hp57
          have hP : va_P D vwCl (gw cA ad σ57 τ57) H57 := hP
          have hFL := hFL.step fL57 (by decide)
          have hF := hF.step f57 (by decide)
          have t58 : (σ57 24 1).toInt = (σ14 24 1).toInt := congrArg Int32.toInt (f57.at 24 1 (by decide))
          exact r_zret hx hb hr hK hP hS hk (by omega) dX7_readOne_248 (show P_X7_readOne_d2 σ0 τ0 a1 r57 σ57 τ57 from ⟨hR, hF, hFL, by omega⟩)
        by_cases c59 : (σ0 1 9).toInt = 31
        · refine lv_tableIn (off := 177) (tgt := 249) hx hb dX7_readOne_72 (by omega) (by omega) (by rw [c59]; rfl) (by decide) ?_
          refine lv_aload_n hx hb dX7_readOne_249 rfl (lv_at hl 1 rfl) ?_
          refine fg_7_2 (k := 27) hx hb hts in_X7_readOne_7 hown hK hP (by decide) (by decide) (hts _ lk_X7_readOne_19) dX7_readOne_250 ?_
          refine lv_iload_n hx hb dX7_readOne_253 rfl (lv_at hl 0 rfl) ?_
          refine r_bipush hx hb dX7_readOne_254 (by decide) (fun z60 ez60 => ?_)
          refine r_iconst hx hb dX7_readOne_256 (by decide) (fun z61 ez61 => ?_)
          refine r_cVi (k := 24) (As := [.int (σ0 1 9), .int z60, .int z61]) (rest := []) ⟨hx, hb, hml, hown, hts⟩ hK hP hN hS (c_X6_add l D cA ad hI σ14 τ14 hR (σ0 1 9) z60 z61 (by omega)) (cwV 3 hts gX7_readOne_X6_add rfl rfl rfl (by decide +kernel) ⟨by decide, by decide⟩) (rv_Sent hK hP (by decide) (by decide)) rfl hl.1 rfl (Nat.le_of_ble_eq_true rfl) dX7_readOne_257 (Nat.zero_le _) (Nat.zero_le _) (fun r62 u62 H62 locs62 hp62 hP hS => ?_)
          obtain ⟨σ62, τ62⟩ := u62
          obtain ⟨hR, f62, fL62, hq62⟩ : P_X6_add σ14 τ14 (σ0 1 9) z60 z61 r62 σ62 τ62 := hp62
          have hP : va_P D vwCl (gw cA ad σ62 τ62) H62 := hP
          obtain rfl := FrL.nil fL62
          have hF := hF.step f62 (by decide)
          have t63 : (σ62 24 1).toInt = (σ14 24 1).toInt := congrArg Int32.toInt (f62.at 24 1 (by decide))
          exact r_zret hx hb hr hK hP hS hk (by omega) dX7_readOne_260 (show P_X7_readOne_d2 σ0 τ0 a1 r62 σ62 τ14 from ⟨hR, hF, hFL, by omega⟩)
        by_cases c64 : (σ0 1 9).toInt = 32
        · refine lv_tableIn (off := 177) (tgt := 249) hx hb dX7_readOne_72 (by omega) (by omega) (by rw [c64]; rfl) (by decide) ?_
          refine lv_aload_n hx hb dX7_readOne_249 rfl (lv_at hl 1 rfl) ?_
          refine fg_7_2 (k := 27) hx hb hts in_X7_readOne_7 hown hK hP (by decide) (by decide) (hts _ lk_X7_readOne_19) dX7_readOne_250 ?_
          refine lv_iload_n hx hb dX7_readOne_253 rfl (lv_at hl 0 rfl) ?_
          refine r_bipush hx hb dX7_readOne_254 (by decide) (fun z65 ez65 => ?_)
          refine r_iconst hx hb dX7_readOne_256 (by decide) (fun z66 ez66 => ?_)
          refine r_cVi (k := 24) (As := [.int (σ0 1 9), .int z65, .int z66]) (rest := []) ⟨hx, hb, hml, hown, hts⟩ hK hP hN hS (c_X6_add l D cA ad hI σ14 τ14 hR (σ0 1 9) z65 z66 (by omega)) (cwV 3 hts gX7_readOne_X6_add rfl rfl rfl (by decide +kernel) ⟨by decide, by decide⟩) (rv_Sent hK hP (by decide) (by decide)) rfl hl.1 rfl (Nat.le_of_ble_eq_true rfl) dX7_readOne_257 (Nat.zero_le _) (Nat.zero_le _) (fun r67 u67 H67 locs67 hp67 hP hS => ?_)
          obtain ⟨σ67, τ67⟩ := u67
          obtain ⟨hR, f67, fL67, hq67⟩ : P_X6_add σ14 τ14 (σ0 1 9) z65 z66 r67 σ67 τ67 := hp67
          have hP : va_P D vwCl (gw cA ad σ67 τ67) H67 := hP
          obtain rfl := FrL.nil fL67
          have hF := hF.step f67 (by decide)
          have t68 : (σ67 24 1).toInt = (σ14 24 1).toInt := congrArg Int32.toInt (f67.at 24 1 (by decide))
          exact r_zret hx hb hr hK hP hS hk (by omega) dX7_readOne_260 (show P_X7_readOne_d2 σ0 τ0 a1 r67 σ67 τ14 from ⟨hR, hF, hFL, by omega⟩)
        by_cases c69 : (σ0 1 9).toInt = 33
        · refine lv_tableIn (off := 177) (tgt := 249) hx hb dX7_readOne_72 (by omega) (by omega) (by rw [c69]; rfl) (by decide) ?_
          refine lv_aload_n hx hb dX7_readOne_249 rfl (lv_at hl 1 rfl) ?_
          refine fg_7_2 (k := 27) hx hb hts in_X7_readOne_7 hown hK hP (by decide) (by decide) (hts _ lk_X7_readOne_19) dX7_readOne_250 ?_
          refine lv_iload_n hx hb dX7_readOne_253 rfl (lv_at hl 0 rfl) ?_
          refine r_bipush hx hb dX7_readOne_254 (by decide) (fun z70 ez70 => ?_)
          refine r_iconst hx hb dX7_readOne_256 (by decide) (fun z71 ez71 => ?_)
          refine r_cVi (k := 24) (As := [.int (σ0 1 9), .int z70, .int z71]) (rest := []) ⟨hx, hb, hml, hown, hts⟩ hK hP hN hS (c_X6_add l D cA ad hI σ14 τ14 hR (σ0 1 9) z70 z71 (by omega)) (cwV 3 hts gX7_readOne_X6_add rfl rfl rfl (by decide +kernel) ⟨by decide, by decide⟩) (rv_Sent hK hP (by decide) (by decide)) rfl hl.1 rfl (Nat.le_of_ble_eq_true rfl) dX7_readOne_257 (Nat.zero_le _) (Nat.zero_le _) (fun r72 u72 H72 locs72 hp72 hP hS => ?_)
          obtain ⟨σ72, τ72⟩ := u72
          obtain ⟨hR, f72, fL72, hq72⟩ : P_X6_add σ14 τ14 (σ0 1 9) z70 z71 r72 σ72 τ72 := hp72
          have hP : va_P D vwCl (gw cA ad σ72 τ72) H72 := hP
          obtain rfl := FrL.nil fL72
          have hF := hF.step f72 (by decide)
          have t73 : (σ72 24 1).toInt = (σ14 24 1).toInt := congrArg Int32.toInt (f72.at 24 1 (by decide))
          exact r_zret hx hb hr hK hP hS hk (by omega) dX7_readOne_260 (show P_X7_readOne_d2 σ0 τ0 a1 r72 σ72 τ14 from ⟨hR, hF, hFL, by omega⟩)
        by_cases c74 : (σ0 1 9).toInt = 34
        · refine lv_tableIn (off := 177) (tgt := 249) hx hb dX7_readOne_72 (by omega) (by omega) (by rw [c74]; rfl) (by decide) ?_
          refine lv_aload_n hx hb dX7_readOne_249 rfl (lv_at hl 1 rfl) ?_
          refine fg_7_2 (k := 27) hx hb hts in_X7_readOne_7 hown hK hP (by decide) (by decide) (hts _ lk_X7_readOne_19) dX7_readOne_250 ?_
          refine lv_iload_n hx hb dX7_readOne_253 rfl (lv_at hl 0 rfl) ?_
          refine r_bipush hx hb dX7_readOne_254 (by decide) (fun z75 ez75 => ?_)
          refine r_iconst hx hb dX7_readOne_256 (by decide) (fun z76 ez76 => ?_)
          refine r_cVi (k := 24) (As := [.int (σ0 1 9), .int z75, .int z76]) (rest := []) ⟨hx, hb, hml, hown, hts⟩ hK hP hN hS (c_X6_add l D cA ad hI σ14 τ14 hR (σ0 1 9) z75 z76 (by omega)) (cwV 3 hts gX7_readOne_X6_add rfl rfl rfl (by decide +kernel) ⟨by decide, by decide⟩) (rv_Sent hK hP (by decide) (by decide)) rfl hl.1 rfl (Nat.le_of_ble_eq_true rfl) dX7_readOne_257 (Nat.zero_le _) (Nat.zero_le _) (fun r77 u77 H77 locs77 hp77 hP hS => ?_)
          obtain ⟨σ77, τ77⟩ := u77
          obtain ⟨hR, f77, fL77, hq77⟩ : P_X6_add σ14 τ14 (σ0 1 9) z75 z76 r77 σ77 τ77 := hp77
          have hP : va_P D vwCl (gw cA ad σ77 τ77) H77 := hP
          obtain rfl := FrL.nil fL77
          have hF := hF.step f77 (by decide)
          have t78 : (σ77 24 1).toInt = (σ14 24 1).toInt := congrArg Int32.toInt (f77.at 24 1 (by decide))
          exact r_zret hx hb hr hK hP hS hk (by omega) dX7_readOne_260 (show P_X7_readOne_d2 σ0 τ0 a1 r77 σ77 τ14 from ⟨hR, hF, hFL, by omega⟩)
        by_cases c79 : (σ0 1 9).toInt = 35
        · refine lv_tableIn (off := 177) (tgt := 249) hx hb dX7_readOne_72 (by omega) (by omega) (by rw [c79]; rfl) (by decide) ?_
          refine lv_aload_n hx hb dX7_readOne_249 rfl (lv_at hl 1 rfl) ?_
          refine fg_7_2 (k := 27) hx hb hts in_X7_readOne_7 hown hK hP (by decide) (by decide) (hts _ lk_X7_readOne_19) dX7_readOne_250 ?_
          refine lv_iload_n hx hb dX7_readOne_253 rfl (lv_at hl 0 rfl) ?_
          refine r_bipush hx hb dX7_readOne_254 (by decide) (fun z80 ez80 => ?_)
          refine r_iconst hx hb dX7_readOne_256 (by decide) (fun z81 ez81 => ?_)
          refine r_cVi (k := 24) (As := [.int (σ0 1 9), .int z80, .int z81]) (rest := []) ⟨hx, hb, hml, hown, hts⟩ hK hP hN hS (c_X6_add l D cA ad hI σ14 τ14 hR (σ0 1 9) z80 z81 (by omega)) (cwV 3 hts gX7_readOne_X6_add rfl rfl rfl (by decide +kernel) ⟨by decide, by decide⟩) (rv_Sent hK hP (by decide) (by decide)) rfl hl.1 rfl (Nat.le_of_ble_eq_true rfl) dX7_readOne_257 (Nat.zero_le _) (Nat.zero_le _) (fun r82 u82 H82 locs82 hp82 hP hS => ?_)
          obtain ⟨σ82, τ82⟩ := u82
          obtain ⟨hR, f82, fL82, hq82⟩ : P_X6_add σ14 τ14 (σ0 1 9) z80 z81 r82 σ82 τ82 := hp82
          have hP : va_P D vwCl (gw cA ad σ82 τ82) H82 := hP
          obtain rfl := FrL.nil fL82
          have hF := hF.step f82 (by decide)
          have t83 : (σ82 24 1).toInt = (σ14 24 1).toInt := congrArg Int32.toInt (f82.at 24 1 (by decide))
          exact r_zret hx hb hr hK hP hS hk (by omega) dX7_readOne_260 (show P_X7_readOne_d2 σ0 τ0 a1 r82 σ82 τ14 from ⟨hR, hF, hFL, by omega⟩)
        by_cases c84 : (σ0 1 9).toInt = 36
        · refine lv_tableIn (off := 177) (tgt := 249) hx hb dX7_readOne_72 (by omega) (by omega) (by rw [c84]; rfl) (by decide) ?_
          refine lv_aload_n hx hb dX7_readOne_249 rfl (lv_at hl 1 rfl) ?_
          refine fg_7_2 (k := 27) hx hb hts in_X7_readOne_7 hown hK hP (by decide) (by decide) (hts _ lk_X7_readOne_19) dX7_readOne_250 ?_
          refine lv_iload_n hx hb dX7_readOne_253 rfl (lv_at hl 0 rfl) ?_
          refine r_bipush hx hb dX7_readOne_254 (by decide) (fun z85 ez85 => ?_)
          refine r_iconst hx hb dX7_readOne_256 (by decide) (fun z86 ez86 => ?_)
          refine r_cVi (k := 24) (As := [.int (σ0 1 9), .int z85, .int z86]) (rest := []) ⟨hx, hb, hml, hown, hts⟩ hK hP hN hS (c_X6_add l D cA ad hI σ14 τ14 hR (σ0 1 9) z85 z86 (by omega)) (cwV 3 hts gX7_readOne_X6_add rfl rfl rfl (by decide +kernel) ⟨by decide, by decide⟩) (rv_Sent hK hP (by decide) (by decide)) rfl hl.1 rfl (Nat.le_of_ble_eq_true rfl) dX7_readOne_257 (Nat.zero_le _) (Nat.zero_le _) (fun r87 u87 H87 locs87 hp87 hP hS => ?_)
          obtain ⟨σ87, τ87⟩ := u87
          obtain ⟨hR, f87, fL87, hq87⟩ : P_X6_add σ14 τ14 (σ0 1 9) z85 z86 r87 σ87 τ87 := hp87
          have hP : va_P D vwCl (gw cA ad σ87 τ87) H87 := hP
          obtain rfl := FrL.nil fL87
          have hF := hF.step f87 (by decide)
          have t88 : (σ87 24 1).toInt = (σ14 24 1).toInt := congrArg Int32.toInt (f87.at 24 1 (by decide))
          exact r_zret hx hb hr hK hP hS hk (by omega) dX7_readOne_260 (show P_X7_readOne_d2 σ0 τ0 a1 r87 σ87 τ14 from ⟨hR, hF, hFL, by omega⟩)
        by_cases c89 : (σ0 1 9).toInt = 37
        · refine lv_tableIn (off := 177) (tgt := 249) hx hb dX7_readOne_72 (by omega) (by omega) (by rw [c89]; rfl) (by decide) ?_
          refine lv_aload_n hx hb dX7_readOne_249 rfl (lv_at hl 1 rfl) ?_
          refine fg_7_2 (k := 27) hx hb hts in_X7_readOne_7 hown hK hP (by decide) (by decide) (hts _ lk_X7_readOne_19) dX7_readOne_250 ?_
          refine lv_iload_n hx hb dX7_readOne_253 rfl (lv_at hl 0 rfl) ?_
          refine r_bipush hx hb dX7_readOne_254 (by decide) (fun z90 ez90 => ?_)
          refine r_iconst hx hb dX7_readOne_256 (by decide) (fun z91 ez91 => ?_)
          refine r_cVi (k := 24) (As := [.int (σ0 1 9), .int z90, .int z91]) (rest := []) ⟨hx, hb, hml, hown, hts⟩ hK hP hN hS (c_X6_add l D cA ad hI σ14 τ14 hR (σ0 1 9) z90 z91 (by omega)) (cwV 3 hts gX7_readOne_X6_add rfl rfl rfl (by decide +kernel) ⟨by decide, by decide⟩) (rv_Sent hK hP (by decide) (by decide)) rfl hl.1 rfl (Nat.le_of_ble_eq_true rfl) dX7_readOne_257 (Nat.zero_le _) (Nat.zero_le _) (fun r92 u92 H92 locs92 hp92 hP hS => ?_)
          obtain ⟨σ92, τ92⟩ := u92
          obtain ⟨hR, f92, fL92, hq92⟩ : P_X6_add σ14 τ14 (σ0 1 9) z90 z91 r92 σ92 τ92 := hp92
          have hP : va_P D vwCl (gw cA ad σ92 τ92) H92 := hP
          obtain rfl := FrL.nil fL92
          have hF := hF.step f92 (by decide)
          have t93 : (σ92 24 1).toInt = (σ14 24 1).toInt := congrArg Int32.toInt (f92.at 24 1 (by decide))
          exact r_zret hx hb hr hK hP hS hk (by omega) dX7_readOne_260 (show P_X7_readOne_d2 σ0 τ0 a1 r92 σ92 τ14 from ⟨hR, hF, hFL, by omega⟩)
        by_cases c94 : (σ0 1 9).toInt = 38
        · refine lv_tableIn (off := 177) (tgt := 249) hx hb dX7_readOne_72 (by omega) (by omega) (by rw [c94]; rfl) (by decide) ?_
          refine lv_aload_n hx hb dX7_readOne_249 rfl (lv_at hl 1 rfl) ?_
          refine fg_7_2 (k := 27) hx hb hts in_X7_readOne_7 hown hK hP (by decide) (by decide) (hts _ lk_X7_readOne_19) dX7_readOne_250 ?_
          refine lv_iload_n hx hb dX7_readOne_253 rfl (lv_at hl 0 rfl) ?_
          refine r_bipush hx hb dX7_readOne_254 (by decide) (fun z95 ez95 => ?_)
          refine r_iconst hx hb dX7_readOne_256 (by decide) (fun z96 ez96 => ?_)
          refine r_cVi (k := 24) (As := [.int (σ0 1 9), .int z95, .int z96]) (rest := []) ⟨hx, hb, hml, hown, hts⟩ hK hP hN hS (c_X6_add l D cA ad hI σ14 τ14 hR (σ0 1 9) z95 z96 (by omega)) (cwV 3 hts gX7_readOne_X6_add rfl rfl rfl (by decide +kernel) ⟨by decide, by decide⟩) (rv_Sent hK hP (by decide) (by decide)) rfl hl.1 rfl (Nat.le_of_ble_eq_true rfl) dX7_readOne_257 (Nat.zero_le _) (Nat.zero_le _) (fun r97 u97 H97 locs97 hp97 hP hS => ?_)
          obtain ⟨σ97, τ97⟩ := u97
          obtain ⟨hR, f97, fL97, hq97⟩ : P_X6_add σ14 τ14 (σ0 1 9) z95 z96 r97 σ97 τ97 := hp97
          have hP : va_P D vwCl (gw cA ad σ97 τ97) H97 := hP
          obtain rfl := FrL.nil fL97
          have hF := hF.step f97 (by decide)
          have t98 : (σ97 24 1).toInt = (σ14 24 1).toInt := congrArg Int32.toInt (f97.at 24 1 (by decide))
          exact r_zret hx hb hr hK hP hS hk (by omega) dX7_readOne_260 (show P_X7_readOne_d2 σ0 τ0 a1 r97 σ97 τ14 from ⟨hR, hF, hFL, by omega⟩)
        by_cases c99 : (σ0 1 9).toInt = 39
        · refine lv_tableIn (off := 177) (tgt := 249) hx hb dX7_readOne_72 (by omega) (by omega) (by rw [c99]; rfl) (by decide) ?_
          refine lv_aload_n hx hb dX7_readOne_249 rfl (lv_at hl 1 rfl) ?_
          refine fg_7_2 (k := 27) hx hb hts in_X7_readOne_7 hown hK hP (by decide) (by decide) (hts _ lk_X7_readOne_19) dX7_readOne_250 ?_
          refine lv_iload_n hx hb dX7_readOne_253 rfl (lv_at hl 0 rfl) ?_
          refine r_bipush hx hb dX7_readOne_254 (by decide) (fun z100 ez100 => ?_)
          refine r_iconst hx hb dX7_readOne_256 (by decide) (fun z101 ez101 => ?_)
          refine r_cVi (k := 24) (As := [.int (σ0 1 9), .int z100, .int z101]) (rest := []) ⟨hx, hb, hml, hown, hts⟩ hK hP hN hS (c_X6_add l D cA ad hI σ14 τ14 hR (σ0 1 9) z100 z101 (by omega)) (cwV 3 hts gX7_readOne_X6_add rfl rfl rfl (by decide +kernel) ⟨by decide, by decide⟩) (rv_Sent hK hP (by decide) (by decide)) rfl hl.1 rfl (Nat.le_of_ble_eq_true rfl) dX7_readOne_257 (Nat.zero_le _) (Nat.zero_le _) (fun r102 u102 H102 locs102 hp102 hP hS => ?_)
          obtain ⟨σ102, τ102⟩ := u102
          obtain ⟨hR, f102, fL102, hq102⟩ : P_X6_add σ14 τ14 (σ0 1 9) z100 z101 r102 σ102 τ102 := hp102
          have hP : va_P D vwCl (gw cA ad σ102 τ102) H102 := hP
          obtain rfl := FrL.nil fL102
          have hF := hF.step f102 (by decide)
          have t103 : (σ102 24 1).toInt = (σ14 24 1).toInt := congrArg Int32.toInt (f102.at 24 1 (by decide))
          exact r_zret hx hb hr hK hP hS hk (by omega) dX7_readOne_260 (show P_X7_readOne_d2 σ0 τ0 a1 r102 σ102 τ14 from ⟨hR, hF, hFL, by omega⟩)
        by_cases c104 : (σ0 1 9).toInt = 40
        · refine lv_tableIn (off := 177) (tgt := 249) hx hb dX7_readOne_72 (by omega) (by omega) (by rw [c104]; rfl) (by decide) ?_
          refine lv_aload_n hx hb dX7_readOne_249 rfl (lv_at hl 1 rfl) ?_
          refine fg_7_2 (k := 27) hx hb hts in_X7_readOne_7 hown hK hP (by decide) (by decide) (hts _ lk_X7_readOne_19) dX7_readOne_250 ?_
          refine lv_iload_n hx hb dX7_readOne_253 rfl (lv_at hl 0 rfl) ?_
          refine r_bipush hx hb dX7_readOne_254 (by decide) (fun z105 ez105 => ?_)
          refine r_iconst hx hb dX7_readOne_256 (by decide) (fun z106 ez106 => ?_)
          refine r_cVi (k := 24) (As := [.int (σ0 1 9), .int z105, .int z106]) (rest := []) ⟨hx, hb, hml, hown, hts⟩ hK hP hN hS (c_X6_add l D cA ad hI σ14 τ14 hR (σ0 1 9) z105 z106 (by omega)) (cwV 3 hts gX7_readOne_X6_add rfl rfl rfl (by decide +kernel) ⟨by decide, by decide⟩) (rv_Sent hK hP (by decide) (by decide)) rfl hl.1 rfl (Nat.le_of_ble_eq_true rfl) dX7_readOne_257 (Nat.zero_le _) (Nat.zero_le _) (fun r107 u107 H107 locs107 hp107 hP hS => ?_)
          obtain ⟨σ107, τ107⟩ := u107
          obtain ⟨hR, f107, fL107, hq107⟩ : P_X6_add σ14 τ14 (σ0 1 9) z105 z106 r107 σ107 τ107 := hp107
          have hP : va_P D vwCl (gw cA ad σ107 τ107) H107 := hP
          obtain rfl := FrL.nil fL107
          have hF := hF.step f107 (by decide)
          have t108 : (σ107 24 1).toInt = (σ14 24 1).toInt := congrArg Int32.toInt (f107.at 24 1 (by decide))
          exact r_zret hx hb hr hK hP hS hk (by omega) dX7_readOne_260 (show P_X7_readOne_d2 σ0 τ0 a1 r107 σ107 τ14 from ⟨hR, hF, hFL, by omega⟩)
        by_cases c109 : (σ0 1 9).toInt = 41
        · refine lv_tableIn (off := 177) (tgt := 249) hx hb dX7_readOne_72 (by omega) (by omega) (by rw [c109]; rfl) (by decide) ?_
          refine lv_aload_n hx hb dX7_readOne_249 rfl (lv_at hl 1 rfl) ?_
          refine fg_7_2 (k := 27) hx hb hts in_X7_readOne_7 hown hK hP (by decide) (by decide) (hts _ lk_X7_readOne_19) dX7_readOne_250 ?_
          refine lv_iload_n hx hb dX7_readOne_253 rfl (lv_at hl 0 rfl) ?_
          refine r_bipush hx hb dX7_readOne_254 (by decide) (fun z110 ez110 => ?_)
          refine r_iconst hx hb dX7_readOne_256 (by decide) (fun z111 ez111 => ?_)
          refine r_cVi (k := 24) (As := [.int (σ0 1 9), .int z110, .int z111]) (rest := []) ⟨hx, hb, hml, hown, hts⟩ hK hP hN hS (c_X6_add l D cA ad hI σ14 τ14 hR (σ0 1 9) z110 z111 (by omega)) (cwV 3 hts gX7_readOne_X6_add rfl rfl rfl (by decide +kernel) ⟨by decide, by decide⟩) (rv_Sent hK hP (by decide) (by decide)) rfl hl.1 rfl (Nat.le_of_ble_eq_true rfl) dX7_readOne_257 (Nat.zero_le _) (Nat.zero_le _) (fun r112 u112 H112 locs112 hp112 hP hS => ?_)
          obtain ⟨σ112, τ112⟩ := u112
          obtain ⟨hR, f112, fL112, hq112⟩ : P_X6_add σ14 τ14 (σ0 1 9) z110 z111 r112 σ112 τ112 := hp112
          have hP : va_P D vwCl (gw cA ad σ112 τ112) H112 := hP
          obtain rfl := FrL.nil fL112
          have hF := hF.step f112 (by decide)
          have t113 : (σ112 24 1).toInt = (σ14 24 1).toInt := congrArg Int32.toInt (f112.at 24 1 (by decide))
          exact r_zret hx hb hr hK hP hS hk (by omega) dX7_readOne_260 (show P_X7_readOne_d2 σ0 τ0 a1 r112 σ112 τ14 from ⟨hR, hF, hFL, by omega⟩)
        by_cases c114 : (σ0 1 9).toInt = 42
        · refine lv_tableIn (off := 177) (tgt := 249) hx hb dX7_readOne_72 (by omega) (by omega) (by rw [c114]; rfl) (by decide) ?_
          refine lv_aload_n hx hb dX7_readOne_249 rfl (lv_at hl 1 rfl) ?_
          refine fg_7_2 (k := 27) hx hb hts in_X7_readOne_7 hown hK hP (by decide) (by decide) (hts _ lk_X7_readOne_19) dX7_readOne_250 ?_
          refine lv_iload_n hx hb dX7_readOne_253 rfl (lv_at hl 0 rfl) ?_
          refine r_bipush hx hb dX7_readOne_254 (by decide) (fun z115 ez115 => ?_)
          refine r_iconst hx hb dX7_readOne_256 (by decide) (fun z116 ez116 => ?_)
          refine r_cVi (k := 24) (As := [.int (σ0 1 9), .int z115, .int z116]) (rest := []) ⟨hx, hb, hml, hown, hts⟩ hK hP hN hS (c_X6_add l D cA ad hI σ14 τ14 hR (σ0 1 9) z115 z116 (by omega)) (cwV 3 hts gX7_readOne_X6_add rfl rfl rfl (by decide +kernel) ⟨by decide, by decide⟩) (rv_Sent hK hP (by decide) (by decide)) rfl hl.1 rfl (Nat.le_of_ble_eq_true rfl) dX7_readOne_257 (Nat.zero_le _) (Nat.zero_le _) (fun r117 u117 H117 locs117 hp117 hP hS => ?_)
          obtain ⟨σ117, τ117⟩ := u117
          obtain ⟨hR, f117, fL117, hq117⟩ : P_X6_add σ14 τ14 (σ0 1 9) z115 z116 r117 σ117 τ117 := hp117
          have hP : va_P D vwCl (gw cA ad σ117 τ117) H117 := hP
          obtain rfl := FrL.nil fL117
          have hF := hF.step f117 (by decide)
          have t118 : (σ117 24 1).toInt = (σ14 24 1).toInt := congrArg Int32.toInt (f117.at 24 1 (by decide))
          exact r_zret hx hb hr hK hP hS hk (by omega) dX7_readOne_260 (show P_X7_readOne_d2 σ0 τ0 a1 r117 σ117 τ14 from ⟨hR, hF, hFL, by omega⟩)
        by_cases c119 : (σ0 1 9).toInt = 43
        · refine lv_tableIn (off := 177) (tgt := 249) hx hb dX7_readOne_72 (by omega) (by omega) (by rw [c119]; rfl) (by decide) ?_
          refine lv_aload_n hx hb dX7_readOne_249 rfl (lv_at hl 1 rfl) ?_
          refine fg_7_2 (k := 27) hx hb hts in_X7_readOne_7 hown hK hP (by decide) (by decide) (hts _ lk_X7_readOne_19) dX7_readOne_250 ?_
          refine lv_iload_n hx hb dX7_readOne_253 rfl (lv_at hl 0 rfl) ?_
          refine r_bipush hx hb dX7_readOne_254 (by decide) (fun z120 ez120 => ?_)
          refine r_iconst hx hb dX7_readOne_256 (by decide) (fun z121 ez121 => ?_)
          refine r_cVi (k := 24) (As := [.int (σ0 1 9), .int z120, .int z121]) (rest := []) ⟨hx, hb, hml, hown, hts⟩ hK hP hN hS (c_X6_add l D cA ad hI σ14 τ14 hR (σ0 1 9) z120 z121 (by omega)) (cwV 3 hts gX7_readOne_X6_add rfl rfl rfl (by decide +kernel) ⟨by decide, by decide⟩) (rv_Sent hK hP (by decide) (by decide)) rfl hl.1 rfl (Nat.le_of_ble_eq_true rfl) dX7_readOne_257 (Nat.zero_le _) (Nat.zero_le _) (fun r122 u122 H122 locs122 hp122 hP hS => ?_)
          obtain ⟨σ122, τ122⟩ := u122
          obtain ⟨hR, f122, fL122, hq122⟩ : P_X6_add σ14 τ14 (σ0 1 9) z120 z121 r122 σ122 τ122 := hp122
          have hP : va_P D vwCl (gw cA ad σ122 τ122) H122 := hP
          obtain rfl := FrL.nil fL122
          have hF := hF.step f122 (by decide)
          have t123 : (σ122 24 1).toInt = (σ14 24 1).toInt := congrArg Int32.toInt (f122.at 24 1 (by decide))
          exact r_zret hx hb hr hK hP hS hk (by omega) dX7_readOne_260 (show P_X7_readOne_d2 σ0 τ0 a1 r122 σ122 τ14 from ⟨hR, hF, hFL, by omega⟩)
        by_cases c124 : (σ0 1 9).toInt = 44
        · refine lv_tableIn (off := 138) (tgt := 210) hx hb dX7_readOne_72 (by omega) (by omega) (by rw [c124]; rfl) (by decide) ?_
          refine lv_aload_n hx hb dX7_readOne_210 rfl (lv_at hl 1 rfl) ?_
          refine lv_iload_n hx hb dX7_readOne_211 rfl (lv_at hl 2 rfl) ?_
          refine r_iconst hx hb dX7_readOne_212 (by decide) (fun z125 ez125 => ?_)
          refine r_iadd hx hb dX7_readOne_213 (by omega) (fun z126 ez126 => ?_)
          refine r_cVi (k := 27) (As := [.int z126]) (rest := []) ⟨hx, hb, hml, hown, hts⟩ hK hP hN hS (c_X7_readCond_d3 l D cA ad hI σ14 τ14 hR z126 (by omega)) (cwV 1 hts gX7_readOne_X7_readCond rfl rfl rfl (by decide +kernel) ⟨by decide, by decide⟩) (rv_SText hK hP (by decide) (by decide)) rfl hl.1 rfl (Nat.le_of_ble_eq_true rfl) dX7_readOne_214 (Nat.zero_le _) (Nat.zero_le _) (fun r127 u127 H127 locs127 hp127 hP hS => ?_)
          obtain ⟨σ127, τ127⟩ := u127
          obtain ⟨hR, f127, fL127, hq127⟩ : P_X7_readCond_d3 σ14 τ14 z126 r127 σ127 τ127 := hp127
          have hP : va_P D vwCl (gw cA ad σ127 τ127) H127 := hP
          have hFL := hFL.step fL127 (by decide)
          have hF := hF.step f127 (by decide)
          refine r_if_eq (tgt := 236) hx hb dX7_readOne_217 (by decide) (fun c128 => ?_) (fun c128 => ?_)
          · refine r_iconst hx hb dX7_readOne_236 (by decide) (fun z129 ez129 => ?_)
            exact r_zret hx hb hr hK hP hS hk (by omega) dX7_readOne_237 (show P_X7_readOne_d2 σ0 τ0 a1 z129 σ127 τ127 from ⟨hR, hF, hFL, by omega⟩)
          · refine lv_aload_n hx hb dX7_readOne_220 rfl (lv_at hl 1 rfl) ?_
            refine fg_7_0 (k := 27) hx hb hts in_X7_readOne_7 hown hK hP (by decide) (by decide) (hts _ lk_X7_readOne_9) dX7_readOne_221 ?_
            refine r_bipush hx hb dX7_readOne_224 (by decide) (fun z130 ez130 => ?_)
            refine r_cVi (k := 1) (As := [.int z130]) (rest := []) ⟨hx, hb, hml, hown, hts⟩ hK hP hN hS (c_X8_take l D cA ad hI σ127 τ127 hR z130 (by omega)) (cwV 1 hts gX7_readOne_X8_take rfl rfl rfl (by decide +kernel) ⟨by decide, by decide⟩) (rv_Tape hK hP (by decide) (by decide)) rfl hl.1 rfl (Nat.le_of_ble_eq_true rfl) dX7_readOne_226 (Nat.zero_le _) (Nat.zero_le _) (fun r131 u131 H131 locs131 hp131 hP hS => ?_)
            obtain ⟨σ131, τ131⟩ := u131
            obtain ⟨hR, f131, fL131, hq131⟩ : P_X8_take σ127 τ127 z130 r131 σ131 τ131 := hp131
            have hP : va_P D vwCl (gw cA ad σ131 τ131) H131 := hP
            have hFL := hFL.step fL131 (by decide)
            have hF := hF.step f131 (by decide)
            refine r_if_eq (tgt := 236) hx hb dX7_readOne_229 (by decide) (fun c132 => ?_) (fun c132 => ?_)
            · refine r_iconst hx hb dX7_readOne_236 (by decide) (fun z133 ez133 => ?_)
              exact r_zret hx hb hr hK hP hS hk (by omega) dX7_readOne_237 (show P_X7_readOne_d2 σ0 τ0 a1 z133 σ131 τ131 from ⟨hR, hF, hFL, by omega⟩)
            · refine r_iconst hx hb dX7_readOne_232 (by decide) (fun z134 ez134 => ?_)
              refine lv_goto (tgt := 237) hx hb dX7_readOne_233 (by decide) ?_
              exact r_zret hx hb hr hK hP hS hk (by omega) dX7_readOne_237 (show P_X7_readOne_d2 σ0 τ0 a1 z134 σ131 τ131 from ⟨hR, hF, hFL, by omega⟩)
        refine lv_tableOut (tgt := 249) hx hb dX7_readOne_72 (by omega) (by decide) ?_
        refine lv_aload_n hx hb dX7_readOne_249 rfl (lv_at hl 1 rfl) ?_
        refine fg_7_2 (k := 27) hx hb hts in_X7_readOne_7 hown hK hP (by decide) (by decide) (hts _ lk_X7_readOne_19) dX7_readOne_250 ?_
        refine lv_iload_n hx hb dX7_readOne_253 rfl (lv_at hl 0 rfl) ?_
        refine r_bipush hx hb dX7_readOne_254 (by decide) (fun z135 ez135 => ?_)
        refine r_iconst hx hb dX7_readOne_256 (by decide) (fun z136 ez136 => ?_)
        refine r_cVi (k := 24) (As := [.int (σ0 1 9), .int z135, .int z136]) (rest := []) ⟨hx, hb, hml, hown, hts⟩ hK hP hN hS (c_X6_add l D cA ad hI σ14 τ14 hR (σ0 1 9) z135 z136 (by omega)) (cwV 3 hts gX7_readOne_X6_add rfl rfl rfl (by decide +kernel) ⟨by decide, by decide⟩) (rv_Sent hK hP (by decide) (by decide)) rfl hl.1 rfl (Nat.le_of_ble_eq_true rfl) dX7_readOne_257 (Nat.zero_le _) (Nat.zero_le _) (fun r137 u137 H137 locs137 hp137 hP hS => ?_)
        obtain ⟨σ137, τ137⟩ := u137
        obtain ⟨hR, f137, fL137, hq137⟩ : P_X6_add σ14 τ14 (σ0 1 9) z135 z136 r137 σ137 τ137 := hp137
        have hP : va_P D vwCl (gw cA ad σ137 τ137) H137 := hP
        obtain rfl := FrL.nil fL137
        have hF := hF.step f137 (by decide)
        have t138 : (σ137 24 1).toInt = (σ14 24 1).toInt := congrArg Int32.toInt (f137.at 24 1 (by decide))
        exact r_zret hx hb hr hK hP hS hk (by omega) dX7_readOne_260 (show P_X7_readOne_d2 σ0 τ0 a1 r137 σ137 τ14 from ⟨hR, hF, hFL, by omega⟩)
      · exfalso; omega
  · refine lv_aload_n hx hb dX7_readOne_15 rfl (lv_at hl 1 rfl) ?_
    refine fg_7_0 (k := 27) hx hb hts in_X7_readOne_7 hown hK hP (by decide) (by decide) (hts _ lk_X7_readOne_9) dX7_readOne_16 ?_
    refine r_iconst hx hb dX7_readOne_19 (by decide) (fun z139 ez139 => ?_)
    refine r_cVi (k := 1) (As := [.int z139]) (rest := []) ⟨hx, hb, hml, hown, hts⟩ hK hP hN hS (c_X8_blame l D cA ad hI σ0 τ0 hR z139 (by omega)) (cwV 1 hts gX7_readOne_X8_blame rfl rfl rfl (by decide +kernel) ⟨by decide, by decide⟩) (rv_Tape hK hP (by decide) (by decide)) rfl hl.1 rfl (Nat.le_of_ble_eq_true rfl) dX7_readOne_20 (Nat.zero_le _) (Nat.zero_le _) (fun r140 u140 H140 locs140 hp140 hP hS => ?_)
    obtain ⟨σ140, τ140⟩ := u140
    obtain ⟨hR, f140, fL140, hq140⟩ : P_X8_blame σ0 τ0 z139 r140 σ140 τ140 := hp140
    have hP : va_P D vwCl (gw cA ad σ140 τ140) H140 := hP
    obtain rfl := FrL.nil fL140
    have hF := hF.step f140 (by decide)
    exact r_zret hx hb hr hK hP hS hk (by omega) dX7_readOne_23 (show P_X7_readOne_d2 σ0 τ0 a1 r140 σ140 τ0 from ⟨hR, hF, hFL, by omega⟩)
abbrev L_X7_readAll_d2 : List Rc := [(1, 1, 7, 10), (372, 372, 0, 39), (376, 376, 0, 39), (380, 380, 0, 39), (24, 24, 1, 2), (1, 1, 12, 14)]
abbrev LL_X7_readAll_d2 : List Rc := [(1, 1, 11, 11)]
def P_X7_readAll_d2 (σ0 : Nat → Nat → Int32) (τ0 : Nat → Nat → Int64) (a1 : Int32) (r : Int32) (σ : Nat → Nat → Int32) (τ : Nat → Nat → Int64) : Prop := Rg σ ∧ Fr L_X7_readAll_d2 σ0 σ ∧ FrL LL_X7_readAll_d2 τ0 τ ∧ (0 ≤ r.toInt ∧ r.toInt ≤ 1)
def J_X7_readAll_d2_12 (p : Program) (l : Launch) (e : Env) (s : State) (m : MethodId) (args : Array Value) (below : List Frame) (meth : Method) (c : Code) (D : va_G) (cA : Nat → ClassId) (ad : Nat → Nat) (σ0 : Nat → Nat → Int32) (τ0 : Nat → Nat → Int64) (a1 : Int32) (n : Nat) : Prop := ∀ (σ : Nat → Nat → Int32) (τ : Nat → Nat → Int64) (H : Heap) (locs : List Loc) (x2 : Int32) (ls : Array Slot), Rg σ → Fr L_X7_readAll_d2 σ0 σ → FrL LL_X7_readAll_d2 τ0 τ → va_P D vwCl (gw cA ad σ τ) H → va_S (AA ad) s.heap H locs → (0 ≤ x2.toInt ∧ x2.toInt ≤ 200) → lv_has ls 3 [(0, .ref (ad 27)), (1, .int a1), (2, .int x2)] → 2 * (200 - x2.toInt) + 1 < (n : Int) → W p l e ({ frames := 23, cells := 0, slots := 0, locals := 505 } : Room) s m args below meth c H locs 0 0 (MQ below (va_Qi (fun (r : Int32) (u : SS) => P_X7_readAll_d2 σ0 τ0 a1 r u.1 u.2) (WB D cA ad) (AA ad)) args s 0 0 (AA ad)) (F0 m 12 ls [])
set_option maxHeartbeats 4000000 in
theorem B_X7_readAll_d2_12 (p : Program) (l : Launch) (e : Env) (s : State) (m : MethodId) (args : Array Value) (below : List Frame) (meth : Method) (c : Code) (D : va_G) (cA : Nat → ClassId) (ad : Nat → Nat) (σ0 : Nat → Nat → Int32) (τ0 : Nat → Nat → Int64) (a1 : Int32) (n : Nat) (C : Cy p s m args meth c cX7_readAll 3 wsX7_readAll RX7 D cA ad (some .boolean)) (ha1 : 2 ≤ a1.toInt ∧ a1.toInt ≤ 2) (K12 : J_X7_readAll_d2_12 p l e s m args below meth c D cA ad σ0 τ0 a1 n) : J_X7_readAll_d2_12 p l e s m args below meth c D cA ad σ0 τ0 a1 (n + 1) := by
  obtain ⟨hx, hb, hml, hown, hts, hK, hk, hr, hI, hN⟩ := C
  intro σ τ H locs x2 ls hR hF hFL hP hS hc0 hl hm
  refine lv_iload_n hx hb dX7_readAll_12 rfl (lv_at hl 2 rfl) ?_
  refine r_sipush hx hb dX7_readAll_13 (by decide) (fun z1 ez1 => ?_)
  refine r_icmp_ge (tgt := 68) hx hb dX7_readAll_16 (by decide) (fun c2 => ?_) (fun c2 => ?_)
  · refine r_iconst hx hb dX7_readAll_68 (by decide) (fun z3 ez3 => ?_)
    exact r_zret hx hb hr hK hP hS hk (by omega) dX7_readAll_69 (show P_X7_readAll_d2 σ0 τ0 a1 z3 σ τ from ⟨hR, hF, hFL, by omega⟩)
  · refine lv_aload_n hx hb dX7_readAll_19 rfl (lv_at hl 0 rfl) ?_
    refine fg_7_0 (k := 27) hx hb hts in_X7_readAll_7 hown hK hP (by decide) (by decide) (hts _ lk_X7_readAll_9) dX7_readAll_20 ?_
    refine fgN_8_9 (k := 1) hx hb hts in_X7_readAll_8 hown hK hP (by decide) (by decide) (hN.use nw_7_32) dX7_readAll_23 ?_
    refine r_bipush hx hb dX7_readAll_26 (by decide) (fun z4 ez4 => ?_)
    refine r_icmp_ne (tgt := 68) hx hb dX7_readAll_28 (by decide) (fun c5 => ?_) (fun c5 => ?_)
    · refine r_iconst hx hb dX7_readAll_68 (by decide) (fun z6 ez6 => ?_)
      exact r_zret hx hb hr hK hP hS hk (by omega) dX7_readAll_69 (show P_X7_readAll_d2 σ0 τ0 a1 z6 σ τ from ⟨hR, hF, hFL, by omega⟩)
    · refine lv_aload_n hx hb dX7_readAll_31 rfl (lv_at hl 0 rfl) ?_
      refine fg_7_0 (k := 27) hx hb hts in_X7_readAll_7 hown hK hP (by decide) (by decide) (hts _ lk_X7_readAll_9) dX7_readAll_32 ?_
      refine r_cVv (k := 1) (As := []) (rest := []) ⟨hx, hb, hml, hown, hts⟩ hK hP hN hS (c_X8_next l D cA ad hI σ τ hR) (cwV 0 hts gX7_readAll_X8_next rfl rfl rfl (by decide +kernel) ⟨by decide, by decide⟩) (rv_Tape hK hP (by decide) (by decide)) rfl hl.1 rfl (Nat.le_of_ble_eq_true rfl) dX7_readAll_35 (Nat.zero_le _) (Nat.zero_le _) (fun u7 H7 locs7 hp7 hP hS => ?_)
      obtain ⟨σ7, τ7⟩ := u7
      obtain ⟨hR, f7, fL7⟩ : P_X8_next σ τ σ7 τ7 := hp7
      have hP : va_P D vwCl (gw cA ad σ7 τ7) H7 := hP
      have hFL := hFL.step fL7 (by decide)
      have hF := hF.step f7 (by decide)
      refine lv_aload_n hx hb dX7_readAll_38 rfl (lv_at hl 0 rfl) ?_
      refine lv_iload_n hx hb dX7_readAll_39 rfl (lv_at hl 1 rfl) ?_
      refine r_cVi (k := 27) (As := [.int a1]) (rest := []) ⟨hx, hb, hml, hown, hts⟩ hK hP hN hS (c_X7_readOne_d2 l D cA ad hI σ7 τ7 hR a1 (by omega)) (cwV 1 hts gX7_readAll_X7_readOne rfl rfl rfl (by decide +kernel) ⟨by decide, by decide⟩) (rv_SText hK hP (by decide) (by decide)) rfl hl.1 rfl (Nat.le_of_ble_eq_true rfl) dX7_readAll_40 (Nat.zero_le _) (Nat.zero_le _) (fun r8 u8 H8 locs8 hp8 hP hS => ?_)
      obtain ⟨σ8, τ8⟩ := u8
      obtain ⟨hR, f8, fL8, hq8⟩ : P_X7_readOne_d2 σ7 τ7 a1 r8 σ8 τ8 := hp8
      have hP : va_P D vwCl (gw cA ad σ8 τ8) H8 := hP
      have hFL := hFL.step fL8 (by decide)
      have hF := hF.step f8 (by decide)
      refine r_if_eq (tgt := 60) hx hb dX7_readAll_43 (by decide) (fun c9 => ?_) (fun c9 => ?_)
      · refine r_iconst hx hb dX7_readAll_60 (by decide) (fun z10 ez10 => ?_)
        exact r_zret hx hb hr hK hP hS hk (by omega) dX7_readAll_61 (show P_X7_readAll_d2 σ0 τ0 a1 z10 σ8 τ8 from ⟨hR, hF, hFL, by omega⟩)
      · refine lv_aload_n hx hb dX7_readAll_46 rfl (lv_at hl 0 rfl) ?_
        refine fg_7_2 (k := 27) hx hb hts in_X7_readAll_7 hown hK hP (by decide) (by decide) (hts _ lk_X7_readAll_19) dX7_readAll_47 ?_
        refine r_bipush hx hb dX7_readAll_50 (by decide) (fun z11 ez11 => ?_)
        refine r_iconst hx hb dX7_readAll_52 (by decide) (fun z12 ez12 => ?_)
        refine r_iconst hx hb dX7_readAll_53 (by decide) (fun z13 ez13 => ?_)
        refine r_cVi (k := 24) (As := [.int z11, .int z12, .int z13]) (rest := []) ⟨hx, hb, hml, hown, hts⟩ hK hP hN hS (c_X6_add l D cA ad hI σ8 τ8 hR z11 z12 z13 (by omega)) (cwV 3 hts gX7_readAll_X6_add rfl rfl rfl (by decide +kernel) ⟨by decide, by decide⟩) (rv_Sent hK hP (by decide) (by decide)) rfl hl.1 rfl (Nat.le_of_ble_eq_true rfl) dX7_readAll_54 (Nat.zero_le _) (Nat.zero_le _) (fun r14 u14 H14 locs14 hp14 hP hS => ?_)
        obtain ⟨σ14, τ14⟩ := u14
        obtain ⟨hR, f14, fL14, hq14⟩ : P_X6_add σ8 τ8 z11 z12 z13 r14 σ14 τ14 := hp14
        have hP : va_P D vwCl (gw cA ad σ14 τ14) H14 := hP
        obtain rfl := FrL.nil fL14
        have hF := hF.step f14 (by decide)
        refine r_if_ne (tgt := 62) hx hb dX7_readAll_57 (by decide) (fun c15 => ?_) (fun c15 => ?_)
        · refine r_iinc (k := 2) (lv1 := fun z16 => [(2, .int z16), (0, .ref (ad 27)), (1, .int a1)]) hx hb dX7_readAll_62 hl rfl (by decide) (fun _ => rfl) (by decide) (by omega) (fun z16 ls ez16 hl => ?_)
          refine lv_goto (tgt := 12) hx hb dX7_readAll_65 (by decide) ?_
          exact K12 σ14 τ8 H14 locs14 z16 ls hR hF hFL hP hS (by omega) (lv_sub hl [1, 2, 0] rfl) (by omega)
        · refine r_iconst hx hb dX7_readAll_60 (by decide) (fun z17 ez17 => ?_)
          exact r_zret hx hb hr hK hP hS hk (by omega) dX7_readAll_61 (show P_X7_readAll_d2 σ0 τ0 a1 z17 σ14 τ8 from ⟨hR, hF, hFL, by omega⟩)
theorem A_X7_readAll_d2 (p : Program) (l : Launch) (e : Env) (s : State) (m : MethodId) (args : Array Value) (below : List Frame) (meth : Method) (c : Code) (D : va_G) (cA : Nat → ClassId) (ad : Nat → Nat) (σ0 : Nat → Nat → Int32) (τ0 : Nat → Nat → Int64) (a1 : Int32) (C : Cy p s m args meth c cX7_readAll 3 wsX7_readAll RX7 D cA ad (some .boolean)) (ha1 : 2 ≤ a1.toInt ∧ a1.toInt ≤ 2) : ∀ n : Nat, J_X7_readAll_d2_12 p l e s m args below meth c D cA ad σ0 τ0 a1 n := by
  intro n
  induction n with
  | zero =>
    exact (by intro σ τ H locs x2 ls hR hF hFL hP hS hc0 hl hm; exfalso; omega)
  | succ n ih =>
    exact B_X7_readAll_d2_12 p l e s m args below meth c D cA ad σ0 τ0 a1 n C ha1 ih
set_option maxHeartbeats 4000000 in
theorem c_X7_readAll_d2 (l : Launch) (D : va_G) (cA : Nat → ClassId) (ad : Nat → Nat) (hI : Inj ad) (σ0 : Nat → Nat → Int32) (τ0 : Nat → Nat → Int64) (hR : Rg σ0) (a1 : Int32) (ha1 : 2 ≤ a1.toInt ∧ a1.toInt ≤ 2) : Met l yX7_readAll wsX7_readAll ({ frames := 23, cells := 0, slots := 0, locals := 505 } : Room) (WQc D cA ad [.ref (ad 27), .int a1] σ0 τ0) (va_Qi (fun (r : Int32) (u : SS) => P_X7_readAll_d2 σ0 τ0 a1 r u.1 u.2) (WB D cA ad) (AA ad)) 0 0 (AA ad) := by
  refine Met.ofW (cc := cX7_readAll) (maxL := 3) (ret := (some .boolean)) (by decide) rfl ?_
  intro p e s m args below meth c s₁ B hml hv
  obtain ⟨rfl, hP, hK, hN⟩ := hv
  have C : Cy p s m _ meth c cX7_readAll 3 wsX7_readAll RX7 D cA ad (some .boolean) := ⟨B.exec, B.bytes, hml, findClass_of_methodNamed B.named, atoms_spec (ws := wsX7_readAll) B.pre, hK, B.notSynchronized, B.returns, hI, hN⟩
  have hl := lv_entry ([.ref (ad 27), .int a1]) (n := 3) (Nat.le_of_ble_eq_true rfl)
  rw [lg_entry_eq]
  generalize (lg_sl ([.ref (ad 27), .int a1]) ++ List.replicate (3 - (lg_sl ([.ref (ad 27), .int a1])).length) Slot.unset).toArray = ls at hl ⊢
  have hl : lv_has ls 3 [(0, .ref (ad 27)), (1, .int a1)] := hl
  have hS : va_S (AA ad) s.heap s.heap [] := va_S.rf
  have hF : Fr L_X7_readAll_d2 σ0 σ0 := Fr.rf
  have hFL : FrL LL_X7_readAll_d2 τ0 τ0 := FrL.rf
  have hA := A_X7_readAll_d2 p l e s m _ below meth c D cA ad σ0 τ0 a1 C ha1 810
  have K12 := hA
  clear hA
  obtain ⟨hx, hb, _, hown, hts, _, hk, hr, _, _⟩ := C
  refine lv_aload_n hx hb dX7_readAll_0 rfl (lv_at hl 0 rfl) ?_
  refine lv_iload_n hx hb dX7_readAll_1 rfl (lv_at hl 1 rfl) ?_
  refine r_cVi (k := 27) (As := [.int a1]) (rest := []) ⟨hx, hb, hml, hown, hts⟩ hK hP hN hS (c_X7_readOne_d2 l D cA ad hI σ0 τ0 hR a1 (by omega)) (cwV 1 hts gX7_readAll_X7_readOne rfl rfl rfl (by decide +kernel) ⟨by decide, by decide⟩) (rv_SText hK hP (by decide) (by decide)) rfl hl.1 rfl (Nat.le_of_ble_eq_true rfl) dX7_readAll_2 (Nat.zero_le _) (Nat.zero_le _) (fun r1 u1 H1 locs1 hp1 hP hS => ?_)
  obtain ⟨σ1, τ1⟩ := u1
  obtain ⟨hR, f1, fL1, hq1⟩ : P_X7_readOne_d2 σ0 τ0 a1 r1 σ1 τ1 := hp1
  have hP : va_P D vwCl (gw cA ad σ1 τ1) H1 := hP
  have hFL := hFL.step fL1 (by decide)
  have hF := hF.step f1 (by decide)
  refine r_if_ne (tgt := 10) hx hb dX7_readAll_5 (by decide) (fun c2 => ?_) (fun c2 => ?_)
  · refine r_iconst hx hb dX7_readAll_10 (by decide) (fun z3 ez3 => ?_)
    refine lv_istore_n (lv' := [(2, .int z3), (0, .ref (ad 27)), (1, .int a1)]) hx hb dX7_readAll_11 rfl hl (by decide) rfl (fun ls hl => ?_)
    exact K12 σ1 τ1 H1 locs1 z3 ls hR hF hFL hP hS (by omega) (lv_sub hl [1, 2, 0] rfl) (by omega)
  · refine r_iconst hx hb dX7_readAll_8 (by decide) (fun z4 ez4 => ?_)
    exact r_zret hx hb hr hK hP hS hk (by omega) dX7_readAll_9 (show P_X7_readAll_d2 σ0 τ0 a1 z4 σ1 τ1 from ⟨hR, hF, hFL, by omega⟩)
abbrev L_X7_readCond_d2 : List Rc := [(1, 1, 7, 10), (372, 372, 0, 39), (376, 376, 0, 39), (380, 380, 0, 39), (24, 24, 1, 2), (1, 1, 12, 14)]
abbrev LL_X7_readCond_d2 : List Rc := [(1, 1, 11, 11)]
def P_X7_readCond_d2 (σ0 : Nat → Nat → Int32) (τ0 : Nat → Nat → Int64) (a1 : Int32) (r : Int32) (σ : Nat → Nat → Int32) (τ : Nat → Nat → Int64) : Prop := Rg σ ∧ Fr L_X7_readCond_d2 σ0 σ ∧ FrL LL_X7_readCond_d2 τ0 τ ∧ (0 ≤ r.toInt ∧ r.toInt ≤ 1)
def J_X7_readCond_d2_12 (p : Program) (l : Launch) (e : Env) (s : State) (m : MethodId) (args : Array Value) (below : List Frame) (meth : Method) (c : Code) (D : va_G) (cA : Nat → ClassId) (ad : Nat → Nat) (σ0 : Nat → Nat → Int32) (τ0 : Nat → Nat → Int64) (a1 : Int32) (n : Nat) : Prop := ∀ (σ : Nat → Nat → Int32) (τ : Nat → Nat → Int64) (H : Heap) (locs : List Loc) (x2 : Int32) (ls : Array Slot), Rg σ → Fr L_X7_readCond_d2 σ0 σ → FrL LL_X7_readCond_d2 τ0 τ → va_P D vwCl (gw cA ad σ τ) H → va_S (AA ad) s.heap H locs → (0 ≤ x2.toInt ∧ x2.toInt ≤ 200) → lv_has ls 3 [(0, .ref (ad 27)), (1, .int a1), (2, .int x2)] → 2 * (200 - x2.toInt) + 1 < (n : Int) → W p l e ({ frames := 24, cells := 0, slots := 0, locals := 527 } : Room) s m args below meth c H locs 0 0 (MQ below (va_Qi (fun (r : Int32) (u : SS) => P_X7_readCond_d2 σ0 τ0 a1 r u.1 u.2) (WB D cA ad) (AA ad)) args s 0 0 (AA ad)) (F0 m 12 ls [])
set_option maxHeartbeats 4000000 in
theorem B_X7_readCond_d2_12 (p : Program) (l : Launch) (e : Env) (s : State) (m : MethodId) (args : Array Value) (below : List Frame) (meth : Method) (c : Code) (D : va_G) (cA : Nat → ClassId) (ad : Nat → Nat) (σ0 : Nat → Nat → Int32) (τ0 : Nat → Nat → Int64) (a1 : Int32) (n : Nat) (C : Cy p s m args meth c cX7_readCond 3 wsX7_readCond RX7 D cA ad (some .boolean)) (ha1 : 2 ≤ a1.toInt ∧ a1.toInt ≤ 2) (K12 : J_X7_readCond_d2_12 p l e s m args below meth c D cA ad σ0 τ0 a1 n) : J_X7_readCond_d2_12 p l e s m args below meth c D cA ad σ0 τ0 a1 (n + 1) := by
  obtain ⟨hx, hb, hml, hown, hts, hK, hk, hr, hI, hN⟩ := C
  intro σ τ H locs x2 ls hR hF hFL hP hS hc0 hl hm
  refine lv_iload_n hx hb dX7_readCond_12 rfl (lv_at hl 2 rfl) ?_
  refine r_sipush hx hb dX7_readCond_13 (by decide) (fun z1 ez1 => ?_)
  refine r_icmp_ge (tgt := 68) hx hb dX7_readCond_16 (by decide) (fun c2 => ?_) (fun c2 => ?_)
  · refine r_iconst hx hb dX7_readCond_68 (by decide) (fun z3 ez3 => ?_)
    exact r_zret hx hb hr hK hP hS hk (by omega) dX7_readCond_69 (show P_X7_readCond_d2 σ0 τ0 a1 z3 σ τ from ⟨hR, hF, hFL, by omega⟩)
  · refine lv_aload_n hx hb dX7_readCond_19 rfl (lv_at hl 0 rfl) ?_
    refine fg_7_0 (k := 27) hx hb hts in_X7_readCond_7 hown hK hP (by decide) (by decide) (hts _ lk_X7_readCond_9) dX7_readCond_20 ?_
    refine fgN_8_9 (k := 1) hx hb hts in_X7_readCond_8 hown hK hP (by decide) (by decide) (hN.use nw_7_32) dX7_readCond_23 ?_
    refine r_bipush hx hb dX7_readCond_26 (by decide) (fun z4 ez4 => ?_)
    refine r_icmp_ne (tgt := 68) hx hb dX7_readCond_28 (by decide) (fun c5 => ?_) (fun c5 => ?_)
    · refine r_iconst hx hb dX7_readCond_68 (by decide) (fun z6 ez6 => ?_)
      exact r_zret hx hb hr hK hP hS hk (by omega) dX7_readCond_69 (show P_X7_readCond_d2 σ0 τ0 a1 z6 σ τ from ⟨hR, hF, hFL, by omega⟩)
    · refine lv_aload_n hx hb dX7_readCond_31 rfl (lv_at hl 0 rfl) ?_
      refine fg_7_0 (k := 27) hx hb hts in_X7_readCond_7 hown hK hP (by decide) (by decide) (hts _ lk_X7_readCond_9) dX7_readCond_32 ?_
      refine r_cVv (k := 1) (As := []) (rest := []) ⟨hx, hb, hml, hown, hts⟩ hK hP hN hS (c_X8_next l D cA ad hI σ τ hR) (cwV 0 hts gX7_readCond_X8_next rfl rfl rfl (by decide +kernel) ⟨by decide, by decide⟩) (rv_Tape hK hP (by decide) (by decide)) rfl hl.1 rfl (Nat.le_of_ble_eq_true rfl) dX7_readCond_35 (Nat.zero_le _) (Nat.zero_le _) (fun u7 H7 locs7 hp7 hP hS => ?_)
      obtain ⟨σ7, τ7⟩ := u7
      obtain ⟨hR, f7, fL7⟩ : P_X8_next σ τ σ7 τ7 := hp7
      have hP : va_P D vwCl (gw cA ad σ7 τ7) H7 := hP
      have hFL := hFL.step fL7 (by decide)
      have hF := hF.step f7 (by decide)
      refine lv_aload_n hx hb dX7_readCond_38 rfl (lv_at hl 0 rfl) ?_
      refine lv_iload_n hx hb dX7_readCond_39 rfl (lv_at hl 1 rfl) ?_
      refine r_cVi (k := 27) (As := [.int a1]) (rest := []) ⟨hx, hb, hml, hown, hts⟩ hK hP hN hS (c_X7_readAll_d2 l D cA ad hI σ7 τ7 hR a1 (by omega)) (cwV 1 hts gX7_readCond_X7_readAll rfl rfl rfl (by decide +kernel) ⟨by decide, by decide⟩) (rv_SText hK hP (by decide) (by decide)) rfl hl.1 rfl (Nat.le_of_ble_eq_true rfl) dX7_readCond_40 (Nat.zero_le _) (Nat.zero_le _) (fun r8 u8 H8 locs8 hp8 hP hS => ?_)
      obtain ⟨σ8, τ8⟩ := u8
      obtain ⟨hR, f8, fL8, hq8⟩ : P_X7_readAll_d2 σ7 τ7 a1 r8 σ8 τ8 := hp8
      have hP : va_P D vwCl (gw cA ad σ8 τ8) H8 := hP
      have hFL := hFL.step fL8 (by decide)
      have hF := hF.step f8 (by decide)
      refine r_if_eq (tgt := 60) hx hb dX7_readCond_43 (by decide) (fun c9 => ?_) (fun c9 => ?_)
      · refine r_iconst hx hb dX7_readCond_60 (by decide) (fun z10 ez10 => ?_)
        exact r_zret hx hb hr hK hP hS hk (by omega) dX7_readCond_61 (show P_X7_readCond_d2 σ0 τ0 a1 z10 σ8 τ8 from ⟨hR, hF, hFL, by omega⟩)
      · refine lv_aload_n hx hb dX7_readCond_46 rfl (lv_at hl 0 rfl) ?_
        refine fg_7_2 (k := 27) hx hb hts in_X7_readCond_7 hown hK hP (by decide) (by decide) (hts _ lk_X7_readCond_19) dX7_readCond_47 ?_
        refine r_bipush hx hb dX7_readCond_50 (by decide) (fun z11 ez11 => ?_)
        refine r_iconst hx hb dX7_readCond_52 (by decide) (fun z12 ez12 => ?_)
        refine r_iconst hx hb dX7_readCond_53 (by decide) (fun z13 ez13 => ?_)
        refine r_cVi (k := 24) (As := [.int z11, .int z12, .int z13]) (rest := []) ⟨hx, hb, hml, hown, hts⟩ hK hP hN hS (c_X6_add l D cA ad hI σ8 τ8 hR z11 z12 z13 (by omega)) (cwV 3 hts gX7_readCond_X6_add rfl rfl rfl (by decide +kernel) ⟨by decide, by decide⟩) (rv_Sent hK hP (by decide) (by decide)) rfl hl.1 rfl (Nat.le_of_ble_eq_true rfl) dX7_readCond_54 (Nat.zero_le _) (Nat.zero_le _) (fun r14 u14 H14 locs14 hp14 hP hS => ?_)
        obtain ⟨σ14, τ14⟩ := u14
        obtain ⟨hR, f14, fL14, hq14⟩ : P_X6_add σ8 τ8 z11 z12 z13 r14 σ14 τ14 := hp14
        have hP : va_P D vwCl (gw cA ad σ14 τ14) H14 := hP
        obtain rfl := FrL.nil fL14
        have hF := hF.step f14 (by decide)
        refine r_if_ne (tgt := 62) hx hb dX7_readCond_57 (by decide) (fun c15 => ?_) (fun c15 => ?_)
        · refine r_iinc (k := 2) (lv1 := fun z16 => [(2, .int z16), (0, .ref (ad 27)), (1, .int a1)]) hx hb dX7_readCond_62 hl rfl (by decide) (fun _ => rfl) (by decide) (by omega) (fun z16 ls ez16 hl => ?_)
          refine lv_goto (tgt := 12) hx hb dX7_readCond_65 (by decide) ?_
          exact K12 σ14 τ8 H14 locs14 z16 ls hR hF hFL hP hS (by omega) (lv_sub hl [1, 2, 0] rfl) (by omega)
        · refine r_iconst hx hb dX7_readCond_60 (by decide) (fun z17 ez17 => ?_)
          exact r_zret hx hb hr hK hP hS hk (by omega) dX7_readCond_61 (show P_X7_readCond_d2 σ0 τ0 a1 z17 σ14 τ8 from ⟨hR, hF, hFL, by omega⟩)
theorem A_X7_readCond_d2 (p : Program) (l : Launch) (e : Env) (s : State) (m : MethodId) (args : Array Value) (below : List Frame) (meth : Method) (c : Code) (D : va_G) (cA : Nat → ClassId) (ad : Nat → Nat) (σ0 : Nat → Nat → Int32) (τ0 : Nat → Nat → Int64) (a1 : Int32) (C : Cy p s m args meth c cX7_readCond 3 wsX7_readCond RX7 D cA ad (some .boolean)) (ha1 : 2 ≤ a1.toInt ∧ a1.toInt ≤ 2) : ∀ n : Nat, J_X7_readCond_d2_12 p l e s m args below meth c D cA ad σ0 τ0 a1 n := by
  intro n
  induction n with
  | zero =>
    exact (by intro σ τ H locs x2 ls hR hF hFL hP hS hc0 hl hm; exfalso; omega)
  | succ n ih =>
    exact B_X7_readCond_d2_12 p l e s m args below meth c D cA ad σ0 τ0 a1 n C ha1 ih
set_option maxHeartbeats 4000000 in
theorem c_X7_readCond_d2 (l : Launch) (D : va_G) (cA : Nat → ClassId) (ad : Nat → Nat) (hI : Inj ad) (σ0 : Nat → Nat → Int32) (τ0 : Nat → Nat → Int64) (hR : Rg σ0) (a1 : Int32) (ha1 : 2 ≤ a1.toInt ∧ a1.toInt ≤ 2) : Met l yX7_readCond wsX7_readCond ({ frames := 24, cells := 0, slots := 0, locals := 527 } : Room) (WQc D cA ad [.ref (ad 27), .int a1] σ0 τ0) (va_Qi (fun (r : Int32) (u : SS) => P_X7_readCond_d2 σ0 τ0 a1 r u.1 u.2) (WB D cA ad) (AA ad)) 0 0 (AA ad) := by
  refine Met.ofW (cc := cX7_readCond) (maxL := 3) (ret := (some .boolean)) (by decide) rfl ?_
  intro p e s m args below meth c s₁ B hml hv
  obtain ⟨rfl, hP, hK, hN⟩ := hv
  have C : Cy p s m _ meth c cX7_readCond 3 wsX7_readCond RX7 D cA ad (some .boolean) := ⟨B.exec, B.bytes, hml, findClass_of_methodNamed B.named, atoms_spec (ws := wsX7_readCond) B.pre, hK, B.notSynchronized, B.returns, hI, hN⟩
  have hl := lv_entry ([.ref (ad 27), .int a1]) (n := 3) (Nat.le_of_ble_eq_true rfl)
  rw [lg_entry_eq]
  generalize (lg_sl ([.ref (ad 27), .int a1]) ++ List.replicate (3 - (lg_sl ([.ref (ad 27), .int a1])).length) Slot.unset).toArray = ls at hl ⊢
  have hl : lv_has ls 3 [(0, .ref (ad 27)), (1, .int a1)] := hl
  have hS : va_S (AA ad) s.heap s.heap [] := va_S.rf
  have hF : Fr L_X7_readCond_d2 σ0 σ0 := Fr.rf
  have hFL : FrL LL_X7_readCond_d2 τ0 τ0 := FrL.rf
  have hA := A_X7_readCond_d2 p l e s m _ below meth c D cA ad σ0 τ0 a1 C ha1 810
  have K12 := hA
  clear hA
  obtain ⟨hx, hb, _, hown, hts, _, hk, hr, _, _⟩ := C
  refine lv_aload_n hx hb dX7_readCond_0 rfl (lv_at hl 0 rfl) ?_
  refine lv_iload_n hx hb dX7_readCond_1 rfl (lv_at hl 1 rfl) ?_
  refine r_cVi (k := 27) (As := [.int a1]) (rest := []) ⟨hx, hb, hml, hown, hts⟩ hK hP hN hS (c_X7_readAll_d2 l D cA ad hI σ0 τ0 hR a1 (by omega)) (cwV 1 hts gX7_readCond_X7_readAll rfl rfl rfl (by decide +kernel) ⟨by decide, by decide⟩) (rv_SText hK hP (by decide) (by decide)) rfl hl.1 rfl (Nat.le_of_ble_eq_true rfl) dX7_readCond_2 (Nat.zero_le _) (Nat.zero_le _) (fun r1 u1 H1 locs1 hp1 hP hS => ?_)
  obtain ⟨σ1, τ1⟩ := u1
  obtain ⟨hR, f1, fL1, hq1⟩ : P_X7_readAll_d2 σ0 τ0 a1 r1 σ1 τ1 := hp1
  have hP : va_P D vwCl (gw cA ad σ1 τ1) H1 := hP
  have hFL := hFL.step fL1 (by decide)
  have hF := hF.step f1 (by decide)
  refine r_if_ne (tgt := 10) hx hb dX7_readCond_5 (by decide) (fun c2 => ?_) (fun c2 => ?_)
  · refine r_iconst hx hb dX7_readCond_10 (by decide) (fun z3 ez3 => ?_)
    refine lv_istore_n (lv' := [(2, .int z3), (0, .ref (ad 27)), (1, .int a1)]) hx hb dX7_readCond_11 rfl hl (by decide) rfl (fun ls hl => ?_)
    exact K12 σ1 τ1 H1 locs1 z3 ls hR hF hFL hP hS (by omega) (lv_sub hl [1, 2, 0] rfl) (by omega)
  · refine r_iconst hx hb dX7_readCond_8 (by decide) (fun z4 ez4 => ?_)
    exact r_zret hx hb hr hK hP hS hk (by omega) dX7_readCond_9 (show P_X7_readCond_d2 σ0 τ0 a1 z4 σ1 τ1 from ⟨hR, hF, hFL, by omega⟩)
abbrev L_X7_readOne_d1 : List Rc := [(1, 1, 7, 10), (372, 372, 0, 39), (376, 376, 0, 39), (380, 380, 0, 39), (24, 24, 1, 2), (1, 1, 12, 14)]
abbrev LL_X7_readOne_d1 : List Rc := [(1, 1, 11, 11)]
def P_X7_readOne_d1 (σ0 : Nat → Nat → Int32) (τ0 : Nat → Nat → Int64) (a1 : Int32) (r : Int32) (σ : Nat → Nat → Int32) (τ : Nat → Nat → Int64) : Prop := Rg σ ∧ Fr L_X7_readOne_d1 σ0 σ ∧ FrL LL_X7_readOne_d1 τ0 τ ∧ (0 ≤ r.toInt ∧ r.toInt ≤ 1)
set_option maxHeartbeats 4000000 in
theorem c_X7_readOne_d1 (l : Launch) (D : va_G) (cA : Nat → ClassId) (ad : Nat → Nat) (hI : Inj ad) (σ0 : Nat → Nat → Int32) (τ0 : Nat → Nat → Int64) (hR : Rg σ0) (a1 : Int32) (ha1 : 1 ≤ a1.toInt ∧ a1.toInt ≤ 1) : Met l yX7_readOne wsX7_readOne ({ frames := 25, cells := 0, slots := 0, locals := 549 } : Room) (WQc D cA ad [.ref (ad 27), .int a1] σ0 τ0) (va_Qi (fun (r : Int32) (u : SS) => P_X7_readOne_d1 σ0 τ0 a1 r u.1 u.2) (WB D cA ad) (AA ad)) 0 0 (AA ad) := by
  refine Met.ofW (cc := cX7_readOne) (maxL := 3) (ret := (some .boolean)) (by decide) rfl ?_
  intro p e s m args below meth c s₁ B hml hv
  obtain ⟨rfl, hP, hK, hN⟩ := hv
  have C : Cy p s m _ meth c cX7_readOne 3 wsX7_readOne RX7 D cA ad (some .boolean) := ⟨B.exec, B.bytes, hml, findClass_of_methodNamed B.named, atoms_spec (ws := wsX7_readOne) B.pre, hK, B.notSynchronized, B.returns, hI, hN⟩
  have hl := lv_entry ([.ref (ad 27), .int a1]) (n := 3) (Nat.le_of_ble_eq_true rfl)
  rw [lg_entry_eq]
  generalize (lg_sl ([.ref (ad 27), .int a1]) ++ List.replicate (3 - (lg_sl ([.ref (ad 27), .int a1])).length) Slot.unset).toArray = ls at hl ⊢
  have hl : lv_has ls 3 [(0, .ref (ad 27)), (1, .int a1)] := hl
  have hS : va_S (AA ad) s.heap s.heap [] := va_S.rf
  have hF : Fr L_X7_readOne_d1 σ0 σ0 := Fr.rf
  have hFL : FrL LL_X7_readOne_d1 τ0 τ0 := FrL.rf
  obtain ⟨hx, hb, _, hown, hts, _, hk, hr, _, _⟩ := C
  refine lv_aload_n hx hb dX7_readOne_0 rfl (lv_at hl 0 rfl) ?_
  refine fg_7_0 (k := 27) hx hb hts in_X7_readOne_7 hown hK hP (by decide) (by decide) (hts _ lk_X7_readOne_9) dX7_readOne_1 ?_
  refine fgN_8_9 (k := 1) hx hb hts in_X7_readOne_8 hown hK hP (by decide) (by decide) (hN.use nw_7_32) dX7_readOne_4 ?_
  refine lv_istore_n (lv' := [(2, .int (σ0 1 9)), (0, .ref (ad 27)), (1, .int a1)]) hx hb dX7_readOne_7 rfl hl (by decide) rfl (fun ls hl => ?_)
  refine lv_iload_n hx hb dX7_readOne_8 rfl (lv_at hl 0 rfl) ?_
  refine r_cSi (As := [.int (σ0 1 9)]) (rest := []) ⟨hx, hb, hml, hown, hts⟩ hK hP hN hS (c_X7_beginsOne l D cA ad hI σ0 τ0 hR (σ0 1 9)) (va_cwS 1 hts gX7_readOne_X7_beginsOne rfl rfl rfl (by decide +kernel) ⟨by decide, by decide⟩) rfl hl.1 rfl (Nat.le_of_ble_eq_true rfl) dX7_readOne_9 (Nat.zero_le _) (Nat.zero_le _) (fun r1 u1 H1 locs1 hp1 hP hS => ?_)
  obtain ⟨σ1, τ1⟩ := u1
  obtain ⟨hR, f1, fL1, hq1⟩ : P_X7_beginsOne σ0 τ0 (σ0 1 9) r1 σ1 τ1 := hp1
  have hP : va_P D vwCl (gw cA ad σ1 τ1) H1 := hP
  obtain rfl := FrL.nil fL1
  obtain rfl := Fr.nil f1
  refine r_if_ne (tgt := 24) hx hb dX7_readOne_12 (by decide) (fun c2 => ?_) (fun c2 => ?_)
  · refine lv_aload_n hx hb dX7_readOne_24 rfl (lv_at hl 1 rfl) ?_
    refine fg_7_2 (k := 27) hx hb hts in_X7_readOne_7 hown hK hP (by decide) (by decide) (hts _ lk_X7_readOne_19) dX7_readOne_25 ?_
    refine fgN_6_1 (k := 24) hx hb hts in_X7_readOne_6 hown hK hP (by decide) (by decide) (hN.use nw_7_61) dX7_readOne_28 ?_
    have hr3 := rg_6_1 hR (k := 24) (by decide) (by decide)
    refine r_bipush hx hb dX7_readOne_31 (by decide) (fun z4 ez4 => ?_)
    refine r_icmp_ge (tgt := 42) hx hb dX7_readOne_33 (by decide) (fun c5 => ?_) (fun c5 => ?_)
    · refine lv_aload_n hx hb dX7_readOne_42 rfl (lv_at hl 1 rfl) ?_
      refine fg_7_0 (k := 27) hx hb hts in_X7_readOne_7 hown hK hP (by decide) (by decide) (hts _ lk_X7_readOne_9) dX7_readOne_43 ?_
      refine r_iconst hx hb dX7_readOne_46 (by decide) (fun z6 ez6 => ?_)
      refine r_cVi (k := 1) (As := [.int z6]) (rest := []) ⟨hx, hb, hml, hown, hts⟩ hK hP hN hS (c_X8_blame l D cA ad hI σ0 τ0 hR z6 (by omega)) (cwV 1 hts gX7_readOne_X8_blame rfl rfl rfl (by decide +kernel) ⟨by decide, by decide⟩) (rv_Tape hK hP (by decide) (by decide)) rfl hl.1 rfl (Nat.le_of_ble_eq_true rfl) dX7_readOne_47 (Nat.zero_le _) (Nat.zero_le _) (fun r7 u7 H7 locs7 hp7 hP hS => ?_)
      obtain ⟨σ7, τ7⟩ := u7
      obtain ⟨hR, f7, fL7, hq7⟩ : P_X8_blame σ0 τ0 z6 r7 σ7 τ7 := hp7
      have hP : va_P D vwCl (gw cA ad σ7 τ7) H7 := hP
      obtain rfl := FrL.nil fL7
      have hF := hF.step f7 (by decide)
      have t8 : (σ7 24 1).toInt = (σ0 24 1).toInt := congrArg Int32.toInt (f7.at 24 1 (by decide))
      exact r_zret hx hb hr hK hP hS hk (by omega) dX7_readOne_50 (show P_X7_readOne_d1 σ0 τ0 a1 r7 σ7 τ0 from ⟨hR, hF, hFL, by omega⟩)
    · refine lv_iload_n hx hb dX7_readOne_36 rfl (lv_at hl 2 rfl) ?_
      refine r_bipush hx hb dX7_readOne_37 (by decide) (fun z9 ez9 => ?_)
      refine r_icmp_le (tgt := 51) hx hb dX7_readOne_39 (by decide) (fun c10 => ?_) (fun c10 => ?_)
      · refine lv_aload_n hx hb dX7_readOne_51 rfl (lv_at hl 1 rfl) ?_
        refine fg_7_2 (k := 27) hx hb hts in_X7_readOne_7 hown hK hP (by decide) (by decide) (hts _ lk_X7_readOne_19) dX7_readOne_52 ?_
        refine lv_dup hx hb dX7_readOne_55 rfl ?_
        refine fgN_6_1 (k := 24) hx hb hts in_X7_readOne_6 hown hK hP (by decide) (by decide) (hN.use nw_7_61) dX7_readOne_56 ?_
        refine r_iconst hx hb dX7_readOne_59 (by decide) (fun z11 ez11 => ?_)
        refine r_iadd hx hb dX7_readOne_60 (by omega) (fun z12 ez12 => ?_)
        refine fpN_6_1 (k := 24) hx hb hts in_X7_readOne_6 hown hK hP (by decide) (by decide) (hN.use nw_7_61) hI hR hS (by omega) dX7_readOne_61 (fun σ13 H13 locs13 u13 v13 hR hP hS => ?_)
        have hF := hF.puts u13 4 rfl (by decide) (by decide) (by decide) (by decide)
        refine lv_aload_n hx hb dX7_readOne_64 rfl (lv_at hl 1 rfl) ?_
        refine fg_7_0 (k := 27) hx hb hts in_X7_readOne_7 hown hK hP (by decide) (by decide) (hts _ lk_X7_readOne_9) dX7_readOne_65 ?_
        refine r_cVv (k := 1) (As := []) (rest := []) ⟨hx, hb, hml, hown, hts⟩ hK hP hN hS (c_X8_next l D cA ad hI σ13 τ0 hR) (cwV 0 hts gX7_readOne_X8_next rfl rfl rfl (by decide +kernel) ⟨by decide, by decide⟩) (rv_Tape hK hP (by decide) (by decide)) rfl hl.1 rfl (Nat.le_of_ble_eq_true rfl) dX7_readOne_68 (Nat.zero_le _) (Nat.zero_le _) (fun u14 H14 locs14 hp14 hP hS => ?_)
        obtain ⟨σ14, τ14⟩ := u14
        obtain ⟨hR, f14, fL14⟩ : P_X8_next σ13 τ0 σ14 τ14 := hp14
        have hP : va_P D vwCl (gw cA ad σ14 τ14) H14 := hP
        have hFL := hFL.step fL14 (by decide)
        have hF := hF.step f14 (by decide)
        have t15 : (σ14 24 1).toInt = (σ13 24 1).toInt := congrArg Int32.toInt (f14.at 24 1 (by decide))
        refine lv_iload_n hx hb dX7_readOne_71 rfl (lv_at hl 0 rfl) ?_
        by_cases c16 : (σ0 1 9).toInt = 22
        · refine lv_tableIn (off := 108) (tgt := 180) hx hb dX7_readOne_72 (by omega) (by omega) (by rw [c16]; rfl) (by decide) ?_
          refine lv_aload_n hx hb dX7_readOne_180 rfl (lv_at hl 1 rfl) ?_
          refine lv_iload_n hx hb dX7_readOne_181 rfl (lv_at hl 2 rfl) ?_
          refine r_iconst hx hb dX7_readOne_182 (by decide) (fun z17 ez17 => ?_)
          refine r_iadd hx hb dX7_readOne_183 (by omega) (fun z18 ez18 => ?_)
          refine r_cVi (k := 27) (As := [.int z18]) (rest := []) ⟨hx, hb, hml, hown, hts⟩ hK hP hN hS (c_X7_readOne_d2 l D cA ad hI σ14 τ14 hR z18 (by omega)) (cwV 1 hts gX7_readOne_X7_readOne rfl rfl rfl (by decide +kernel) ⟨by decide, by decide⟩) (rv_SText hK hP (by decide) (by decide)) rfl hl.1 rfl (Nat.le_of_ble_eq_true rfl) dX7_readOne_184 (Nat.zero_le _) (Nat.zero_le _) (fun r19 u19 H19 locs19 hp19 hP hS => ?_)
          obtain ⟨σ19, τ19⟩ := u19
          obtain ⟨hR, f19, fL19, hq19⟩ : P_X7_readOne_d2 σ14 τ14 z18 r19 σ19 τ19 := hp19
          have hP : va_P D vwCl (gw cA ad σ19 τ19) H19 := hP
          have hFL := hFL.step fL19 (by decide)
          have hF := hF.step f19 (by decide)
          refine r_if_eq (tgt := 208) hx hb dX7_readOne_187 (by decide) (fun c20 => ?_) (fun c20 => ?_)
          · refine r_iconst hx hb dX7_readOne_208 (by decide) (fun z21 ez21 => ?_)
            exact r_zret hx hb hr hK hP hS hk (by omega) dX7_readOne_209 (show P_X7_readOne_d1 σ0 τ0 a1 z21 σ19 τ19 from ⟨hR, hF, hFL, by omega⟩)
          · refine lv_aload_n hx hb dX7_readOne_190 rfl (lv_at hl 1 rfl) ?_
            refine fg_7_2 (k := 27) hx hb hts in_X7_readOne_7 hown hK hP (by decide) (by decide) (hts _ lk_X7_readOne_19) dX7_readOne_191 ?_
            refine r_bipush hx hb dX7_readOne_194 (by decide) (fun z22 ez22 => ?_)
            refine r_iconst hx hb dX7_readOne_196 (by decide) (fun z23 ez23 => ?_)
            refine r_iconst hx hb dX7_readOne_197 (by decide) (fun z24 ez24 => ?_)
            refine r_cVi (k := 24) (As := [.int z22, .int z23, .int z24]) (rest := []) ⟨hx, hb, hml, hown, hts⟩ hK hP hN hS (c_X6_add l D cA ad hI σ19 τ19 hR z22 z23 z24 (by omega)) (cwV 3 hts gX7_readOne_X6_add rfl rfl rfl (by decide +kernel) ⟨by decide, by decide⟩) (rv_Sent hK hP (by decide) (by decide)) rfl hl.1 rfl (Nat.le_of_ble_eq_true rfl) dX7_readOne_198 (Nat.zero_le _) (Nat.zero_le _) (fun r25 u25 H25 locs25 hp25 hP hS => ?_)
            obtain ⟨σ25, τ25⟩ := u25
            obtain ⟨hR, f25, fL25, hq25⟩ : P_X6_add σ19 τ19 z22 z23 z24 r25 σ25 τ25 := hp25
            have hP : va_P D vwCl (gw cA ad σ25 τ25) H25 := hP
            obtain rfl := FrL.nil fL25
            have hF := hF.step f25 (by decide)
            refine r_if_eq (tgt := 208) hx hb dX7_readOne_201 (by decide) (fun c26 => ?_) (fun c26 => ?_)
            · refine r_iconst hx hb dX7_readOne_208 (by decide) (fun z27 ez27 => ?_)
              exact r_zret hx hb hr hK hP hS hk (by omega) dX7_readOne_209 (show P_X7_readOne_d1 σ0 τ0 a1 z27 σ25 τ19 from ⟨hR, hF, hFL, by omega⟩)
            · refine r_iconst hx hb dX7_readOne_204 (by decide) (fun z28 ez28 => ?_)
              refine lv_goto (tgt := 209) hx hb dX7_readOne_205 (by decide) ?_
              exact r_zret hx hb hr hK hP hS hk (by omega) dX7_readOne_209 (show P_X7_readOne_d1 σ0 τ0 a1 z28 σ25 τ19 from ⟨hR, hF, hFL, by omega⟩)
        by_cases c29 : (σ0 1 9).toInt = 23
        · refine lv_tableIn (off := 177) (tgt := 249) hx hb dX7_readOne_72 (by omega) (by omega) (by rw [c29]; rfl) (by decide) ?_
          refine lv_aload_n hx hb dX7_readOne_249 rfl (lv_at hl 1 rfl) ?_
          refine fg_7_2 (k := 27) hx hb hts in_X7_readOne_7 hown hK hP (by decide) (by decide) (hts _ lk_X7_readOne_19) dX7_readOne_250 ?_
          refine lv_iload_n hx hb dX7_readOne_253 rfl (lv_at hl 0 rfl) ?_
          refine r_bipush hx hb dX7_readOne_254 (by decide) (fun z30 ez30 => ?_)
          refine r_iconst hx hb dX7_readOne_256 (by decide) (fun z31 ez31 => ?_)
          refine r_cVi (k := 24) (As := [.int (σ0 1 9), .int z30, .int z31]) (rest := []) ⟨hx, hb, hml, hown, hts⟩ hK hP hN hS (c_X6_add l D cA ad hI σ14 τ14 hR (σ0 1 9) z30 z31 (by omega)) (cwV 3 hts gX7_readOne_X6_add rfl rfl rfl (by decide +kernel) ⟨by decide, by decide⟩) (rv_Sent hK hP (by decide) (by decide)) rfl hl.1 rfl (Nat.le_of_ble_eq_true rfl) dX7_readOne_257 (Nat.zero_le _) (Nat.zero_le _) (fun r32 u32 H32 locs32 hp32 hP hS => ?_)
          obtain ⟨σ32, τ32⟩ := u32
          obtain ⟨hR, f32, fL32, hq32⟩ : P_X6_add σ14 τ14 (σ0 1 9) z30 z31 r32 σ32 τ32 := hp32
          have hP : va_P D vwCl (gw cA ad σ32 τ32) H32 := hP
          obtain rfl := FrL.nil fL32
          have hF := hF.step f32 (by decide)
          have t33 : (σ32 24 1).toInt = (σ14 24 1).toInt := congrArg Int32.toInt (f32.at 24 1 (by decide))
          exact r_zret hx hb hr hK hP hS hk (by omega) dX7_readOne_260 (show P_X7_readOne_d1 σ0 τ0 a1 r32 σ32 τ14 from ⟨hR, hF, hFL, by omega⟩)
        by_cases c34 : (σ0 1 9).toInt = 24
        · refine lv_tableIn (off := 177) (tgt := 249) hx hb dX7_readOne_72 (by omega) (by omega) (by rw [c34]; rfl) (by decide) ?_
          refine lv_aload_n hx hb dX7_readOne_249 rfl (lv_at hl 1 rfl) ?_
          refine fg_7_2 (k := 27) hx hb hts in_X7_readOne_7 hown hK hP (by decide) (by decide) (hts _ lk_X7_readOne_19) dX7_readOne_250 ?_
          refine lv_iload_n hx hb dX7_readOne_253 rfl (lv_at hl 0 rfl) ?_
          refine r_bipush hx hb dX7_readOne_254 (by decide) (fun z35 ez35 => ?_)
          refine r_iconst hx hb dX7_readOne_256 (by decide) (fun z36 ez36 => ?_)
          refine r_cVi (k := 24) (As := [.int (σ0 1 9), .int z35, .int z36]) (rest := []) ⟨hx, hb, hml, hown, hts⟩ hK hP hN hS (c_X6_add l D cA ad hI σ14 τ14 hR (σ0 1 9) z35 z36 (by omega)) (cwV 3 hts gX7_readOne_X6_add rfl rfl rfl (by decide +kernel) ⟨by decide, by decide⟩) (rv_Sent hK hP (by decide) (by decide)) rfl hl.1 rfl (Nat.le_of_ble_eq_true rfl) dX7_readOne_257 (Nat.zero_le _) (Nat.zero_le _) (fun r37 u37 H37 locs37 hp37 hP hS => ?_)
          obtain ⟨σ37, τ37⟩ := u37
          obtain ⟨hR, f37, fL37, hq37⟩ : P_X6_add σ14 τ14 (σ0 1 9) z35 z36 r37 σ37 τ37 := hp37
          have hP : va_P D vwCl (gw cA ad σ37 τ37) H37 := hP
          obtain rfl := FrL.nil fL37
          have hF := hF.step f37 (by decide)
          have t38 : (σ37 24 1).toInt = (σ14 24 1).toInt := congrArg Int32.toInt (f37.at 24 1 (by decide))
          exact r_zret hx hb hr hK hP hS hk (by omega) dX7_readOne_260 (show P_X7_readOne_d1 σ0 τ0 a1 r37 σ37 τ14 from ⟨hR, hF, hFL, by omega⟩)
        by_cases c39 : (σ0 1 9).toInt = 25
        · refine lv_tableIn (off := 166) (tgt := 238) hx hb dX7_readOne_72 (by omega) (by omega) (by rw [c39]; rfl) (by decide) ?_
          refine lv_aload_n hx hb dX7_readOne_238 rfl (lv_at hl 1 rfl) ?_
          refine r_cVi (k := 27) (As := []) (rest := []) ⟨hx, hb, hml, hown, hts⟩ hK hP hN hS (c_X7_readOn l D cA ad hI σ14 τ14 hR) (cwV 0 hts gX7_readOne_X7_readOn rfl rfl rfl (by decide +kernel) ⟨by decide, by decide⟩) (rv_SText hK hP (by decide) (by decide)) rfl hl.1 rfl (Nat.le_of_ble_eq_true rfl) dX7_readOne_239 (Nat.zero_le _) (Nat.zero_le _) (fun r40 u40 H40 locs40 hp40 hP hS => ?_)
          obtain ⟨σ40, τ40⟩ := u40
          obtain ⟨hR, f40, fL40, hq40⟩ : P_X7_readOn σ14 τ14 r40 σ40 τ40 := hp40
          have hP : va_P D vwCl (gw cA ad σ40 τ40) H40 := hP
          have hFL := hFL.step fL40 (by decide)
          have hF := hF.step f40 (by decide)
          have t41 : (σ40 24 1).toInt = (σ14 24 1).toInt := congrArg Int32.toInt (f40.at 24 1 (by decide))
          exact r_zret hx hb hr hK hP hS hk (by omega) dX7_readOne_242 (show P_X7_readOne_d1 σ0 τ0 a1 r40 σ40 τ40 from ⟨hR, hF, hFL, by omega⟩)
        by_cases c42 : (σ0 1 9).toInt = 26
        · refine lv_tableIn (off := 177) (tgt := 249) hx hb dX7_readOne_72 (by omega) (by omega) (by rw [c42]; rfl) (by decide) ?_
          refine lv_aload_n hx hb dX7_readOne_249 rfl (lv_at hl 1 rfl) ?_
          refine fg_7_2 (k := 27) hx hb hts in_X7_readOne_7 hown hK hP (by decide) (by decide) (hts _ lk_X7_readOne_19) dX7_readOne_250 ?_
          refine lv_iload_n hx hb dX7_readOne_253 rfl (lv_at hl 0 rfl) ?_
          refine r_bipush hx hb dX7_readOne_254 (by decide) (fun z43 ez43 => ?_)
          refine r_iconst hx hb dX7_readOne_256 (by decide) (fun z44 ez44 => ?_)
          refine r_cVi (k := 24) (As := [.int (σ0 1 9), .int z43, .int z44]) (rest := []) ⟨hx, hb, hml, hown, hts⟩ hK hP hN hS (c_X6_add l D cA ad hI σ14 τ14 hR (σ0 1 9) z43 z44 (by omega)) (cwV 3 hts gX7_readOne_X6_add rfl rfl rfl (by decide +kernel) ⟨by decide, by decide⟩) (rv_Sent hK hP (by decide) (by decide)) rfl hl.1 rfl (Nat.le_of_ble_eq_true rfl) dX7_readOne_257 (Nat.zero_le _) (Nat.zero_le _) (fun r45 u45 H45 locs45 hp45 hP hS => ?_)
          obtain ⟨σ45, τ45⟩ := u45
          obtain ⟨hR, f45, fL45, hq45⟩ : P_X6_add σ14 τ14 (σ0 1 9) z43 z44 r45 σ45 τ45 := hp45
          have hP : va_P D vwCl (gw cA ad σ45 τ45) H45 := hP
          obtain rfl := FrL.nil fL45
          have hF := hF.step f45 (by decide)
          have t46 : (σ45 24 1).toInt = (σ14 24 1).toInt := congrArg Int32.toInt (f45.at 24 1 (by decide))
          exact r_zret hx hb hr hK hP hS hk (by omega) dX7_readOne_260 (show P_X7_readOne_d1 σ0 τ0 a1 r45 σ45 τ14 from ⟨hR, hF, hFL, by omega⟩)
        by_cases c47 : (σ0 1 9).toInt = 27
        · refine lv_tableIn (off := 171) (tgt := 243) hx hb dX7_readOne_72 (by omega) (by omega) (by rw [c47]; rfl) (by decide) ?_
          refine lv_aload_n hx hb dX7_readOne_243 rfl (lv_at hl 1 rfl) ?_
          refine lv_iload_n hx hb dX7_readOne_244 rfl (lv_at hl 0 rfl) ?_
          refine r_cVi (k := 27) (As := [.int (σ0 1 9)]) (rest := []) ⟨hx, hb, hml, hown, hts⟩ hK hP hN hS (c_X7_readMeasure l D cA ad hI σ14 τ14 hR (σ0 1 9) (by omega)) (cwV 1 hts gX7_readOne_X7_readMeasure rfl rfl rfl (by decide +kernel) ⟨by decide, by decide⟩) (rv_SText hK hP (by decide) (by decide)) rfl hl.1 rfl (Nat.le_of_ble_eq_true rfl) dX7_readOne_245 (Nat.zero_le _) (Nat.zero_le _) (fun r48 u48 H48 locs48 hp48 hP hS => ?_)
          obtain ⟨σ48, τ48⟩ := u48
          obtain ⟨hR, f48, fL48, hq48⟩ : P_X7_readMeasure σ14 τ14 (σ0 1 9) r48 σ48 τ48 := hp48
          have hP : va_P D vwCl (gw cA ad σ48 τ48) H48 := hP
          have hFL := hFL.step fL48 (by decide)
          have hF := hF.step f48 (by decide)
          have t49 : (σ48 24 1).toInt = (σ14 24 1).toInt := congrArg Int32.toInt (f48.at 24 1 (by decide))
          exact r_zret hx hb hr hK hP hS hk (by omega) dX7_readOne_248 (show P_X7_readOne_d1 σ0 τ0 a1 r48 σ48 τ48 from ⟨hR, hF, hFL, by omega⟩)
        by_cases c50 : (σ0 1 9).toInt = 28
        · refine lv_tableIn (off := 171) (tgt := 243) hx hb dX7_readOne_72 (by omega) (by omega) (by rw [c50]; rfl) (by decide) ?_
          refine lv_aload_n hx hb dX7_readOne_243 rfl (lv_at hl 1 rfl) ?_
          refine lv_iload_n hx hb dX7_readOne_244 rfl (lv_at hl 0 rfl) ?_
          refine r_cVi (k := 27) (As := [.int (σ0 1 9)]) (rest := []) ⟨hx, hb, hml, hown, hts⟩ hK hP hN hS (c_X7_readMeasure l D cA ad hI σ14 τ14 hR (σ0 1 9) (by omega)) (cwV 1 hts gX7_readOne_X7_readMeasure rfl rfl rfl (by decide +kernel) ⟨by decide, by decide⟩) (rv_SText hK hP (by decide) (by decide)) rfl hl.1 rfl (Nat.le_of_ble_eq_true rfl) dX7_readOne_245 (Nat.zero_le _) (Nat.zero_le _) (fun r51 u51 H51 locs51 hp51 hP hS => ?_)
          obtain ⟨σ51, τ51⟩ := u51
          obtain ⟨hR, f51, fL51, hq51⟩ : P_X7_readMeasure σ14 τ14 (σ0 1 9) r51 σ51 τ51 := hp51
          have hP : va_P D vwCl (gw cA ad σ51 τ51) H51 := hP
          have hFL := hFL.step fL51 (by decide)
          have hF := hF.step f51 (by decide)
          have t52 : (σ51 24 1).toInt = (σ14 24 1).toInt := congrArg Int32.toInt (f51.at 24 1 (by decide))
          exact r_zret hx hb hr hK hP hS hk (by omega) dX7_readOne_248 (show P_X7_readOne_d1 σ0 τ0 a1 r51 σ51 τ51 from ⟨hR, hF, hFL, by omega⟩)
        by_cases c53 : (σ0 1 9).toInt = 29
        · refine lv_tableIn (off := 171) (tgt := 243) hx hb dX7_readOne_72 (by omega) (by omega) (by rw [c53]; rfl) (by decide) ?_
          refine lv_aload_n hx hb dX7_readOne_243 rfl (lv_at hl 1 rfl) ?_
          refine lv_iload_n hx hb dX7_readOne_244 rfl (lv_at hl 0 rfl) ?_
          refine r_cVi (k := 27) (As := [.int (σ0 1 9)]) (rest := []) ⟨hx, hb, hml, hown, hts⟩ hK hP hN hS (c_X7_readMeasure l D cA ad hI σ14 τ14 hR (σ0 1 9) (by omega)) (cwV 1 hts gX7_readOne_X7_readMeasure rfl rfl rfl (by decide +kernel) ⟨by decide, by decide⟩) (rv_SText hK hP (by decide) (by decide)) rfl hl.1 rfl (Nat.le_of_ble_eq_true rfl) dX7_readOne_245 (Nat.zero_le _) (Nat.zero_le _) (fun r54 u54 H54 locs54 hp54 hP hS => ?_)
          obtain ⟨σ54, τ54⟩ := u54
          obtain ⟨hR, f54, fL54, hq54⟩ : P_X7_readMeasure σ14 τ14 (σ0 1 9) r54 σ54 τ54 := hp54
          have hP : va_P D vwCl (gw cA ad σ54 τ54) H54 := hP
          have hFL := hFL.step fL54 (by decide)
          have hF := hF.step f54 (by decide)
          have t55 : (σ54 24 1).toInt = (σ14 24 1).toInt := congrArg Int32.toInt (f54.at 24 1 (by decide))
          exact r_zret hx hb hr hK hP hS hk (by omega) dX7_readOne_248 (show P_X7_readOne_d1 σ0 τ0 a1 r54 σ54 τ54 from ⟨hR, hF, hFL, by omega⟩)
        by_cases c56 : (σ0 1 9).toInt = 30
        · refine lv_tableIn (off := 171) (tgt := 243) hx hb dX7_readOne_72 (by omega) (by omega) (by rw [c56]; rfl) (by decide) ?_
          refine lv_aload_n hx hb dX7_readOne_243 rfl (lv_at hl 1 rfl) ?_
          refine lv_iload_n hx hb dX7_readOne_244 rfl (lv_at hl 0 rfl) ?_
          refine r_cVi (k := 27) (As := [.int (σ0 1 9)]) (rest := []) ⟨hx, hb, hml, hown, hts⟩ hK hP hN hS (c_X7_readMeasure l D cA ad hI σ14 τ14 hR (σ0 1 9) (by omega)) (cwV 1 hts gX7_readOne_X7_readMeasure rfl rfl rfl (by decide +kernel) ⟨by decide, by decide⟩) (rv_SText hK hP (by decide) (by decide)) rfl hl.1 rfl (Nat.le_of_ble_eq_true rfl) dX7_readOne_245 (Nat.zero_le _) (Nat.zero_le _) (fun r57 u57 H57 locs57 hp57 hP hS => ?_)
          obtain ⟨σ57, τ57⟩ := u57
          obtain ⟨hR, f57, fL57, hq57⟩ : P_X7_readMeasure σ14 τ14 (σ0 1 9) r57 σ57 τ57 := hp57
          have hP : va_P D vwCl (gw cA ad σ57 τ57) H57 := hP
          have hFL := hFL.step fL57 (by decide)
          have hF := hF.step f57 (by decide)
          have t58 : (σ57 24 1).toInt = (σ14 24 1).toInt := congrArg Int32.toInt (f57.at 24 1 (by decide))
          exact r_zret hx hb hr hK hP hS hk (by omega) dX7_readOne_248 (show P_X7_readOne_d1 σ0 τ0 a1 r57 σ57 τ57 from ⟨hR, hF, hFL, by omega⟩)
        by_cases c59 : (σ0 1 9).toInt = 31
        · refine lv_tableIn (off := 177) (tgt := 249) hx hb dX7_readOne_72 (by omega) (by omega) (by rw [c59]; rfl) (by decide) ?_
          refine lv_aload_n hx hb dX7_readOne_249 rfl (lv_at hl 1 rfl) ?_
          refine fg_7_2 (k := 27) hx hb hts in_X7_readOne_7 hown hK hP (by decide) (by decide) (hts _ lk_X7_readOne_19) dX7_readOne_250 ?_
          refine lv_iload_n hx hb dX7_readOne_253 rfl (lv_at hl 0 rfl) ?_
          refine r_bipush hx hb dX7_readOne_254 (by decide) (fun z60 ez60 => ?_)
          refine r_iconst hx hb dX7_readOne_256 (by decide) (fun z61 ez61 => ?_)
          refine r_cVi (k := 24) (As := [.int (σ0 1 9), .int z60, .int z61]) (rest := []) ⟨hx, hb, hml, hown, hts⟩ hK hP hN hS (c_X6_add l D cA ad hI σ14 τ14 hR (σ0 1 9) z60 z61 (by omega)) (cwV 3 hts gX7_readOne_X6_add rfl rfl rfl (by decide +kernel) ⟨by decide, by decide⟩) (rv_Sent hK hP (by decide) (by decide)) rfl hl.1 rfl (Nat.le_of_ble_eq_true rfl) dX7_readOne_257 (Nat.zero_le _) (Nat.zero_le _) (fun r62 u62 H62 locs62 hp62 hP hS => ?_)
          obtain ⟨σ62, τ62⟩ := u62
          obtain ⟨hR, f62, fL62, hq62⟩ : P_X6_add σ14 τ14 (σ0 1 9) z60 z61 r62 σ62 τ62 := hp62
          have hP : va_P D vwCl (gw cA ad σ62 τ62) H62 := hP
          obtain rfl := FrL.nil fL62
          have hF := hF.step f62 (by decide)
          have t63 : (σ62 24 1).toInt = (σ14 24 1).toInt := congrArg Int32.toInt (f62.at 24 1 (by decide))
          exact r_zret hx hb hr hK hP hS hk (by omega) dX7_readOne_260 (show P_X7_readOne_d1 σ0 τ0 a1 r62 σ62 τ14 from ⟨hR, hF, hFL, by omega⟩)
        by_cases c64 : (σ0 1 9).toInt = 32
        · refine lv_tableIn (off := 177) (tgt := 249) hx hb dX7_readOne_72 (by omega) (by omega) (by rw [c64]; rfl) (by decide) ?_
          refine lv_aload_n hx hb dX7_readOne_249 rfl (lv_at hl 1 rfl) ?_
          refine fg_7_2 (k := 27) hx hb hts in_X7_readOne_7 hown hK hP (by decide) (by decide) (hts _ lk_X7_readOne_19) dX7_readOne_250 ?_
          refine lv_iload_n hx hb dX7_readOne_253 rfl (lv_at hl 0 rfl) ?_
          refine r_bipush hx hb dX7_readOne_254 (by decide) (fun z65 ez65 => ?_)
          refine r_iconst hx hb dX7_readOne_256 (by decide) (fun z66 ez66 => ?_)
          refine r_cVi (k := 24) (As := [.int (σ0 1 9), .int z65, .int z66]) (rest := []) ⟨hx, hb, hml, hown, hts⟩ hK hP hN hS (c_X6_add l D cA ad hI σ14 τ14 hR (σ0 1 9) z65 z66 (by omega)) (cwV 3 hts gX7_readOne_X6_add rfl rfl rfl (by decide +kernel) ⟨by decide, by decide⟩) (rv_Sent hK hP (by decide) (by decide)) rfl hl.1 rfl (Nat.le_of_ble_eq_true rfl) dX7_readOne_257 (Nat.zero_le _) (Nat.zero_le _) (fun r67 u67 H67 locs67 hp67 hP hS => ?_)
          obtain ⟨σ67, τ67⟩ := u67
          obtain ⟨hR, f67, fL67, hq67⟩ : P_X6_add σ14 τ14 (σ0 1 9) z65 z66 r67 σ67 τ67 := hp67
          have hP : va_P D vwCl (gw cA ad σ67 τ67) H67 := hP
          obtain rfl := FrL.nil fL67
          have hF := hF.step f67 (by decide)
          have t68 : (σ67 24 1).toInt = (σ14 24 1).toInt := congrArg Int32.toInt (f67.at 24 1 (by decide))
          exact r_zret hx hb hr hK hP hS hk (by omega) dX7_readOne_260 (show P_X7_readOne_d1 σ0 τ0 a1 r67 σ67 τ14 from ⟨hR, hF, hFL, by omega⟩)
        by_cases c69 : (σ0 1 9).toInt = 33
        · refine lv_tableIn (off := 177) (tgt := 249) hx hb dX7_readOne_72 (by omega) (by omega) (by rw [c69]; rfl) (by decide) ?_
          refine lv_aload_n hx hb dX7_readOne_249 rfl (lv_at hl 1 rfl) ?_
          refine fg_7_2 (k := 27) hx hb hts in_X7_readOne_7 hown hK hP (by decide) (by decide) (hts _ lk_X7_readOne_19) dX7_readOne_250 ?_
          refine lv_iload_n hx hb dX7_readOne_253 rfl (lv_at hl 0 rfl) ?_
          refine r_bipush hx hb dX7_readOne_254 (by decide) (fun z70 ez70 => ?_)
          refine r_iconst hx hb dX7_readOne_256 (by decide) (fun z71 ez71 => ?_)
          refine r_cVi (k := 24) (As := [.int (σ0 1 9), .int z70, .int z71]) (rest := []) ⟨hx, hb, hml, hown, hts⟩ hK hP hN hS (c_X6_add l D cA ad hI σ14 τ14 hR (σ0 1 9) z70 z71 (by omega)) (cwV 3 hts gX7_readOne_X6_add rfl rfl rfl (by decide +kernel) ⟨by decide, by decide⟩) (rv_Sent hK hP (by decide) (by decide)) rfl hl.1 rfl (Nat.le_of_ble_eq_true rfl) dX7_readOne_257 (Nat.zero_le _) (Nat.zero_le _) (fun r72 u72 H72 locs72 hp72 hP hS => ?_)
          obtain ⟨σ72, τ72⟩ := u72
          obtain ⟨hR, f72, fL72, hq72⟩ : P_X6_add σ14 τ14 (σ0 1 9) z70 z71 r72 σ72 τ72 := hp72
          have hP : va_P D vwCl (gw cA ad σ72 τ72) H72 := hP
          obtain rfl := FrL.nil fL72
          have hF := hF.step f72 (by decide)
          have t73 : (σ72 24 1).toInt = (σ14 24 1).toInt := congrArg Int32.toInt (f72.at 24 1 (by decide))
          exact r_zret hx hb hr hK hP hS hk (by omega) dX7_readOne_260 (show P_X7_readOne_d1 σ0 τ0 a1 r72 σ72 τ14 from ⟨hR, hF, hFL, by omega⟩)
        by_cases c74 : (σ0 1 9).toInt = 34
        · refine lv_tableIn (off := 177) (tgt := 249) hx hb dX7_readOne_72 (by omega) (by omega) (by rw [c74]; rfl) (by decide) ?_
          refine lv_aload_n hx hb dX7_readOne_249 rfl (lv_at hl 1 rfl) ?_
          refine fg_7_2 (k := 27) hx hb hts in_X7_readOne_7 hown hK hP (by decide) (by decide) (hts _ lk_X7_readOne_19) dX7_readOne_250 ?_
          refine lv_iload_n hx hb dX7_readOne_253 rfl (lv_at hl 0 rfl) ?_
          refine r_bipush hx hb dX7_readOne_254 (by decide) (fun z75 ez75 => ?_)
          refine r_iconst hx hb dX7_readOne_256 (by decide) (fun z76 ez76 => ?_)
          refine r_cVi (k := 24) (As := [.int (σ0 1 9), .int z75, .int z76]) (rest := []) ⟨hx, hb, hml, hown, hts⟩ hK hP hN hS (c_X6_add l D cA ad hI σ14 τ14 hR (σ0 1 9) z75 z76 (by omega)) (cwV 3 hts gX7_readOne_X6_add rfl rfl rfl (by decide +kernel) ⟨by decide, by decide⟩) (rv_Sent hK hP (by decide) (by decide)) rfl hl.1 rfl (Nat.le_of_ble_eq_true rfl) dX7_readOne_257 (Nat.zero_le _) (Nat.zero_le _) (fun r77 u77 H77 locs77 hp77 hP hS => ?_)
          obtain ⟨σ77, τ77⟩ := u77
          obtain ⟨hR, f77, fL77, hq77⟩ : P_X6_add σ14 τ14 (σ0 1 9) z75 z76 r77 σ77 τ77 := hp77
          have hP : va_P D vwCl (gw cA ad σ77 τ77) H77 := hP
          obtain rfl := FrL.nil fL77
          have hF := hF.step f77 (by decide)
          have t78 : (σ77 24 1).toInt = (σ14 24 1).toInt := congrArg Int32.toInt (f77.at 24 1 (by decide))
          exact r_zret hx hb hr hK hP hS hk (by omega) dX7_readOne_260 (show P_X7_readOne_d1 σ0 τ0 a1 r77 σ77 τ14 from ⟨hR, hF, hFL, by omega⟩)
        by_cases c79 : (σ0 1 9).toInt = 35
        · refine lv_tableIn (off := 177) (tgt := 249) hx hb dX7_readOne_72 (by omega) (by omega) (by rw [c79]; rfl) (by decide) ?_
          refine lv_aload_n hx hb dX7_readOne_249 rfl (lv_at hl 1 rfl) ?_
          refine fg_7_2 (k := 27) hx hb hts in_X7_readOne_7 hown hK hP (by decide) (by decide) (hts _ lk_X7_readOne_19) dX7_readOne_250 ?_
          refine lv_iload_n hx hb dX7_readOne_253 rfl (lv_at hl 0 rfl) ?_
          refine r_bipush hx hb dX7_readOne_254 (by decide) (fun z80 ez80 => ?_)
          refine r_iconst hx hb dX7_readOne_256 (by decide) (fun z81 ez81 => ?_)
          refine r_cVi (k := 24) (As := [.int (σ0 1 9), .int z80, .int z81]) (rest := []) ⟨hx, hb, hml, hown, hts⟩ hK hP hN hS (c_X6_add l D cA ad hI σ14 τ14 hR (σ0 1 9) z80 z81 (by omega)) (cwV 3 hts gX7_readOne_X6_add rfl rfl rfl (by decide +kernel) ⟨by decide, by decide⟩) (rv_Sent hK hP (by decide) (by decide)) rfl hl.1 rfl (Nat.le_of_ble_eq_true rfl) dX7_readOne_257 (Nat.zero_le _) (Nat.zero_le _) (fun r82 u82 H82 locs82 hp82 hP hS => ?_)
          obtain ⟨σ82, τ82⟩ := u82
          obtain ⟨hR, f82, fL82, hq82⟩ : P_X6_add σ14 τ14 (σ0 1 9) z80 z81 r82 σ82 τ82 := hp82
          have hP : va_P D vwCl (gw cA ad σ82 τ82) H82 := hP
          obtain rfl := FrL.nil fL82
          have hF := hF.step f82 (by decide)
          have t83 : (σ82 24 1).toInt = (σ14 24 1).toInt := congrArg Int32.toInt (f82.at 24 1 (by decide))
          exact r_zret hx hb hr hK hP hS hk (by omega) dX7_readOne_260 (show P_X7_readOne_d1 σ0 τ0 a1 r82 σ82 τ14 from ⟨hR, hF, hFL, by omega⟩)
        by_cases c84 : (σ0 1 9).toInt = 36
        · refine lv_tableIn (off := 177) (tgt := 249) hx hb dX7_readOne_72 (by omega) (by omega) (by rw [c84]; rfl) (by decide) ?_
          refine lv_aload_n hx hb dX7_readOne_249 rfl (lv_at hl 1 rfl) ?_
          refine fg_7_2 (k := 27) hx hb hts in_X7_readOne_7 hown hK hP (by decide) (by decide) (hts _ lk_X7_readOne_19) dX7_readOne_250 ?_
          refine lv_iload_n hx hb dX7_readOne_253 rfl (lv_at hl 0 rfl) ?_
          refine r_bipush hx hb dX7_readOne_254 (by decide) (fun z85 ez85 => ?_)
          refine r_iconst hx hb dX7_readOne_256 (by decide) (fun z86 ez86 => ?_)
          refine r_cVi (k := 24) (As := [.int (σ0 1 9), .int z85, .int z86]) (rest := []) ⟨hx, hb, hml, hown, hts⟩ hK hP hN hS (c_X6_add l D cA ad hI σ14 τ14 hR (σ0 1 9) z85 z86 (by omega)) (cwV 3 hts gX7_readOne_X6_add rfl rfl rfl (by decide +kernel) ⟨by decide, by decide⟩) (rv_Sent hK hP (by decide) (by decide)) rfl hl.1 rfl (Nat.le_of_ble_eq_true rfl) dX7_readOne_257 (Nat.zero_le _) (Nat.zero_le _) (fun r87 u87 H87 locs87 hp87 hP hS => ?_)
          obtain ⟨σ87, τ87⟩ := u87
          obtain ⟨hR, f87, fL87, hq87⟩ : P_X6_add σ14 τ14 (σ0 1 9) z85 z86 r87 σ87 τ87 := hp87
          have hP : va_P D vwCl (gw cA ad σ87 τ87) H87 := hP
          obtain rfl := FrL.nil fL87
          have hF := hF.step f87 (by decide)
          have t88 : (σ87 24 1).toInt = (σ14 24 1).toInt := congrArg Int32.toInt (f87.at 24 1 (by decide))
          exact r_zret hx hb hr hK hP hS hk (by omega) dX7_readOne_260 (show P_X7_readOne_d1 σ0 τ0 a1 r87 σ87 τ14 from ⟨hR, hF, hFL, by omega⟩)
        by_cases c89 : (σ0 1 9).toInt = 37
        · refine lv_tableIn (off := 177) (tgt := 249) hx hb dX7_readOne_72 (by omega) (by omega) (by rw [c89]; rfl) (by decide) ?_
          refine lv_aload_n hx hb dX7_readOne_249 rfl (lv_at hl 1 rfl) ?_
          refine fg_7_2 (k := 27) hx hb hts in_X7_readOne_7 hown hK hP (by decide) (by decide) (hts _ lk_X7_readOne_19) dX7_readOne_250 ?_
          refine lv_iload_n hx hb dX7_readOne_253 rfl (lv_at hl 0 rfl) ?_
          refine r_bipush hx hb dX7_readOne_254 (by decide) (fun z90 ez90 => ?_)
          refine r_iconst hx hb dX7_readOne_256 (by decide) (fun z91 ez91 => ?_)
          refine r_cVi (k := 24) (As := [.int (σ0 1 9), .int z90, .int z91]) (rest := []) ⟨hx, hb, hml, hown, hts⟩ hK hP hN hS (c_X6_add l D cA ad hI σ14 τ14 hR (σ0 1 9) z90 z91 (by omega)) (cwV 3 hts gX7_readOne_X6_add rfl rfl rfl (by decide +kernel) ⟨by decide, by decide⟩) (rv_Sent hK hP (by decide) (by decide)) rfl hl.1 rfl (Nat.le_of_ble_eq_true rfl) dX7_readOne_257 (Nat.zero_le _) (Nat.zero_le _) (fun r92 u92 H92 locs92 hp92 hP hS => ?_)
          obtain ⟨σ92, τ92⟩ := u92
          obtain ⟨hR, f92, fL92, hq92⟩ : P_X6_add σ14 τ14 (σ0 1 9) z90 z91 r92 σ92 τ92 := hp92
          have hP : va_P D vwCl (gw cA ad σ92 τ92) H92 := hP
          obtain rfl := FrL.nil fL92
          have hF := hF.step f92 (by decide)
          have t93 : (σ92 24 1).toInt = (σ14 24 1).toInt := congrArg Int32.toInt (f92.at 24 1 (by decide))
          exact r_zret hx hb hr hK hP hS hk (by omega) dX7_readOne_260 (show P_X7_readOne_d1 σ0 τ0 a1 r92 σ92 τ14 from ⟨hR, hF, hFL, by omega⟩)
        by_cases c94 : (σ0 1 9).toInt = 38
        · refine lv_tableIn (off := 177) (tgt := 249) hx hb dX7_readOne_72 (by omega) (by omega) (by rw [c94]; rfl) (by decide) ?_
          refine lv_aload_n hx hb dX7_readOne_249 rfl (lv_at hl 1 rfl) ?_
          refine fg_7_2 (k := 27) hx hb hts in_X7_readOne_7 hown hK hP (by decide) (by decide) (hts _ lk_X7_readOne_19) dX7_readOne_250 ?_
          refine lv_iload_n hx hb dX7_readOne_253 rfl (lv_at hl 0 rfl) ?_
          refine r_bipush hx hb dX7_readOne_254 (by decide) (fun z95 ez95 => ?_)
          refine r_iconst hx hb dX7_readOne_256 (by decide) (fun z96 ez96 => ?_)
          refine r_cVi (k := 24) (As := [.int (σ0 1 9), .int z95, .int z96]) (rest := []) ⟨hx, hb, hml, hown, hts⟩ hK hP hN hS (c_X6_add l D cA ad hI σ14 τ14 hR (σ0 1 9) z95 z96 (by omega)) (cwV 3 hts gX7_readOne_X6_add rfl rfl rfl (by decide +kernel) ⟨by decide, by decide⟩) (rv_Sent hK hP (by decide) (by decide)) rfl hl.1 rfl (Nat.le_of_ble_eq_true rfl) dX7_readOne_257 (Nat.zero_le _) (Nat.zero_le _) (fun r97 u97 H97 locs97 hp97 hP hS => ?_)
          obtain ⟨σ97, τ97⟩ := u97
          obtain ⟨hR, f97, fL97, hq97⟩ : P_X6_add σ14 τ14 (σ0 1 9) z95 z96 r97 σ97 τ97 := hp97
          have hP : va_P D vwCl (gw cA ad σ97 τ97) H97 := hP
          obtain rfl := FrL.nil fL97
          have hF := hF.step f97 (by decide)
          have t98 : (σ97 24 1).toInt = (σ14 24 1).toInt := congrArg Int32.toInt (f97.at 24 1 (by decide))
          exact r_zret hx hb hr hK hP hS hk (by omega) dX7_readOne_260 (show P_X7_readOne_d1 σ0 τ0 a1 r97 σ97 τ14 from ⟨hR, hF, hFL, by omega⟩)
        by_cases c99 : (σ0 1 9).toInt = 39
        · refine lv_tableIn (off := 177) (tgt := 249) hx hb dX7_readOne_72 (by omega) (by omega) (by rw [c99]; rfl) (by decide) ?_
          refine lv_aload_n hx hb dX7_readOne_249 rfl (lv_at hl 1 rfl) ?_
          refine fg_7_2 (k := 27) hx hb hts in_X7_readOne_7 hown hK hP (by decide) (by decide) (hts _ lk_X7_readOne_19) dX7_readOne_250 ?_
          refine lv_iload_n hx hb dX7_readOne_253 rfl (lv_at hl 0 rfl) ?_
          refine r_bipush hx hb dX7_readOne_254 (by decide) (fun z100 ez100 => ?_)
          refine r_iconst hx hb dX7_readOne_256 (by decide) (fun z101 ez101 => ?_)
          refine r_cVi (k := 24) (As := [.int (σ0 1 9), .int z100, .int z101]) (rest := []) ⟨hx, hb, hml, hown, hts⟩ hK hP hN hS (c_X6_add l D cA ad hI σ14 τ14 hR (σ0 1 9) z100 z101 (by omega)) (cwV 3 hts gX7_readOne_X6_add rfl rfl rfl (by decide +kernel) ⟨by decide, by decide⟩) (rv_Sent hK hP (by decide) (by decide)) rfl hl.1 rfl (Nat.le_of_ble_eq_true rfl) dX7_readOne_257 (Nat.zero_le _) (Nat.zero_le _) (fun r102 u102 H102 locs102 hp102 hP hS => ?_)
          obtain ⟨σ102, τ102⟩ := u102
          obtain ⟨hR, f102, fL102, hq102⟩ : P_X6_add σ14 τ14 (σ0 1 9) z100 z101 r102 σ102 τ102 := hp102
          have hP : va_P D vwCl (gw cA ad σ102 τ102) H102 := hP
          obtain rfl := FrL.nil fL102
          have hF := hF.step f102 (by decide)
          have t103 : (σ102 24 1).toInt = (σ14 24 1).toInt := congrArg Int32.toInt (f102.at 24 1 (by decide))
          exact r_zret hx hb hr hK hP hS hk (by omega) dX7_readOne_260 (show P_X7_readOne_d1 σ0 τ0 a1 r102 σ102 τ14 from ⟨hR, hF, hFL, by omega⟩)
        by_cases c104 : (σ0 1 9).toInt = 40
        · refine lv_tableIn (off := 177) (tgt := 249) hx hb dX7_readOne_72 (by omega) (by omega) (by rw [c104]; rfl) (by decide) ?_
          refine lv_aload_n hx hb dX7_readOne_249 rfl (lv_at hl 1 rfl) ?_
          refine fg_7_2 (k := 27) hx hb hts in_X7_readOne_7 hown hK hP (by decide) (by decide) (hts _ lk_X7_readOne_19) dX7_readOne_250 ?_
          refine lv_iload_n hx hb dX7_readOne_253 rfl (lv_at hl 0 rfl) ?_
          refine r_bipush hx hb dX7_readOne_254 (by decide) (fun z105 ez105 => ?_)
          refine r_iconst hx hb dX7_readOne_256 (by decide) (fun z106 ez106 => ?_)
          refine r_cVi (k := 24) (As := [.int (σ0 1 9), .int z105, .int z106]) (rest := []) ⟨hx, hb, hml, hown, hts⟩ hK hP hN hS (c_X6_add l D cA ad hI σ14 τ14 hR (σ0 1 9) z105 z106 (by omega)) (cwV 3 hts gX7_readOne_X6_add rfl rfl rfl (by decide +kernel) ⟨by decide, by decide⟩) (rv_Sent hK hP (by decide) (by decide)) rfl hl.1 rfl (Nat.le_of_ble_eq_true rfl) dX7_readOne_257 (Nat.zero_le _) (Nat.zero_le _) (fun r107 u107 H107 locs107 hp107 hP hS => ?_)
          obtain ⟨σ107, τ107⟩ := u107
          obtain ⟨hR, f107, fL107, hq107⟩ : P_X6_add σ14 τ14 (σ0 1 9) z105 z106 r107 σ107 τ107 := hp107
          have hP : va_P D vwCl (gw cA ad σ107 τ107) H107 := hP
          obtain rfl := FrL.nil fL107
          have hF := hF.step f107 (by decide)
          have t108 : (σ107 24 1).toInt = (σ14 24 1).toInt := congrArg Int32.toInt (f107.at 24 1 (by decide))
          exact r_zret hx hb hr hK hP hS hk (by omega) dX7_readOne_260 (show P_X7_readOne_d1 σ0 τ0 a1 r107 σ107 τ14 from ⟨hR, hF, hFL, by omega⟩)
        by_cases c109 : (σ0 1 9).toInt = 41
        · refine lv_tableIn (off := 177) (tgt := 249) hx hb dX7_readOne_72 (by omega) (by omega) (by rw [c109]; rfl) (by decide) ?_
          refine lv_aload_n hx hb dX7_readOne_249 rfl (lv_at hl 1 rfl) ?_
          refine fg_7_2 (k := 27) hx hb hts in_X7_readOne_7 hown hK hP (by decide) (by decide) (hts _ lk_X7_readOne_19) dX7_readOne_250 ?_
          refine lv_iload_n hx hb dX7_readOne_253 rfl (lv_at hl 0 rfl) ?_
          refine r_bipush hx hb dX7_readOne_254 (by decide) (fun z110 ez110 => ?_)
          refine r_iconst hx hb dX7_readOne_256 (by decide) (fun z111 ez111 => ?_)
          refine r_cVi (k := 24) (As := [.int (σ0 1 9), .int z110, .int z111]) (rest := []) ⟨hx, hb, hml, hown, hts⟩ hK hP hN hS (c_X6_add l D cA ad hI σ14 τ14 hR (σ0 1 9) z110 z111 (by omega)) (cwV 3 hts gX7_readOne_X6_add rfl rfl rfl (by decide +kernel) ⟨by decide, by decide⟩) (rv_Sent hK hP (by decide) (by decide)) rfl hl.1 rfl (Nat.le_of_ble_eq_true rfl) dX7_readOne_257 (Nat.zero_le _) (Nat.zero_le _) (fun r112 u112 H112 locs112 hp112 hP hS => ?_)
          obtain ⟨σ112, τ112⟩ := u112
          obtain ⟨hR, f112, fL112, hq112⟩ : P_X6_add σ14 τ14 (σ0 1 9) z110 z111 r112 σ112 τ112 := hp112
          have hP : va_P D vwCl (gw cA ad σ112 τ112) H112 := hP
          obtain rfl := FrL.nil fL112
          have hF := hF.step f112 (by decide)
          have t113 : (σ112 24 1).toInt = (σ14 24 1).toInt := congrArg Int32.toInt (f112.at 24 1 (by decide))
          exact r_zret hx hb hr hK hP hS hk (by omega) dX7_readOne_260 (show P_X7_readOne_d1 σ0 τ0 a1 r112 σ112 τ14 from ⟨hR, hF, hFL, by omega⟩)
        by_cases c114 : (σ0 1 9).toInt = 42
        · refine lv_tableIn (off := 177) (tgt := 249) hx hb dX7_readOne_72 (by omega) (by omega) (by rw [c114]; rfl) (by decide) ?_
          refine lv_aload_n hx hb dX7_readOne_249 rfl (lv_at hl 1 rfl) ?_
          refine fg_7_2 (k := 27) hx hb hts in_X7_readOne_7 hown hK hP (by decide) (by decide) (hts _ lk_X7_readOne_19) dX7_readOne_250 ?_
          refine lv_iload_n hx hb dX7_readOne_253 rfl (lv_at hl 0 rfl) ?_
          refine r_bipush hx hb dX7_readOne_254 (by decide) (fun z115 ez115 => ?_)
          refine r_iconst hx hb dX7_readOne_256 (by decide) (fun z116 ez116 => ?_)
          refine r_cVi (k := 24) (As := [.int (σ0 1 9), .int z115, .int z116]) (rest := []) ⟨hx, hb, hml, hown, hts⟩ hK hP hN hS (c_X6_add l D cA ad hI σ14 τ14 hR (σ0 1 9) z115 z116 (by omega)) (cwV 3 hts gX7_readOne_X6_add rfl rfl rfl (by decide +kernel) ⟨by decide, by decide⟩) (rv_Sent hK hP (by decide) (by decide)) rfl hl.1 rfl (Nat.le_of_ble_eq_true rfl) dX7_readOne_257 (Nat.zero_le _) (Nat.zero_le _) (fun r117 u117 H117 locs117 hp117 hP hS => ?_)
          obtain ⟨σ117, τ117⟩ := u117
          obtain ⟨hR, f117, fL117, hq117⟩ : P_X6_add σ14 τ14 (σ0 1 9) z115 z116 r117 σ117 τ117 := hp117
          have hP : va_P D vwCl (gw cA ad σ117 τ117) H117 := hP
          obtain rfl := FrL.nil fL117
          have hF := hF.step f117 (by decide)
          have t118 : (σ117 24 1).toInt = (σ14 24 1).toInt := congrArg Int32.toInt (f117.at 24 1 (by decide))
          exact r_zret hx hb hr hK hP hS hk (by omega) dX7_readOne_260 (show P_X7_readOne_d1 σ0 τ0 a1 r117 σ117 τ14 from ⟨hR, hF, hFL, by omega⟩)
        by_cases c119 : (σ0 1 9).toInt = 43
        · refine lv_tableIn (off := 177) (tgt := 249) hx hb dX7_readOne_72 (by omega) (by omega) (by rw [c119]; rfl) (by decide) ?_
          refine lv_aload_n hx hb dX7_readOne_249 rfl (lv_at hl 1 rfl) ?_
          refine fg_7_2 (k := 27) hx hb hts in_X7_readOne_7 hown hK hP (by decide) (by decide) (hts _ lk_X7_readOne_19) dX7_readOne_250 ?_
          refine lv_iload_n hx hb dX7_readOne_253 rfl (lv_at hl 0 rfl) ?_
          refine r_bipush hx hb dX7_readOne_254 (by decide) (fun z120 ez120 => ?_)
          refine r_iconst hx hb dX7_readOne_256 (by decide) (fun z121 ez121 => ?_)
          refine r_cVi (k := 24) (As := [.int (σ0 1 9), .int z120, .int z121]) (rest := []) ⟨hx, hb, hml, hown, hts⟩ hK hP hN hS (c_X6_add l D cA ad hI σ14 τ14 hR (σ0 1 9) z120 z121 (by omega)) (cwV 3 hts gX7_readOne_X6_add rfl rfl rfl (by decide +kernel) ⟨by decide, by decide⟩) (rv_Sent hK hP (by decide) (by decide)) rfl hl.1 rfl (Nat.le_of_ble_eq_true rfl) dX7_readOne_257 (Nat.zero_le _) (Nat.zero_le _) (fun r122 u122 H122 locs122 hp122 hP hS => ?_)
          obtain ⟨σ122, τ122⟩ := u122
          obtain ⟨hR, f122, fL122, hq122⟩ : P_X6_add σ14 τ14 (σ0 1 9) z120 z121 r122 σ122 τ122 := hp122
          have hP : va_P D vwCl (gw cA ad σ122 τ122) H122 := hP
          obtain rfl := FrL.nil fL122
          have hF := hF.step f122 (by decide)
          have t123 : (σ122 24 1).toInt = (σ14 24 1).toInt := congrArg Int32.toInt (f122.at 24 1 (by decide))
          exact r_zret hx hb hr hK hP hS hk (by omega) dX7_readOne_260 (show P_X7_readOne_d1 σ0 τ0 a1 r122 σ122 τ14 from ⟨hR, hF, hFL, by omega⟩)
        by_cases c124 : (σ0 1 9).toInt = 44
        · refine lv_tableIn (off := 138) (tgt := 210) hx hb dX7_readOne_72 (by omega) (by omega) (by rw [c124]; rfl) (by decide) ?_
          refine lv_aload_n hx hb dX7_readOne_210 rfl (lv_at hl 1 rfl) ?_
          refine lv_iload_n hx hb dX7_readOne_211 rfl (lv_at hl 2 rfl) ?_
          refine r_iconst hx hb dX7_readOne_212 (by decide) (fun z125 ez125 => ?_)
          refine r_iadd hx hb dX7_readOne_213 (by omega) (fun z126 ez126 => ?_)
          refine r_cVi (k := 27) (As := [.int z126]) (rest := []) ⟨hx, hb, hml, hown, hts⟩ hK hP hN hS (c_X7_readCond_d2 l D cA ad hI σ14 τ14 hR z126 (by omega)) (cwV 1 hts gX7_readOne_X7_readCond rfl rfl rfl (by decide +kernel) ⟨by decide, by decide⟩) (rv_SText hK hP (by decide) (by decide)) rfl hl.1 rfl (Nat.le_of_ble_eq_true rfl) dX7_readOne_214 (Nat.zero_le _) (Nat.zero_le _) (fun r127 u127 H127 locs127 hp127 hP hS => ?_)
          obtain ⟨σ127, τ127⟩ := u127
          obtain ⟨hR, f127, fL127, hq127⟩ : P_X7_readCond_d2 σ14 τ14 z126 r127 σ127 τ127 := hp127
          have hP : va_P D vwCl (gw cA ad σ127 τ127) H127 := hP
          have hFL := hFL.step fL127 (by decide)
          have hF := hF.step f127 (by decide)
          refine r_if_eq (tgt := 236) hx hb dX7_readOne_217 (by decide) (fun c128 => ?_) (fun c128 => ?_)
          · refine r_iconst hx hb dX7_readOne_236 (by decide) (fun z129 ez129 => ?_)
            exact r_zret hx hb hr hK hP hS hk (by omega) dX7_readOne_237 (show P_X7_readOne_d1 σ0 τ0 a1 z129 σ127 τ127 from ⟨hR, hF, hFL, by omega⟩)
          · refine lv_aload_n hx hb dX7_readOne_220 rfl (lv_at hl 1 rfl) ?_
            refine fg_7_0 (k := 27) hx hb hts in_X7_readOne_7 hown hK hP (by decide) (by decide) (hts _ lk_X7_readOne_9) dX7_readOne_221 ?_
            refine r_bipush hx hb dX7_readOne_224 (by decide) (fun z130 ez130 => ?_)
            refine r_cVi (k := 1) (As := [.int z130]) (rest := []) ⟨hx, hb, hml, hown, hts⟩ hK hP hN hS (c_X8_take l D cA ad hI σ127 τ127 hR z130 (by omega)) (cwV 1 hts gX7_readOne_X8_take rfl rfl rfl (by decide +kernel) ⟨by decide, by decide⟩) (rv_Tape hK hP (by decide) (by decide)) rfl hl.1 rfl (Nat.le_of_ble_eq_true rfl) dX7_readOne_226 (Nat.zero_le _) (Nat.zero_le _) (fun r131 u131 H131 locs131 hp131 hP hS => ?_)
            obtain ⟨σ131, τ131⟩ := u131
            obtain ⟨hR, f131, fL131, hq131⟩ : P_X8_take σ127 τ127 z130 r131 σ131 τ131 := hp131
            have hP : va_P D vwCl (gw cA ad σ131 τ131) H131 := hP
            have hFL := hFL.step fL131 (by decide)
            have hF := hF.step f131 (by decide)
            refine r_if_eq (tgt := 236) hx hb dX7_readOne_229 (by decide) (fun c132 => ?_) (fun c132 => ?_)
            · refine r_iconst hx hb dX7_readOne_236 (by decide) (fun z133 ez133 => ?_)
              exact r_zret hx hb hr hK hP hS hk (by omega) dX7_readOne_237 (show P_X7_readOne_d1 σ0 τ0 a1 z133 σ131 τ131 from ⟨hR, hF, hFL, by omega⟩)
            · refine r_iconst hx hb dX7_readOne_232 (by decide) (fun z134 ez134 => ?_)
              refine lv_goto (tgt := 237) hx hb dX7_readOne_233 (by decide) ?_
              exact r_zret hx hb hr hK hP hS hk (by omega) dX7_readOne_237 (show P_X7_readOne_d1 σ0 τ0 a1 z134 σ131 τ131 from ⟨hR, hF, hFL, by omega⟩)
        refine lv_tableOut (tgt := 249) hx hb dX7_readOne_72 (by omega) (by decide) ?_
        refine lv_aload_n hx hb dX7_readOne_249 rfl (lv_at hl 1 rfl) ?_
        refine fg_7_2 (k := 27) hx hb hts in_X7_readOne_7 hown hK hP (by decide) (by decide) (hts _ lk_X7_readOne_19) dX7_readOne_250 ?_
        refine lv_iload_n hx hb dX7_readOne_253 rfl (lv_at hl 0 rfl) ?_
        refine r_bipush hx hb dX7_readOne_254 (by decide) (fun z135 ez135 => ?_)
        refine r_iconst hx hb dX7_readOne_256 (by decide) (fun z136 ez136 => ?_)
        refine r_cVi (k := 24) (As := [.int (σ0 1 9), .int z135, .int z136]) (rest := []) ⟨hx, hb, hml, hown, hts⟩ hK hP hN hS (c_X6_add l D cA ad hI σ14 τ14 hR (σ0 1 9) z135 z136 (by omega)) (cwV 3 hts gX7_readOne_X6_add rfl rfl rfl (by decide +kernel) ⟨by decide, by decide⟩) (rv_Sent hK hP (by decide) (by decide)) rfl hl.1 rfl (Nat.le_of_ble_eq_true rfl) dX7_readOne_257 (Nat.zero_le _) (Nat.zero_le _) (fun r137 u137 H137 locs137 hp137 hP hS => ?_)
        obtain ⟨σ137, τ137⟩ := u137
        obtain ⟨hR, f137, fL137, hq137⟩ : P_X6_add σ14 τ14 (σ0 1 9) z135 z136 r137 σ137 τ137 := hp137
        have hP : va_P D vwCl (gw cA ad σ137 τ137) H137 := hP
        obtain rfl := FrL.nil fL137
        have hF := hF.step f137 (by decide)
        have t138 : (σ137 24 1).toInt = (σ14 24 1).toInt := congrArg Int32.toInt (f137.at 24 1 (by decide))
        exact r_zret hx hb hr hK hP hS hk (by omega) dX7_readOne_260 (show P_X7_readOne_d1 σ0 τ0 a1 r137 σ137 τ14 from ⟨hR, hF, hFL, by omega⟩)
      · exfalso; omega
  · refine lv_aload_n hx hb dX7_readOne_15 rfl (lv_at hl 1 rfl) ?_
    refine fg_7_0 (k := 27) hx hb hts in_X7_readOne_7 hown hK hP (by decide) (by decide) (hts _ lk_X7_readOne_9) dX7_readOne_16 ?_
    refine r_iconst hx hb dX7_readOne_19 (by decide) (fun z139 ez139 => ?_)
    refine r_cVi (k := 1) (As := [.int z139]) (rest := []) ⟨hx, hb, hml, hown, hts⟩ hK hP hN hS (c_X8_blame l D cA ad hI σ0 τ0 hR z139 (by omega)) (cwV 1 hts gX7_readOne_X8_blame rfl rfl rfl (by decide +kernel) ⟨by decide, by decide⟩) (rv_Tape hK hP (by decide) (by decide)) rfl hl.1 rfl (Nat.le_of_ble_eq_true rfl) dX7_readOne_20 (Nat.zero_le _) (Nat.zero_le _) (fun r140 u140 H140 locs140 hp140 hP hS => ?_)
    obtain ⟨σ140, τ140⟩ := u140
    obtain ⟨hR, f140, fL140, hq140⟩ : P_X8_blame σ0 τ0 z139 r140 σ140 τ140 := hp140
    have hP : va_P D vwCl (gw cA ad σ140 τ140) H140 := hP
    obtain rfl := FrL.nil fL140
    have hF := hF.step f140 (by decide)
    exact r_zret hx hb hr hK hP hS hk (by omega) dX7_readOne_23 (show P_X7_readOne_d1 σ0 τ0 a1 r140 σ140 τ0 from ⟨hR, hF, hFL, by omega⟩)
abbrev L_X7_readAll_d1 : List Rc := [(1, 1, 7, 10), (372, 372, 0, 39), (376, 376, 0, 39), (380, 380, 0, 39), (24, 24, 1, 2), (1, 1, 12, 14)]
abbrev LL_X7_readAll_d1 : List Rc := [(1, 1, 11, 11)]
def P_X7_readAll_d1 (σ0 : Nat → Nat → Int32) (τ0 : Nat → Nat → Int64) (a1 : Int32) (r : Int32) (σ : Nat → Nat → Int32) (τ : Nat → Nat → Int64) : Prop := Rg σ ∧ Fr L_X7_readAll_d1 σ0 σ ∧ FrL LL_X7_readAll_d1 τ0 τ ∧ (0 ≤ r.toInt ∧ r.toInt ≤ 1)
def J_X7_readAll_d1_12 (p : Program) (l : Launch) (e : Env) (s : State) (m : MethodId) (args : Array Value) (below : List Frame) (meth : Method) (c : Code) (D : va_G) (cA : Nat → ClassId) (ad : Nat → Nat) (σ0 : Nat → Nat → Int32) (τ0 : Nat → Nat → Int64) (a1 : Int32) (n : Nat) : Prop := ∀ (σ : Nat → Nat → Int32) (τ : Nat → Nat → Int64) (H : Heap) (locs : List Loc) (x2 : Int32) (ls : Array Slot), Rg σ → Fr L_X7_readAll_d1 σ0 σ → FrL LL_X7_readAll_d1 τ0 τ → va_P D vwCl (gw cA ad σ τ) H → va_S (AA ad) s.heap H locs → (0 ≤ x2.toInt ∧ x2.toInt ≤ 200) → lv_has ls 3 [(0, .ref (ad 27)), (1, .int a1), (2, .int x2)] → 2 * (200 - x2.toInt) + 1 < (n : Int) → W p l e ({ frames := 26, cells := 0, slots := 0, locals := 571 } : Room) s m args below meth c H locs 0 0 (MQ below (va_Qi (fun (r : Int32) (u : SS) => P_X7_readAll_d1 σ0 τ0 a1 r u.1 u.2) (WB D cA ad) (AA ad)) args s 0 0 (AA ad)) (F0 m 12 ls [])
set_option maxHeartbeats 4000000 in
theorem B_X7_readAll_d1_12 (p : Program) (l : Launch) (e : Env) (s : State) (m : MethodId) (args : Array Value) (below : List Frame) (meth : Method) (c : Code) (D : va_G) (cA : Nat → ClassId) (ad : Nat → Nat) (σ0 : Nat → Nat → Int32) (τ0 : Nat → Nat → Int64) (a1 : Int32) (n : Nat) (C : Cy p s m args meth c cX7_readAll 3 wsX7_readAll RX7 D cA ad (some .boolean)) (ha1 : 1 ≤ a1.toInt ∧ a1.toInt ≤ 1) (K12 : J_X7_readAll_d1_12 p l e s m args below meth c D cA ad σ0 τ0 a1 n) : J_X7_readAll_d1_12 p l e s m args below meth c D cA ad σ0 τ0 a1 (n + 1) := by
  obtain ⟨hx, hb, hml, hown, hts, hK, hk, hr, hI, hN⟩ := C
  intro σ τ H locs x2 ls hR hF hFL hP hS hc0 hl hm
  refine lv_iload_n hx hb dX7_readAll_12 rfl (lv_at hl 2 rfl) ?_
  refine r_sipush hx hb dX7_readAll_13 (by decide) (fun z1 ez1 => ?_)
  refine r_icmp_ge (tgt := 68) hx hb dX7_readAll_16 (by decide) (fun c2 => ?_) (fun c2 => ?_)
  · refine r_iconst hx hb dX7_readAll_68 (by decide) (fun z3 ez3 => ?_)
    exact r_zret hx hb hr hK hP hS hk (by omega) dX7_readAll_69 (show P_X7_readAll_d1 σ0 τ0 a1 z3 σ τ from ⟨hR, hF, hFL, by omega⟩)
  · refine lv_aload_n hx hb dX7_readAll_19 rfl (lv_at hl 0 rfl) ?_
    refine fg_7_0 (k := 27) hx hb hts in_X7_readAll_7 hown hK hP (by decide) (by decide) (hts _ lk_X7_readAll_9) dX7_readAll_20 ?_
    refine fgN_8_9 (k := 1) hx hb hts in_X7_readAll_8 hown hK hP (by decide) (by decide) (hN.use nw_7_32) dX7_readAll_23 ?_
    refine r_bipush hx hb dX7_readAll_26 (by decide) (fun z4 ez4 => ?_)
    refine r_icmp_ne (tgt := 68) hx hb dX7_readAll_28 (by decide) (fun c5 => ?_) (fun c5 => ?_)
    · refine r_iconst hx hb dX7_readAll_68 (by decide) (fun z6 ez6 => ?_)
      exact r_zret hx hb hr hK hP hS hk (by omega) dX7_readAll_69 (show P_X7_readAll_d1 σ0 τ0 a1 z6 σ τ from ⟨hR, hF, hFL, by omega⟩)
    · refine lv_aload_n hx hb dX7_readAll_31 rfl (lv_at hl 0 rfl) ?_
      refine fg_7_0 (k := 27) hx hb hts in_X7_readAll_7 hown hK hP (by decide) (by decide) (hts _ lk_X7_readAll_9) dX7_readAll_32 ?_
      refine r_cVv (k := 1) (As := []) (rest := []) ⟨hx, hb, hml, hown, hts⟩ hK hP hN hS (c_X8_next l D cA ad hI σ τ hR) (cwV 0 hts gX7_readAll_X8_next rfl rfl rfl (by decide +kernel) ⟨by decide, by decide⟩) (rv_Tape hK hP (by decide) (by decide)) rfl hl.1 rfl (Nat.le_of_ble_eq_true rfl) dX7_readAll_35 (Nat.zero_le _) (Nat.zero_le _) (fun u7 H7 locs7 hp7 hP hS => ?_)
      obtain ⟨σ7, τ7⟩ := u7
      obtain ⟨hR, f7, fL7⟩ : P_X8_next σ τ σ7 τ7 := hp7
      have hP : va_P D vwCl (gw cA ad σ7 τ7) H7 := hP
      have hFL := hFL.step fL7 (by decide)
      have hF := hF.step f7 (by decide)
      refine lv_aload_n hx hb dX7_readAll_38 rfl (lv_at hl 0 rfl) ?_
      refine lv_iload_n hx hb dX7_readAll_39 rfl (lv_at hl 1 rfl) ?_
      refine r_cVi (k := 27) (As := [.int a1]) (rest := []) ⟨hx, hb, hml, hown, hts⟩ hK hP hN hS (c_X7_readOne_d1 l D cA ad hI σ7 τ7 hR a1 (by omega)) (cwV 1 hts gX7_readAll_X7_readOne rfl rfl rfl (by decide +kernel) ⟨by decide, by decide⟩) (rv_SText hK hP (by decide) (by decide)) rfl hl.1 rfl (Nat.le_of_ble_eq_true rfl) dX7_readAll_40 (Nat.zero_le _) (Nat.zero_le _) (fun r8 u8 H8 locs8 hp8 hP hS => ?_)
      obtain ⟨σ8, τ8⟩ := u8
      obtain ⟨hR, f8, fL8, hq8⟩ : P_X7_readOne_d1 σ7 τ7 a1 r8 σ8 τ8 := hp8
      have hP : va_P D vwCl (gw cA ad σ8 τ8) H8 := hP
      have hFL := hFL.step fL8 (by decide)
      have hF := hF.step f8 (by decide)
      refine r_if_eq (tgt := 60) hx hb dX7_readAll_43 (by decide) (fun c9 => ?_) (fun c9 => ?_)
      · refine r_iconst hx hb dX7_readAll_60 (by decide) (fun z10 ez10 => ?_)
        exact r_zret hx hb hr hK hP hS hk (by omega) dX7_readAll_61 (show P_X7_readAll_d1 σ0 τ0 a1 z10 σ8 τ8 from ⟨hR, hF, hFL, by omega⟩)
      · refine lv_aload_n hx hb dX7_readAll_46 rfl (lv_at hl 0 rfl) ?_
        refine fg_7_2 (k := 27) hx hb hts in_X7_readAll_7 hown hK hP (by decide) (by decide) (hts _ lk_X7_readAll_19) dX7_readAll_47 ?_
        refine r_bipush hx hb dX7_readAll_50 (by decide) (fun z11 ez11 => ?_)
        refine r_iconst hx hb dX7_readAll_52 (by decide) (fun z12 ez12 => ?_)
        refine r_iconst hx hb dX7_readAll_53 (by decide) (fun z13 ez13 => ?_)
        refine r_cVi (k := 24) (As := [.int z11, .int z12, .int z13]) (rest := []) ⟨hx, hb, hml, hown, hts⟩ hK hP hN hS (c_X6_add l D cA ad hI σ8 τ8 hR z11 z12 z13 (by omega)) (cwV 3 hts gX7_readAll_X6_add rfl rfl rfl (by decide +kernel) ⟨by decide, by decide⟩) (rv_Sent hK hP (by decide) (by decide)) rfl hl.1 rfl (Nat.le_of_ble_eq_true rfl) dX7_readAll_54 (Nat.zero_le _) (Nat.zero_le _) (fun r14 u14 H14 locs14 hp14 hP hS => ?_)
        obtain ⟨σ14, τ14⟩ := u14
        obtain ⟨hR, f14, fL14, hq14⟩ : P_X6_add σ8 τ8 z11 z12 z13 r14 σ14 τ14 := hp14
        have hP : va_P D vwCl (gw cA ad σ14 τ14) H14 := hP
        obtain rfl := FrL.nil fL14
        have hF := hF.step f14 (by decide)
        refine r_if_ne (tgt := 62) hx hb dX7_readAll_57 (by decide) (fun c15 => ?_) (fun c15 => ?_)
        · refine r_iinc (k := 2) (lv1 := fun z16 => [(2, .int z16), (0, .ref (ad 27)), (1, .int a1)]) hx hb dX7_readAll_62 hl rfl (by decide) (fun _ => rfl) (by decide) (by omega) (fun z16 ls ez16 hl => ?_)
          refine lv_goto (tgt := 12) hx hb dX7_readAll_65 (by decide) ?_
          exact K12 σ14 τ8 H14 locs14 z16 ls hR hF hFL hP hS (by omega) (lv_sub hl [1, 2, 0] rfl) (by omega)
        · refine r_iconst hx hb dX7_readAll_60 (by decide) (fun z17 ez17 => ?_)
          exact r_zret hx hb hr hK hP hS hk (by omega) dX7_readAll_61 (show P_X7_readAll_d1 σ0 τ0 a1 z17 σ14 τ8 from ⟨hR, hF, hFL, by omega⟩)
theorem A_X7_readAll_d1 (p : Program) (l : Launch) (e : Env) (s : State) (m : MethodId) (args : Array Value) (below : List Frame) (meth : Method) (c : Code) (D : va_G) (cA : Nat → ClassId) (ad : Nat → Nat) (σ0 : Nat → Nat → Int32) (τ0 : Nat → Nat → Int64) (a1 : Int32) (C : Cy p s m args meth c cX7_readAll 3 wsX7_readAll RX7 D cA ad (some .boolean)) (ha1 : 1 ≤ a1.toInt ∧ a1.toInt ≤ 1) : ∀ n : Nat, J_X7_readAll_d1_12 p l e s m args below meth c D cA ad σ0 τ0 a1 n := by
  intro n
  induction n with
  | zero =>
    exact (by intro σ τ H locs x2 ls hR hF hFL hP hS hc0 hl hm; exfalso; omega)
  | succ n ih =>
    exact B_X7_readAll_d1_12 p l e s m args below meth c D cA ad σ0 τ0 a1 n C ha1 ih
set_option maxHeartbeats 4000000 in
theorem c_X7_readAll_d1 (l : Launch) (D : va_G) (cA : Nat → ClassId) (ad : Nat → Nat) (hI : Inj ad) (σ0 : Nat → Nat → Int32) (τ0 : Nat → Nat → Int64) (hR : Rg σ0) (a1 : Int32) (ha1 : 1 ≤ a1.toInt ∧ a1.toInt ≤ 1) : Met l yX7_readAll wsX7_readAll ({ frames := 26, cells := 0, slots := 0, locals := 571 } : Room) (WQc D cA ad [.ref (ad 27), .int a1] σ0 τ0) (va_Qi (fun (r : Int32) (u : SS) => P_X7_readAll_d1 σ0 τ0 a1 r u.1 u.2) (WB D cA ad) (AA ad)) 0 0 (AA ad) := by
  refine Met.ofW (cc := cX7_readAll) (maxL := 3) (ret := (some .boolean)) (by decide) rfl ?_
  intro p e s m args below meth c s₁ B hml hv
  obtain ⟨rfl, hP, hK, hN⟩ := hv
  have C : Cy p s m _ meth c cX7_readAll 3 wsX7_readAll RX7 D cA ad (some .boolean) := ⟨B.exec, B.bytes, hml, findClass_of_methodNamed B.named, atoms_spec (ws := wsX7_readAll) B.pre, hK, B.notSynchronized, B.returns, hI, hN⟩
  have hl := lv_entry ([.ref (ad 27), .int a1]) (n := 3) (Nat.le_of_ble_eq_true rfl)
  rw [lg_entry_eq]
  generalize (lg_sl ([.ref (ad 27), .int a1]) ++ List.replicate (3 - (lg_sl ([.ref (ad 27), .int a1])).length) Slot.unset).toArray = ls at hl ⊢
  have hl : lv_has ls 3 [(0, .ref (ad 27)), (1, .int a1)] := hl
  have hS : va_S (AA ad) s.heap s.heap [] := va_S.rf
  have hF : Fr L_X7_readAll_d1 σ0 σ0 := Fr.rf
  have hFL : FrL LL_X7_readAll_d1 τ0 τ0 := FrL.rf
  have hA := A_X7_readAll_d1 p l e s m _ below meth c D cA ad σ0 τ0 a1 C ha1 810
  have K12 := hA
  clear hA
  obtain ⟨hx, hb, _, hown, hts, _, hk, hr, _, _⟩ := C
  refine lv_aload_n hx hb dX7_readAll_0 rfl (lv_at hl 0 rfl) ?_
  refine lv_iload_n hx hb dX7_readAll_1 rfl (lv_at hl 1 rfl) ?_
  refine r_cVi (k := 27) (As := [.int a1]) (rest := []) ⟨hx, hb, hml, hown, hts⟩ hK hP hN hS (c_X7_readOne_d1 l D cA ad hI σ0 τ0 hR a1 (by omega)) (cwV 1 hts gX7_readAll_X7_readOne rfl rfl rfl (by decide +kernel) ⟨by decide, by decide⟩) (rv_SText hK hP (by decide) (by decide)) rfl hl.1 rfl (Nat.le_of_ble_eq_true rfl) dX7_readAll_2 (Nat.zero_le _) (Nat.zero_le _) (fun r1 u1 H1 locs1 hp1 hP hS => ?_)
  obtain ⟨σ1, τ1⟩ := u1
  obtain ⟨hR, f1, fL1, hq1⟩ : P_X7_readOne_d1 σ0 τ0 a1 r1 σ1 τ1 := hp1
  have hP : va_P D vwCl (gw cA ad σ1 τ1) H1 := hP
  have hFL := hFL.step fL1 (by decide)
  have hF := hF.step f1 (by decide)
  refine r_if_ne (tgt := 10) hx hb dX7_readAll_5 (by decide) (fun c2 => ?_) (fun c2 => ?_)
  · refine r_iconst hx hb dX7_readAll_10 (by decide) (fun z3 ez3 => ?_)
    refine lv_istore_n (lv' := [(2, .int z3), (0, .ref (ad 27)), (1, .int a1)]) hx hb dX7_readAll_11 rfl hl (by decide) rfl (fun ls hl => ?_)
    exact K12 σ1 τ1 H1 locs1 z3 ls hR hF hFL hP hS (by omega) (lv_sub hl [1, 2, 0] rfl) (by omega)
  · refine r_iconst hx hb dX7_readAll_8 (by decide) (fun z4 ez4 => ?_)
    exact r_zret hx hb hr hK hP hS hk (by omega) dX7_readAll_9 (show P_X7_readAll_d1 σ0 τ0 a1 z4 σ1 τ1 from ⟨hR, hF, hFL, by omega⟩)
abbrev L_X7_readCond_d1 : List Rc := [(1, 1, 7, 10), (372, 372, 0, 39), (376, 376, 0, 39), (380, 380, 0, 39), (24, 24, 1, 2), (1, 1, 12, 14)]
abbrev LL_X7_readCond_d1 : List Rc := [(1, 1, 11, 11)]
def P_X7_readCond_d1 (σ0 : Nat → Nat → Int32) (τ0 : Nat → Nat → Int64) (a1 : Int32) (r : Int32) (σ : Nat → Nat → Int32) (τ : Nat → Nat → Int64) : Prop := Rg σ ∧ Fr L_X7_readCond_d1 σ0 σ ∧ FrL LL_X7_readCond_d1 τ0 τ ∧ (0 ≤ r.toInt ∧ r.toInt ≤ 1)
def J_X7_readCond_d1_12 (p : Program) (l : Launch) (e : Env) (s : State) (m : MethodId) (args : Array Value) (below : List Frame) (meth : Method) (c : Code) (D : va_G) (cA : Nat → ClassId) (ad : Nat → Nat) (σ0 : Nat → Nat → Int32) (τ0 : Nat → Nat → Int64) (a1 : Int32) (n : Nat) : Prop := ∀ (σ : Nat → Nat → Int32) (τ : Nat → Nat → Int64) (H : Heap) (locs : List Loc) (x2 : Int32) (ls : Array Slot), Rg σ → Fr L_X7_readCond_d1 σ0 σ → FrL LL_X7_readCond_d1 τ0 τ → va_P D vwCl (gw cA ad σ τ) H → va_S (AA ad) s.heap H locs → (0 ≤ x2.toInt ∧ x2.toInt ≤ 200) → lv_has ls 3 [(0, .ref (ad 27)), (1, .int a1), (2, .int x2)] → 2 * (200 - x2.toInt) + 1 < (n : Int) → W p l e ({ frames := 27, cells := 0, slots := 0, locals := 593 } : Room) s m args below meth c H locs 0 0 (MQ below (va_Qi (fun (r : Int32) (u : SS) => P_X7_readCond_d1 σ0 τ0 a1 r u.1 u.2) (WB D cA ad) (AA ad)) args s 0 0 (AA ad)) (F0 m 12 ls [])
set_option maxHeartbeats 4000000 in
theorem B_X7_readCond_d1_12 (p : Program) (l : Launch) (e : Env) (s : State) (m : MethodId) (args : Array Value) (below : List Frame) (meth : Method) (c : Code) (D : va_G) (cA : Nat → ClassId) (ad : Nat → Nat) (σ0 : Nat → Nat → Int32) (τ0 : Nat → Nat → Int64) (a1 : Int32) (n : Nat) (C : Cy p s m args meth c cX7_readCond 3 wsX7_readCond RX7 D cA ad (some .boolean)) (ha1 : 1 ≤ a1.toInt ∧ a1.toInt ≤ 1) (K12 : J_X7_readCond_d1_12 p l e s m args below meth c D cA ad σ0 τ0 a1 n) : J_X7_readCond_d1_12 p l e s m args below meth c D cA ad σ0 τ0 a1 (n + 1) := by
  obtain ⟨hx, hb, hml, hown, hts, hK, hk, hr, hI, hN⟩ := C
  intro σ τ H locs x2 ls hR hF hFL hP hS hc0 hl hm
  refine lv_iload_n hx hb dX7_readCond_12 rfl (lv_at hl 2 rfl) ?_
  refine r_sipush hx hb dX7_readCond_13 (by decide) (fun z1 ez1 => ?_)
  refine r_icmp_ge (tgt := 68) hx hb dX7_readCond_16 (by decide) (fun c2 => ?_) (fun c2 => ?_)
  · refine r_iconst hx hb dX7_readCond_68 (by decide) (fun z3 ez3 => ?_)
    exact r_zret hx hb hr hK hP hS hk (by omega) dX7_readCond_69 (show P_X7_readCond_d1 σ0 τ0 a1 z3 σ τ from ⟨hR, hF, hFL, by omega⟩)
  · refine lv_aload_n hx hb dX7_readCond_19 rfl (lv_at hl 0 rfl) ?_
    refine fg_7_0 (k := 27) hx hb hts in_X7_readCond_7 hown hK hP (by decide) (by decide) (hts _ lk_X7_readCond_9) dX7_readCond_20 ?_
    refine fgN_8_9 (k := 1) hx hb hts in_X7_readCond_8 hown hK hP (by decide) (by decide) (hN.use nw_7_32) dX7_readCond_23 ?_
    refine r_bipush hx hb dX7_readCond_26 (by decide) (fun z4 ez4 => ?_)
    refine r_icmp_ne (tgt := 68) hx hb dX7_readCond_28 (by decide) (fun c5 => ?_) (fun c5 => ?_)
    · refine r_iconst hx hb dX7_readCond_68 (by decide) (fun z6 ez6 => ?_)
      exact r_zret hx hb hr hK hP hS hk (by omega) dX7_readCond_69 (show P_X7_readCond_d1 σ0 τ0 a1 z6 σ τ from ⟨hR, hF, hFL, by omega⟩)
    · refine lv_aload_n hx hb dX7_readCond_31 rfl (lv_at hl 0 rfl) ?_
      refine fg_7_0 (k := 27) hx hb hts in_X7_readCond_7 hown hK hP (by decide) (by decide) (hts _ lk_X7_readCond_9) dX7_readCond_32 ?_
      refine r_cVv (k := 1) (As := []) (rest := []) ⟨hx, hb, hml, hown, hts⟩ hK hP hN hS (c_X8_next l D cA ad hI σ τ hR) (cwV 0 hts gX7_readCond_X8_next rfl rfl rfl (by decide +kernel) ⟨by decide, by decide⟩) (rv_Tape hK hP (by decide) (by decide)) rfl hl.1 rfl (Nat.le_of_ble_eq_true rfl) dX7_readCond_35 (Nat.zero_le _) (Nat.zero_le _) (fun u7 H7 locs7 hp7 hP hS => ?_)
      obtain ⟨σ7, τ7⟩ := u7
      obtain ⟨hR, f7, fL7⟩ : P_X8_next σ τ σ7 τ7 := hp7
      have hP : va_P D vwCl (gw cA ad σ7 τ7) H7 := hP
      have hFL := hFL.step fL7 (by decide)
      have hF := hF.step f7 (by decide)
      refine lv_aload_n hx hb dX7_readCond_38 rfl (lv_at hl 0 rfl) ?_
      refine lv_iload_n hx hb dX7_readCond_39 rfl (lv_at hl 1 rfl) ?_
      refine r_cVi (k := 27) (As := [.int a1]) (rest := []) ⟨hx, hb, hml, hown, hts⟩ hK hP hN hS (c_X7_readAll_d1 l D cA ad hI σ7 τ7 hR a1 (by omega)) (cwV 1 hts gX7_readCond_X7_readAll rfl rfl rfl (by decide +kernel) ⟨by decide, by decide⟩) (rv_SText hK hP (by decide) (by decide)) rfl hl.1 rfl (Nat.le_of_ble_eq_true rfl) dX7_readCond_40 (Nat.zero_le _) (Nat.zero_le _) (fun r8 u8 H8 locs8 hp8 hP hS => ?_)
      obtain ⟨σ8, τ8⟩ := u8
      obtain ⟨hR, f8, fL8, hq8⟩ : P_X7_readAll_d1 σ7 τ7 a1 r8 σ8 τ8 := hp8
      have hP : va_P D vwCl (gw cA ad σ8 τ8) H8 := hP
      have hFL := hFL.step fL8 (by decide)
      have hF := hF.step f8 (by decide)
      refine r_if_eq (tgt := 60) hx hb dX7_readCond_43 (by decide) (fun c9 => ?_) (fun c9 => ?_)
      · refine r_iconst hx hb dX7_readCond_60 (by decide) (fun z10 ez10 => ?_)
        exact r_zret hx hb hr hK hP hS hk (by omega) dX7_readCond_61 (show P_X7_readCond_d1 σ0 τ0 a1 z10 σ8 τ8 from ⟨hR, hF, hFL, by omega⟩)
      · refine lv_aload_n hx hb dX7_readCond_46 rfl (lv_at hl 0 rfl) ?_
        refine fg_7_2 (k := 27) hx hb hts in_X7_readCond_7 hown hK hP (by decide) (by decide) (hts _ lk_X7_readCond_19) dX7_readCond_47 ?_
        refine r_bipush hx hb dX7_readCond_50 (by decide) (fun z11 ez11 => ?_)
        refine r_iconst hx hb dX7_readCond_52 (by decide) (fun z12 ez12 => ?_)
        refine r_iconst hx hb dX7_readCond_53 (by decide) (fun z13 ez13 => ?_)
        refine r_cVi (k := 24) (As := [.int z11, .int z12, .int z13]) (rest := []) ⟨hx, hb, hml, hown, hts⟩ hK hP hN hS (c_X6_add l D cA ad hI σ8 τ8 hR z11 z12 z13 (by omega)) (cwV 3 hts gX7_readCond_X6_add rfl rfl rfl (by decide +kernel) ⟨by decide, by decide⟩) (rv_Sent hK hP (by decide) (by decide)) rfl hl.1 rfl (Nat.le_of_ble_eq_true rfl) dX7_readCond_54 (Nat.zero_le _) (Nat.zero_le _) (fun r14 u14 H14 locs14 hp14 hP hS => ?_)
        obtain ⟨σ14, τ14⟩ := u14
        obtain ⟨hR, f14, fL14, hq14⟩ : P_X6_add σ8 τ8 z11 z12 z13 r14 σ14 τ14 := hp14
        have hP : va_P D vwCl (gw cA ad σ14 τ14) H14 := hP
        obtain rfl := FrL.nil fL14
        have hF := hF.step f14 (by decide)
        refine r_if_ne (tgt := 62) hx hb dX7_readCond_57 (by decide) (fun c15 => ?_) (fun c15 => ?_)
        · refine r_iinc (k := 2) (lv1 := fun z16 => [(2, .int z16), (0, .ref (ad 27)), (1, .int a1)]) hx hb dX7_readCond_62 hl rfl (by decide) (fun _ => rfl) (by decide) (by omega) (fun z16 ls ez16 hl => ?_)
          refine lv_goto (tgt := 12) hx hb dX7_readCond_65 (by decide) ?_
          exact K12 σ14 τ8 H14 locs14 z16 ls hR hF hFL hP hS (by omega) (lv_sub hl [1, 2, 0] rfl) (by omega)
        · refine r_iconst hx hb dX7_readCond_60 (by decide) (fun z17 ez17 => ?_)
          exact r_zret hx hb hr hK hP hS hk (by omega) dX7_readCond_61 (show P_X7_readCond_d1 σ0 τ0 a1 z17 σ14 τ8 from ⟨hR, hF, hFL, by omega⟩)
theorem A_X7_readCond_d1 (p : Program) (l : Launch) (e : Env) (s : State) (m : MethodId) (args : Array Value) (below : List Frame) (meth : Method) (c : Code) (D : va_G) (cA : Nat → ClassId) (ad : Nat → Nat) (σ0 : Nat → Nat → Int32) (τ0 : Nat → Nat → Int64) (a1 : Int32) (C : Cy p s m args meth c cX7_readCond 3 wsX7_readCond RX7 D cA ad (some .boolean)) (ha1 : 1 ≤ a1.toInt ∧ a1.toInt ≤ 1) : ∀ n : Nat, J_X7_readCond_d1_12 p l e s m args below meth c D cA ad σ0 τ0 a1 n := by
  intro n
  induction n with
  | zero =>
    exact (by intro σ τ H locs x2 ls hR hF hFL hP hS hc0 hl hm; exfalso; omega)
  | succ n ih =>
    exact B_X7_readCond_d1_12 p l e s m args below meth c D cA ad σ0 τ0 a1 n C ha1 ih
set_option maxHeartbeats 4000000 in
theorem c_X7_readCond_d1 (l : Launch) (D : va_G) (cA : Nat → ClassId) (ad : Nat → Nat) (hI : Inj ad) (σ0 : Nat → Nat → Int32) (τ0 : Nat → Nat → Int64) (hR : Rg σ0) (a1 : Int32) (ha1 : 1 ≤ a1.toInt ∧ a1.toInt ≤ 1) : Met l yX7_readCond wsX7_readCond ({ frames := 27, cells := 0, slots := 0, locals := 593 } : Room) (WQc D cA ad [.ref (ad 27), .int a1] σ0 τ0) (va_Qi (fun (r : Int32) (u : SS) => P_X7_readCond_d1 σ0 τ0 a1 r u.1 u.2) (WB D cA ad) (AA ad)) 0 0 (AA ad) := by
  refine Met.ofW (cc := cX7_readCond) (maxL := 3) (ret := (some .boolean)) (by decide) rfl ?_
  intro p e s m args below meth c s₁ B hml hv
  obtain ⟨rfl, hP, hK, hN⟩ := hv
  have C : Cy p s m _ meth c cX7_readCond 3 wsX7_readCond RX7 D cA ad (some .boolean) := ⟨B.exec, B.bytes, hml, findClass_of_methodNamed B.named, atoms_spec (ws := wsX7_readCond) B.pre, hK, B.notSynchronized, B.returns, hI, hN⟩
  have hl := lv_entry ([.ref (ad 27), .int a1]) (n := 3) (Nat.le_of_ble_eq_true rfl)
  rw [lg_entry_eq]
  generalize (lg_sl ([.ref (ad 27), .int a1]) ++ List.replicate (3 - (lg_sl ([.ref (ad 27), .int a1])).length) Slot.unset).toArray = ls at hl ⊢
  have hl : lv_has ls 3 [(0, .ref (ad 27)), (1, .int a1)] := hl
  have hS : va_S (AA ad) s.heap s.heap [] := va_S.rf
  have hF : Fr L_X7_readCond_d1 σ0 σ0 := Fr.rf
  have hFL : FrL LL_X7_readCond_d1 τ0 τ0 := FrL.rf
  have hA := A_X7_readCond_d1 p l e s m _ below meth c D cA ad σ0 τ0 a1 C ha1 810
  have K12 := hA
  clear hA
  obtain ⟨hx, hb, _, hown, hts, _, hk, hr, _, _⟩ := C
  refine lv_aload_n hx hb dX7_readCond_0 rfl (lv_at hl 0 rfl) ?_
  refine lv_iload_n hx hb dX7_readCond_1 rfl (lv_at hl 1 rfl) ?_
  refine r_cVi (k := 27) (As := [.int a1]) (rest := []) ⟨hx, hb, hml, hown, hts⟩ hK hP hN hS (c_X7_readAll_d1 l D cA ad hI σ0 τ0 hR a1 (by omega)) (cwV 1 hts gX7_readCond_X7_readAll rfl rfl rfl (by decide +kernel) ⟨by decide, by decide⟩) (rv_SText hK hP (by decide) (by decide)) rfl hl.1 rfl (Nat.le_of_ble_eq_true rfl) dX7_readCond_2 (Nat.zero_le _) (Nat.zero_le _) (fun r1 u1 H1 locs1 hp1 hP hS => ?_)
  obtain ⟨σ1, τ1⟩ := u1
  obtain ⟨hR, f1, fL1, hq1⟩ : P_X7_readAll_d1 σ0 τ0 a1 r1 σ1 τ1 := hp1
  have hP : va_P D vwCl (gw cA ad σ1 τ1) H1 := hP
  have hFL := hFL.step fL1 (by decide)
  have hF := hF.step f1 (by decide)
  refine r_if_ne (tgt := 10) hx hb dX7_readCond_5 (by decide) (fun c2 => ?_) (fun c2 => ?_)
  · refine r_iconst hx hb dX7_readCond_10 (by decide) (fun z3 ez3 => ?_)
    refine lv_istore_n (lv' := [(2, .int z3), (0, .ref (ad 27)), (1, .int a1)]) hx hb dX7_readCond_11 rfl hl (by decide) rfl (fun ls hl => ?_)
    exact K12 σ1 τ1 H1 locs1 z3 ls hR hF hFL hP hS (by omega) (lv_sub hl [1, 2, 0] rfl) (by omega)
  · refine r_iconst hx hb dX7_readCond_8 (by decide) (fun z4 ez4 => ?_)
    exact r_zret hx hb hr hK hP hS hk (by omega) dX7_readCond_9 (show P_X7_readCond_d1 σ0 τ0 a1 z4 σ1 τ1 from ⟨hR, hF, hFL, by omega⟩)
theorem in_X7_read_6 : ∀ w ∈ u_ws RX6 TX6 7, w ∈ wsX7_read := by decide +kernel
theorem in_X7_read_7 : ∀ w ∈ u_ws RX7 TX7 3, w ∈ wsX7_read := by decide +kernel
theorem in_X7_read_8 : ∀ w ∈ u_ws RX8 TX8 15, w ∈ wsX7_read := by decide +kernel
theorem lk_X7_read_19 : Cond.fieldLink RX7 19 "CuckooShares$SentenceText" "into" "LCuckooShares$Sentence;" ∈ wsX7_read := by decide +kernel
theorem lk_X7_read_9 : Cond.fieldLink RX7 9 "CuckooShares$SentenceText" "tape" "LCuckooShares$Tape;" ∈ wsX7_read := by decide +kernel
abbrev L_X7_read : List Rc := [(23, 24, 0, 2), (1, 1, 7, 10), (372, 372, 0, 39), (376, 376, 0, 39), (380, 380, 0, 39), (1, 1, 12, 14)]
abbrev LL_X7_read : List Rc := [(1, 1, 11, 11)]
def P_X7_read (σ0 : Nat → Nat → Int32) (τ0 : Nat → Nat → Int64)  (r : Int32) (σ : Nat → Nat → Int32) (τ : Nat → Nat → Int64) : Prop := Rg σ ∧ Fr L_X7_read σ0 σ ∧ FrL LL_X7_read τ0 τ ∧ (0 ≤ r.toInt ∧ r.toInt ≤ 1)
set_option maxHeartbeats 4000000 in
theorem c_X7_read (l : Launch) (D : va_G) (cA : Nat → ClassId) (ad : Nat → Nat) (hI : Inj ad) (σ0 : Nat → Nat → Int32) (τ0 : Nat → Nat → Int64) (hR : Rg σ0)   : Met l yX7_read wsX7_read ({ frames := 28, cells := 0, slots := 0, locals := 615 } : Room) (WQc D cA ad [.ref (ad 27)] σ0 τ0) (va_Qi (fun (r : Int32) (u : SS) => P_X7_read σ0 τ0 r u.1 u.2) (WB D cA ad) (AA ad)) 0 0 (AA ad) := by
  refine Met.ofW (cc := cX7_read) (maxL := 1) (ret := (some .boolean)) (by decide) rfl ?_
  intro p e s m args below meth c s₁ B hml hv
  obtain ⟨rfl, hP, hK, hN⟩ := hv
  have C : Cy p s m _ meth c cX7_read 1 wsX7_read RX7 D cA ad (some .boolean) := ⟨B.exec, B.bytes, hml, findClass_of_methodNamed B.named, atoms_spec (ws := wsX7_read) B.pre, hK, B.notSynchronized, B.returns, hI, hN⟩
  have hl := lv_entry ([.ref (ad 27)]) (n := 1) (Nat.le_of_ble_eq_true rfl)
  rw [lg_entry_eq]
  generalize (lg_sl ([.ref (ad 27)]) ++ List.replicate (1 - (lg_sl ([.ref (ad 27)])).length) Slot.unset).toArray = ls at hl ⊢
  have hl : lv_has ls 1 [(0, .ref (ad 27))] := hl
  have hS : va_S (AA ad) s.heap s.heap [] := va_S.rf
  have hF : Fr L_X7_read σ0 σ0 := Fr.rf
  have hFL : FrL LL_X7_read τ0 τ0 := FrL.rf
  obtain ⟨hx, hb, _, hown, hts, _, hk, hr, _, _⟩ := C
  refine lv_aload_n hx hb dX7_read_0 rfl (lv_at hl 0 rfl) ?_
  refine fg_7_2 (k := 27) hx hb hts in_X7_read_7 hown hK hP (by decide) (by decide) (hts _ lk_X7_read_19) dX7_read_1 ?_
  refine r_cVv (k := 24) (As := []) (rest := []) ⟨hx, hb, hml, hown, hts⟩ hK hP hN hS (c_X6_clear l D cA ad hI σ0 τ0 hR 24 ⟨by omega, by omega⟩) (cwV 0 hts gX7_read_X6_clear rfl rfl rfl (by decide +kernel) ⟨by decide, by decide⟩) (rv_Sent hK hP (by decide) (by decide)) rfl hl.1 rfl (Nat.le_of_ble_eq_true rfl) dX7_read_4 (Nat.zero_le _) (Nat.zero_le _) (fun u1 H1 locs1 hp1 hP hS => ?_)
  obtain ⟨σ1, τ1⟩ := u1
  obtain ⟨hR, f1, fL1⟩ : P_X6_clear σ0 τ0 24 σ1 τ1 := hp1
  have hP : va_P D vwCl (gw cA ad σ1 τ1) H1 := hP
  obtain rfl := FrL.nil fL1
  have hF := hF.step f1 (by decide)
  refine lv_aload_n hx hb dX7_read_7 rfl (lv_at hl 0 rfl) ?_
  refine r_iconst hx hb dX7_read_8 (by decide) (fun z2 ez2 => ?_)
  refine r_cVi (k := 27) (As := [.int z2]) (rest := []) ⟨hx, hb, hml, hown, hts⟩ hK hP hN hS (c_X7_readCond_d1 l D cA ad hI σ1 τ0 hR z2 (by omega)) (cwV 1 hts gX7_read_X7_readCond rfl rfl rfl (by decide +kernel) ⟨by decide, by decide⟩) (rv_SText hK hP (by decide) (by decide)) rfl hl.1 rfl (Nat.le_of_ble_eq_true rfl) dX7_read_9 (Nat.zero_le _) (Nat.zero_le _) (fun r3 u3 H3 locs3 hp3 hP hS => ?_)
  obtain ⟨σ3, τ3⟩ := u3
  obtain ⟨hR, f3, fL3, hq3⟩ : P_X7_readCond_d1 σ1 τ0 z2 r3 σ3 τ3 := hp3
  have hP : va_P D vwCl (gw cA ad σ3 τ3) H3 := hP
  have hFL := hFL.step fL3 (by decide)
  have hF := hF.step f3 (by decide)
  refine r_if_ne (tgt := 17) hx hb dX7_read_12 (by decide) (fun c4 => ?_) (fun c4 => ?_)
  · refine lv_aload_n hx hb dX7_read_17 rfl (lv_at hl 0 rfl) ?_
    refine fg_7_0 (k := 27) hx hb hts in_X7_read_7 hown hK hP (by decide) (by decide) (hts _ lk_X7_read_9) dX7_read_18 ?_
    refine fgN_8_9 (k := 1) hx hb hts in_X7_read_8 hown hK hP (by decide) (by decide) (hN.use nw_7_32) dX7_read_21 ?_
    refine r_bipush hx hb dX7_read_24 (by decide) (fun z5 ez5 => ?_)
    refine r_icmp_eq (tgt := 38) hx hb dX7_read_26 (by decide) (fun c6 => ?_) (fun c6 => ?_)
    · refine lv_aload_n hx hb dX7_read_38 rfl (lv_at hl 0 rfl) ?_
      refine fg_7_2 (k := 27) hx hb hts in_X7_read_7 hown hK hP (by decide) (by decide) (hts _ lk_X7_read_19) dX7_read_39 ?_
      refine r_iconst hx hb dX7_read_42 (by decide) (fun z7 ez7 => ?_)
      refine fpN_6_0 (k := 24) hx hb hts in_X7_read_6 hown hK hP (by decide) (by decide) (hN.use nw_7_41) hI hR hS (by omega) dX7_read_43 (fun σ8 H8 locs8 u8 v8 hR hP hS => ?_)
      have hF := hF.puts u8 0 rfl (by decide) (by decide) (by decide) (by decide)
      refine r_iconst hx hb dX7_read_46 (by decide) (fun z9 ez9 => ?_)
      exact r_zret hx hb hr hK hP hS hk (by omega) dX7_read_47 (show P_X7_read σ0 τ0 z9 σ8 τ3 from ⟨hR, hF, hFL, by omega⟩)
    · refine lv_aload_n hx hb dX7_read_29 rfl (lv_at hl 0 rfl) ?_
      refine fg_7_0 (k := 27) hx hb hts in_X7_read_7 hown hK hP (by decide) (by decide) (hts _ lk_X7_read_9) dX7_read_30 ?_
      refine r_iconst hx hb dX7_read_33 (by decide) (fun z10 ez10 => ?_)
      refine r_cVi (k := 1) (As := [.int z10]) (rest := []) ⟨hx, hb, hml, hown, hts⟩ hK hP hN hS (c_X8_blame l D cA ad hI σ3 τ3 hR z10 (by omega)) (cwV 1 hts gX7_read_X8_blame rfl rfl rfl (by decide +kernel) ⟨by decide, by decide⟩) (rv_Tape hK hP (by decide) (by decide)) rfl hl.1 rfl (Nat.le_of_ble_eq_true rfl) dX7_read_34 (Nat.zero_le _) (Nat.zero_le _) (fun r11 u11 H11 locs11 hp11 hP hS => ?_)
      obtain ⟨σ11, τ11⟩ := u11
      obtain ⟨hR, f11, fL11, hq11⟩ : P_X8_blame σ3 τ3 z10 r11 σ11 τ11 := hp11
      have hP : va_P D vwCl (gw cA ad σ11 τ11) H11 := hP
      obtain rfl := FrL.nil fL11
      have hF := hF.step f11 (by decide)
      exact r_zret hx hb hr hK hP hS hk (by omega) dX7_read_37 (show P_X7_read σ0 τ0 r11 σ11 τ3 from ⟨hR, hF, hFL, by omega⟩)
  · refine r_iconst hx hb dX7_read_15 (by decide) (fun z12 ez12 => ?_)
    exact r_zret hx hb hr hK hP hS hk (by omega) dX7_read_16 (show P_X7_read σ0 τ0 z12 σ3 τ3 from ⟨hR, hF, hFL, by omega⟩)
theorem in_X0_hearersSoFar_0 : ∀ w ∈ u_ws RX0 TX0 3, w ∈ wsX0_hearersSoFar := by decide +kernel
theorem in_X0_hearersSoFar_2 : ∀ w ∈ u_ws RX2 TX2 7, w ∈ wsX0_hearersSoFar := by decide +kernel
theorem lk_X0_hearersSoFar_15 : Cond.fieldLink RX0 15 "CuckooShares$Acts" "camp" "LCuckooShares$Camp;" ∈ wsX0_hearersSoFar := by decide +kernel
abbrev L_X0_hearersSoFar : List Rc := [(360, 360, 0, 7), (361, 361, 0, 7), (362, 362, 0, 7)]
abbrev LL_X0_hearersSoFar : List Rc := []
def P_X0_hearersSoFar (σ0 : Nat → Nat → Int32) (τ0 : Nat → Nat → Int64)  (r : Int32) (σ : Nat → Nat → Int32) (τ : Nat → Nat → Int64) : Prop := Rg σ ∧ Fr L_X0_hearersSoFar σ0 σ ∧ FrL LL_X0_hearersSoFar τ0 τ
def J_X0_hearersSoFar_19 (p : Program) (l : Launch) (e : Env) (s : State) (m : MethodId) (args : Array Value) (below : List Frame) (meth : Method) (c : Code) (D : va_G) (cA : Nat → ClassId) (ad : Nat → Nat) (σ0 : Nat → Nat → Int32) (τ0 : Nat → Nat → Int64)  (n : Nat) : Prop := ∀ (σ : Nat → Nat → Int32) (τ : Nat → Nat → Int64) (H : Heap) (locs : List Loc) (x2 : Int32) (x3 : Int32) (x4 : Int32) (ls : Array Slot), Rg σ → Fr L_X0_hearersSoFar σ0 σ → FrL LL_X0_hearersSoFar τ0 τ → va_P D vwCl (gw cA ad σ τ) H → va_S (AA ad) s.heap H locs → (0 ≤ x2.toInt ∧ x2.toInt ≤ 10) → (0 ≤ x4.toInt ∧ x4.toInt ≤ 10) → (x2.toInt = 0 ∨ (0 ≤ (σ 7 1).toInt ∧ (σ 7 1).toInt ≤ 3)) → lv_has ls 5 [(0, .ref (ad 22)), (1, .ref (ad 7)), (2, .int x2), (3, .int x3), (4, .int x4)] → 2 * (10 - x4.toInt) + 1 < (n : Int) → W p l e ({ frames := 4, cells := 0, slots := 0, locals := 95 } : Room) s m args below meth c H locs 0 0 (MQ below (va_Qi (fun (r : Int32) (u : SS) => P_X0_hearersSoFar σ0 τ0 r u.1 u.2) (WB D cA ad) (AA ad)) args s 0 0 (AA ad)) (F0 m 19 ls [])
set_option maxHeartbeats 4000000 in
theorem B_X0_hearersSoFar_19 (p : Program) (l : Launch) (e : Env) (s : State) (m : MethodId) (args : Array Value) (below : List Frame) (meth : Method) (c : Code) (D : va_G) (cA : Nat → ClassId) (ad : Nat → Nat) (σ0 : Nat → Nat → Int32) (τ0 : Nat → Nat → Int64)  (n : Nat) (C : Cy p s m args meth c cX0_hearersSoFar 5 wsX0_hearersSoFar RX0 D cA ad (some .int))  (K19 : J_X0_hearersSoFar_19 p l e s m args below meth c D cA ad σ0 τ0 n) : J_X0_hearersSoFar_19 p l e s m args below meth c D cA ad σ0 τ0 (n + 1) := by
  obtain ⟨hx, hb, hml, hown, hts, hK, hk, hr, hI, hN⟩ := C
  intro σ τ H locs x2 x3 x4 ls hR hF hFL hP hS hc0 hc1 hi0 hl hm
  obtain rfl := FrL.nil hFL
  refine lv_iload hx hb dX0_hearersSoFar_19 (lv_at hl 4 rfl) ?_
  refine lv_iload_n hx hb dX0_hearersSoFar_21 rfl (lv_at hl 2 rfl) ?_
  refine r_icmp_ge (tgt := 47) hx hb dX0_hearersSoFar_22 (by decide) (fun c1 => ?_) (fun c1 => ?_)
  · refine lv_iload_n hx hb dX0_hearersSoFar_47 rfl (lv_at hl 3 rfl) ?_
    exact r_iret hx hb hr hK hP hS hk dX0_hearersSoFar_48 (show P_X0_hearersSoFar σ0 τ0 x3 σ τ0 from ⟨hR, hF, hFL⟩)
  · refine lv_iload_n hx hb dX0_hearersSoFar_25 rfl (lv_at hl 3 rfl) ?_
    refine lv_aload_n hx hb dX0_hearersSoFar_26 rfl (lv_at hl 0 rfl) ?_
    refine fg_0_1 (k := 22) hx hb hts in_X0_hearersSoFar_0 hown hK hP (by decide) (by decide) (hts _ lk_X0_hearersSoFar_15) dX0_hearersSoFar_27 ?_
    refine lv_aload_n hx hb dX0_hearersSoFar_30 rfl (lv_at hl 1 rfl) ?_
    refine fgN_2_1 (k := 7) hx hb hts in_X0_hearersSoFar_2 hown hK hP (by decide) (by decide) (hN.use nw_0_19) dX0_hearersSoFar_31 ?_
    refine lv_iload hx hb dX0_hearersSoFar_34 (lv_at hl 4 rfl) ?_
    refine r_cVi (k := 21) (As := [.int (σ 7 1), .int x4]) (rest := [.int x3]) ⟨hx, hb, hml, hown, hts⟩ hK hP hN hS (c_X1_hearers l D cA ad hI σ τ0 hR (σ 7 1) x4 (by omega) (by omega)) (cwV 2 hts gX0_hearersSoFar_X1_hearers rfl rfl rfl (by decide +kernel) ⟨by decide, by decide⟩) (rv_Camp hK hP (by decide) (by decide)) rfl hl.1 rfl (Nat.le_of_ble_eq_true rfl) dX0_hearersSoFar_36 (Nat.zero_le _) (Nat.zero_le _) (fun r2 u2 H2 locs2 hp2 hP hS => ?_)
    obtain ⟨σ2, τ2⟩ := u2
    obtain ⟨hR, f2, fL2⟩ : P_X1_hearers σ τ0 (σ 7 1) x4 r2 σ2 τ2 := hp2
    have hP : va_P D vwCl (gw cA ad σ2 τ2) H2 := hP
    obtain rfl := FrL.nil fL2
    obtain rfl := Fr.nil f2
    refine r_iorU hx hb dX0_hearersSoFar_39 (fun z3 => ?_)
    refine lv_istore_n (lv' := [(3, .int z3), (0, .ref (ad 22)), (1, .ref (ad 7)), (2, .int x2), (4, .int x4)]) hx hb dX0_hearersSoFar_40 rfl hl (by decide) rfl (fun ls hl => ?_)
    refine r_iinc (k := 4) (lv1 := fun z4 => [(4, .int z4), (3, .int z3), (0, .ref (ad 22)), (1, .ref (ad 7)), (2, .int x2)]) hx hb dX0_hearersSoFar_41 hl rfl (by decide) (fun _ => rfl) (by decide) (by omega) (fun z4 ls ez4 hl => ?_)
    refine lv_goto (tgt := 19) hx hb dX0_hearersSoFar_44 (by decide) ?_
    exact K19 σ τ0 H2 locs2 x2 z3 z4 ls hR hF hFL hP hS (by omega) (by omega) (by omega) (lv_sub hl [2, 3, 4, 1, 0] rfl) (by omega)
theorem A_X0_hearersSoFar (p : Program) (l : Launch) (e : Env) (s : State) (m : MethodId) (args : Array Value) (below : List Frame) (meth : Method) (c : Code) (D : va_G) (cA : Nat → ClassId) (ad : Nat → Nat) (σ0 : Nat → Nat → Int32) (τ0 : Nat → Nat → Int64)  (C : Cy p s m args meth c cX0_hearersSoFar 5 wsX0_hearersSoFar RX0 D cA ad (some .int))  : ∀ n : Nat, J_X0_hearersSoFar_19 p l e s m args below meth c D cA ad σ0 τ0 n := by
  intro n
  induction n with
  | zero =>
    exact (by intro σ τ H locs x2 x3 x4 ls hR hF hFL hP hS hc0 hc1 hi0 hl hm; exfalso; omega)
  | succ n ih =>
    exact B_X0_hearersSoFar_19 p l e s m args below meth c D cA ad σ0 τ0 n C  ih
set_option maxHeartbeats 4000000 in
theorem c_X0_hearersSoFar (l : Launch) (D : va_G) (cA : Nat → ClassId) (ad : Nat → Nat) (hI : Inj ad) (σ0 : Nat → Nat → Int32) (τ0 : Nat → Nat → Int64) (hR : Rg σ0)   : Met l yX0_hearersSoFar wsX0_hearersSoFar ({ frames := 4, cells := 0, slots := 0, locals := 95 } : Room) (WQc D cA ad [.ref (ad 22), .ref (ad 7)] σ0 τ0) (va_Qi (fun (r : Int32) (u : SS) => P_X0_hearersSoFar σ0 τ0 r u.1 u.2) (WB D cA ad) (AA ad)) 0 0 (AA ad) := by
  refine Met.ofW (cc := cX0_hearersSoFar) (maxL := 5) (ret := (some .int)) (by decide) rfl ?_
  intro p e s m args below meth c s₁ B hml hv
  obtain ⟨rfl, hP, hK, hN⟩ := hv
  have C : Cy p s m _ meth c cX0_hearersSoFar 5 wsX0_hearersSoFar RX0 D cA ad (some .int) := ⟨B.exec, B.bytes, hml, findClass_of_methodNamed B.named, atoms_spec (ws := wsX0_hearersSoFar) B.pre, hK, B.notSynchronized, B.returns, hI, hN⟩
  have hl := lv_entry ([.ref (ad 22), .ref (ad 7)]) (n := 5) (Nat.le_of_ble_eq_true rfl)
  rw [lg_entry_eq]
  generalize (lg_sl ([.ref (ad 22), .ref (ad 7)]) ++ List.replicate (5 - (lg_sl ([.ref (ad 22), .ref (ad 7)])).length) Slot.unset).toArray = ls at hl ⊢
  have hl : lv_has ls 5 [(0, .ref (ad 22)), (1, .ref (ad 7))] := hl
  have hS : va_S (AA ad) s.heap s.heap [] := va_S.rf
  have hF : Fr L_X0_hearersSoFar σ0 σ0 := Fr.rf
  have hFL : FrL LL_X0_hearersSoFar τ0 τ0 := FrL.rf
  have hA := A_X0_hearersSoFar p l e s m _ below meth c D cA ad σ0 τ0 C  50
  have K19 := hA
  clear hA
  obtain ⟨hx, hb, _, hown, hts, _, hk, hr, _, _⟩ := C
  refine lv_aload_n hx hb dX0_hearersSoFar_0 rfl (lv_at hl 0 rfl) ?_
  refine fg_0_1 (k := 22) hx hb hts in_X0_hearersSoFar_0 hown hK hP (by decide) (by decide) (hts _ lk_X0_hearersSoFar_15) dX0_hearersSoFar_1 ?_
  refine lv_aload_n hx hb dX0_hearersSoFar_4 rfl (lv_at hl 1 rfl) ?_
  refine r_cVv (k := 21) (As := [.ref (ad 7)]) (rest := []) ⟨hx, hb, hml, hown, hts⟩ hK hP hN hS (c_X1_pitch l D cA ad hI σ0 τ0 hR 7 ⟨by omega, by omega⟩) (cwV 1 hts gX0_hearersSoFar_X1_pitch rfl rfl rfl (by decide +kernel) ⟨by decide, by decide⟩) (rv_Camp hK hP (by decide) (by decide)) rfl hl.1 rfl (Nat.le_of_ble_eq_true rfl) dX0_hearersSoFar_5 (Nat.zero_le _) (Nat.zero_le _) (fun u1 H1 locs1 hp1 hP hS => ?_)
  obtain ⟨σ1, τ1⟩ := u1
  obtain ⟨hR, f1, fL1⟩ : P_X1_pitch σ0 τ0 7 σ1 τ1 := hp1
  have hP : va_P D vwCl (gw cA ad σ1 τ1) H1 := hP
  obtain rfl := FrL.nil fL1
  have hF := hF.step f1 (by decide)
  refine lv_aload_n hx hb dX0_hearersSoFar_8 rfl (lv_at hl 0 rfl) ?_
  refine lv_aload_n hx hb dX0_hearersSoFar_9 rfl (lv_at hl 1 rfl) ?_
  refine r_cVi (k := 22) (As := [.ref (ad 7)]) (rest := []) ⟨hx, hb, hml, hown, hts⟩ hK hP hN hS (c_X0_past l D cA ad hI σ1 τ0 hR 7 ⟨by omega, by omega⟩) (cwV 1 hts gX0_hearersSoFar_X0_past rfl rfl rfl (by decide +kernel) ⟨by decide, by decide⟩) (rv_Acts hK hP (by decide) (by decide)) rfl hl.1 rfl (Nat.le_of_ble_eq_true rfl) dX0_hearersSoFar_10 (Nat.zero_le _) (Nat.zero_le _) (fun r2 u2 H2 locs2 hp2 hP hS => ?_)
  obtain ⟨σ2, τ2⟩ := u2
  obtain ⟨hR, f2, fL2, hq2, hp2_0⟩ : P_X0_past σ1 τ0 7 r2 σ2 τ2 := hp2
  have hP : va_P D vwCl (gw cA ad σ2 τ2) H2 := hP
  obtain rfl := FrL.nil fL2
  obtain rfl := Fr.nil f2
  refine lv_istore_n (lv' := [(2, .int r2), (0, .ref (ad 22)), (1, .ref (ad 7))]) hx hb dX0_hearersSoFar_13 rfl hl (by decide) rfl (fun ls hl => ?_)
  refine r_iconst hx hb dX0_hearersSoFar_14 (by decide) (fun z3 ez3 => ?_)
  refine lv_istore_n (lv' := [(3, .int z3), (2, .int r2), (0, .ref (ad 22)), (1, .ref (ad 7))]) hx hb dX0_hearersSoFar_15 rfl hl (by decide) rfl (fun ls hl => ?_)
  refine r_iconst hx hb dX0_hearersSoFar_16 (by decide) (fun z4 ez4 => ?_)
  refine lv_istore (lv' := [(4, .int z4), (3, .int z3), (2, .int r2), (0, .ref (ad 22)), (1, .ref (ad 7))]) hx hb dX0_hearersSoFar_17 hl (by decide) rfl (fun ls hl => ?_)
  exact K19 σ1 τ0 H2 locs2 r2 z3 z4 ls hR hF hFL hP hS (by omega) (by omega) (by omega) (lv_sub hl [3, 4, 2, 1, 0] rfl) (by omega)
theorem in_X6_isSo_6 : ∀ w ∈ u_ws RX6 TX6 7, w ∈ wsX6_isSo := by decide +kernel
theorem lk_X6_isSo_15 : Cond.fieldLink RX6 15 "CuckooShares$Sentence" "sign" "[I" ∈ wsX6_isSo := by decide +kernel
theorem lk_X6_isSo_18 : Cond.fieldLink RX6 18 "CuckooShares$Sentence" "value" "[I" ∈ wsX6_isSo := by decide +kernel
abbrev L_X6_isSo : List Rc := []
abbrev LL_X6_isSo : List Rc := []
def P_X6_isSo (σ0 : Nat → Nat → Int32) (τ0 : Nat → Nat → Int64) (a1 : Int32) (a2 : Int32) (r : Int32) (σ : Nat → Nat → Int32) (τ : Nat → Nat → Int64) : Prop := Rg σ ∧ Fr L_X6_isSo σ0 σ ∧ FrL LL_X6_isSo τ0 τ ∧ (0 ≤ r.toInt ∧ r.toInt ≤ 1)
set_option maxHeartbeats 4000000 in
theorem c_X6_isSo (l : Launch) (D : va_G) (cA : Nat → ClassId) (ad : Nat → Nat) (hI : Inj ad) (σ0 : Nat → Nat → Int32) (τ0 : Nat → Nat → Int64) (hR : Rg σ0) (a1 : Int32) (a2 : Int32) (ha1 : 0 ≤ a1.toInt ∧ a1.toInt ≤ 39) : Met l yX6_isSo wsX6_isSo ({ frames := 0, cells := 0, slots := 0, locals := 0 } : Room) (WQc D cA ad [.ref (ad 23), .int a1, .int a2] σ0 τ0) (va_Qi (fun (r : Int32) (u : SS) => P_X6_isSo σ0 τ0 a1 a2 r u.1 u.2) (WB D cA ad) (AA ad)) 0 0 (AA ad) := by
  refine Met.ofW (cc := cX6_isSo) (maxL := 3) (ret := (some .boolean)) (by decide) rfl ?_
  intro p e s m args below meth c s₁ B hml hv
  obtain ⟨rfl, hP, hK, hN⟩ := hv
  have C : Cy p s m _ meth c cX6_isSo 3 wsX6_isSo RX6 D cA ad (some .boolean) := ⟨B.exec, B.bytes, hml, findClass_of_methodNamed B.named, atoms_spec (ws := wsX6_isSo) B.pre, hK, B.notSynchronized, B.returns, hI, hN⟩
  have hl := lv_entry ([.ref (ad 23), .int a1, .int a2]) (n := 3) (Nat.le_of_ble_eq_true rfl)
  rw [lg_entry_eq]
  generalize (lg_sl ([.ref (ad 23), .int a1, .int a2]) ++ List.replicate (3 - (lg_sl ([.ref (ad 23), .int a1, .int a2])).length) Slot.unset).toArray = ls at hl ⊢
  have hl : lv_has ls 3 [(0, .ref (ad 23)), (1, .int a1), (2, .int a2)] := hl
  have hS : va_S (AA ad) s.heap s.heap [] := va_S.rf
  have hF : Fr L_X6_isSo σ0 σ0 := Fr.rf
  have hFL : FrL LL_X6_isSo τ0 τ0 := FrL.rf
  obtain ⟨hx, hb, _, hown, hts, _, hk, hr, _, _⟩ := C
  refine lv_aload_n hx hb dX6_isSo_0 rfl (lv_at hl 0 rfl) ?_
  refine fg_6_4 (k := 23) hx hb hts in_X6_isSo_6 hown hK hP (by decide) (by decide) (hts _ lk_X6_isSo_15) dX6_isSo_1 ?_
  refine lv_iload_n hx hb dX6_isSo_4 rfl (lv_at hl 1 rfl) ?_
  obtain ⟨j1, ej1⟩ : ∃ j : Nat, a1.toInt = (j : Int) := ⟨_, ti_nat (by omega)⟩
  refine ad_sent40 (k := 375) (j := j1) hx hb hK hP (by decide) (by decide) ej1 (by omega) dX6_isSo_5 ?_
  by_cases c2 : (σ0 375 j1).toInt = 41
  · refine lv_lookup (off := 26) (tgt := 32) hx hb dX6_isSo_6 (by decide) (by rw [c2]; rfl) (by decide) ?_
    refine lv_iload_n hx hb dX6_isSo_32 rfl (lv_at hl 2 rfl) ?_
    refine lv_aload_n hx hb dX6_isSo_33 rfl (lv_at hl 0 rfl) ?_
    refine fg_6_5 (k := 23) hx hb hts in_X6_isSo_6 hown hK hP (by decide) (by decide) (hts _ lk_X6_isSo_18) dX6_isSo_34 ?_
    refine lv_iload_n hx hb dX6_isSo_37 rfl (lv_at hl 1 rfl) ?_
    refine ad_sent40 (k := 379) (j := j1) hx hb hK hP (by decide) (by decide) ej1 (by omega) dX6_isSo_38 ?_
    refine r_icmp_ge (tgt := 46) hx hb dX6_isSo_39 (by decide) (fun c3 => ?_) (fun c3 => ?_)
    · refine r_iconst hx hb dX6_isSo_46 (by decide) (fun z4 ez4 => ?_)
      exact r_zret hx hb hr hK hP hS hk (by omega) dX6_isSo_47 (show P_X6_isSo σ0 τ0 a1 a2 z4 σ0 τ0 from ⟨hR, hF, hFL, by omega⟩)
    · refine r_iconst hx hb dX6_isSo_42 (by decide) (fun z5 ez5 => ?_)
      refine lv_goto (tgt := 47) hx hb dX6_isSo_43 (by decide) ?_
      exact r_zret hx hb hr hK hP hS hk (by omega) dX6_isSo_47 (show P_X6_isSo σ0 τ0 a1 a2 z5 σ0 τ0 from ⟨hR, hF, hFL, by omega⟩)
  by_cases c6 : (σ0 375 j1).toInt = 43
  · refine lv_lookup (off := 42) (tgt := 48) hx hb dX6_isSo_6 (by decide) (by rw [c6]; rfl) (by decide) ?_
    refine lv_iload_n hx hb dX6_isSo_48 rfl (lv_at hl 2 rfl) ?_
    refine lv_aload_n hx hb dX6_isSo_49 rfl (lv_at hl 0 rfl) ?_
    refine fg_6_5 (k := 23) hx hb hts in_X6_isSo_6 hown hK hP (by decide) (by decide) (hts _ lk_X6_isSo_18) dX6_isSo_50 ?_
    refine lv_iload_n hx hb dX6_isSo_53 rfl (lv_at hl 1 rfl) ?_
    refine ad_sent40 (k := 379) (j := j1) hx hb hK hP (by decide) (by decide) ej1 (by omega) dX6_isSo_54 ?_
    refine r_icmp_le (tgt := 62) hx hb dX6_isSo_55 (by decide) (fun c7 => ?_) (fun c7 => ?_)
    · refine r_iconst hx hb dX6_isSo_62 (by decide) (fun z8 ez8 => ?_)
      exact r_zret hx hb hr hK hP hS hk (by omega) dX6_isSo_63 (show P_X6_isSo σ0 τ0 a1 a2 z8 σ0 τ0 from ⟨hR, hF, hFL, by omega⟩)
    · refine r_iconst hx hb dX6_isSo_58 (by decide) (fun z9 ez9 => ?_)
      refine lv_goto (tgt := 63) hx hb dX6_isSo_59 (by decide) ?_
      exact r_zret hx hb hr hK hP hS hk (by omega) dX6_isSo_63 (show P_X6_isSo σ0 τ0 a1 a2 z9 σ0 τ0 from ⟨hR, hF, hFL, by omega⟩)
  refine lv_lookup (off := 58) (tgt := 64) hx hb dX6_isSo_6 (by decide) (by simp [Op.lookupswitch.offset, c2, Ne.symm c2, c6, Ne.symm c6]) (by decide) ?_
  refine lv_iload_n hx hb dX6_isSo_64 rfl (lv_at hl 2 rfl) ?_
  refine lv_aload_n hx hb dX6_isSo_65 rfl (lv_at hl 0 rfl) ?_
  refine fg_6_5 (k := 23) hx hb hts in_X6_isSo_6 hown hK hP (by decide) (by decide) (hts _ lk_X6_isSo_18) dX6_isSo_66 ?_
  refine lv_iload_n hx hb dX6_isSo_69 rfl (lv_at hl 1 rfl) ?_
  refine ad_sent40 (k := 379) (j := j1) hx hb hK hP (by decide) (by decide) ej1 (by omega) dX6_isSo_70 ?_
  refine r_icmp_ne (tgt := 78) hx hb dX6_isSo_71 (by decide) (fun c10 => ?_) (fun c10 => ?_)
  · refine r_iconst hx hb dX6_isSo_78 (by decide) (fun z11 ez11 => ?_)
    exact r_zret hx hb hr hK hP hS hk (by omega) dX6_isSo_79 (show P_X6_isSo σ0 τ0 a1 a2 z11 σ0 τ0 from ⟨hR, hF, hFL, by omega⟩)
  · refine r_iconst hx hb dX6_isSo_74 (by decide) (fun z12 ez12 => ?_)
    refine lv_goto (tgt := 79) hx hb dX6_isSo_75 (by decide) ?_
    exact r_zret hx hb hr hK hP hS hk (by omega) dX6_isSo_79 (show P_X6_isSo σ0 τ0 a1 a2 z12 σ0 τ0 from ⟨hR, hF, hFL, by omega⟩)
theorem in_X6_measure_2 : ∀ w ∈ u_ws RX2 TX2 7, w ∈ wsX6_measure := by decide +kernel
theorem in_X6_measure_9 : ∀ w ∈ u_ws RX9 TX9 14, w ∈ wsX6_measure := by decide +kernel
abbrev L_X6_measure : List Rc := []
abbrev LL_X6_measure : List Rc := []
def P_X6_measure (σ0 : Nat → Nat → Int32) (τ0 : Nat → Nat → Int64) (a0 : Int32) (a1 : Int32) (r : Int32) (σ : Nat → Nat → Int32) (τ : Nat → Nat → Int64) : Prop := Rg σ ∧ Fr L_X6_measure σ0 σ ∧ FrL LL_X6_measure τ0 τ
set_option maxHeartbeats 4000000 in
theorem c_X6_measure (l : Launch) (D : va_G) (cA : Nat → ClassId) (ad : Nat → Nat) (hI : Inj ad) (σ0 : Nat → Nat → Int32) (τ0 : Nat → Nat → Int64) (hR : Rg σ0) (a0 : Int32) (a1 : Int32) (ha1 : 0 ≤ a1.toInt ∧ a1.toInt ≤ 7) : Met l yX6_measure wsX6_measure ({ frames := 0, cells := 0, slots := 0, locals := 0 } : Room) (WQc D cA ad [.int a0, .int a1, .ref (ad 2), .ref (ad 7)] σ0 τ0) (va_Qi (fun (r : Int32) (u : SS) => P_X6_measure σ0 τ0 a0 a1 r u.1 u.2) (WB D cA ad) (AA ad)) 0 0 (AA ad) := by
  refine Met.ofW (cc := cX6_measure) (maxL := 4) (ret := (some .int)) (by decide) rfl ?_
  intro p e s m args below meth c s₁ B hml hv
  obtain ⟨rfl, hP, hK, hN⟩ := hv
  have C : Cy p s m _ meth c cX6_measure 4 wsX6_measure RX6 D cA ad (some .int) := ⟨B.exec, B.bytes, hml, findClass_of_methodNamed B.named, atoms_spec (ws := wsX6_measure) B.pre, hK, B.notSynchronized, B.returns, hI, hN⟩
  have hl := lv_entry ([.int a0, .int a1, .ref (ad 2), .ref (ad 7)]) (n := 4) (Nat.le_of_ble_eq_true rfl)
  rw [lg_entry_eq]
  generalize (lg_sl ([.int a0, .int a1, .ref (ad 2), .ref (ad 7)]) ++ List.replicate (4 - (lg_sl ([.int a0, .int a1, .ref (ad 2), .ref (ad 7)])).length) Slot.unset).toArray = ls at hl ⊢
  have hl : lv_has ls 4 [(0, .int a0), (1, .int a1), (2, .ref (ad 2)), (3, .ref (ad 7))] := hl
  have hS : va_S (AA ad) s.heap s.heap [] := va_S.rf
  have hF : Fr L_X6_measure σ0 σ0 := Fr.rf
  have hFL : FrL LL_X6_measure τ0 τ0 := FrL.rf
  obtain ⟨hx, hb, _, hown, hts, _, hk, hr, _, _⟩ := C
  refine lv_iload_n hx hb dX6_measure_0 rfl (lv_at hl 0 rfl) ?_
  by_cases c1 : a0.toInt = 10
  · refine lv_lookup (off := 51) (tgt := 52) hx hb dX6_measure_1 (by decide) (by rw [c1]; rfl) (by decide) ?_
    refine lv_aload_n hx hb dX6_measure_52 rfl (lv_at hl 2 rfl) ?_
    refine fgN_9_10 (k := 2) hx hb hts in_X6_measure_9 hown hK hP (by decide) (by decide) (hN.use nw_6_85) dX6_measure_53 ?_
    refine lv_iload_n hx hb dX6_measure_56 rfl (lv_at hl 1 rfl) ?_
    obtain ⟨j2, ej2⟩ : ∃ j : Nat, a1.toInt = (j : Int) := ⟨_, ti_nat (by omega)⟩
    refine ad_manA (k := 52) (j := j2) hx hb hK hP (by decide) (by decide) ej2 (by omega) dX6_measure_57 ?_
    refine r_iconst hx hb dX6_measure_58 (by decide) (fun z3 ez3 => ?_)
    refine ad_manR (k := 100 + j2) (j := 3) hx hb hK hP (by omega) (by omega) (by omega) (by omega) dX6_measure_59 ?_
    exact r_iret hx hb hr hK hP hS hk dX6_measure_60 (show P_X6_measure σ0 τ0 a0 a1 (σ0 (100 + j2) 3) σ0 τ0 from ⟨hR, hF, hFL⟩)
  by_cases c4 : a0.toInt = 11
  · refine lv_lookup (off := 60) (tgt := 61) hx hb dX6_measure_1 (by decide) (by rw [c4]; rfl) (by decide) ?_
    refine lv_aload_n hx hb dX6_measure_61 rfl (lv_at hl 2 rfl) ?_
    refine fgN_9_10 (k := 2) hx hb hts in_X6_measure_9 hown hK hP (by decide) (by decide) (hN.use nw_6_85) dX6_measure_62 ?_
    refine lv_iload_n hx hb dX6_measure_65 rfl (lv_at hl 1 rfl) ?_
    obtain ⟨j5, ej5⟩ : ∃ j : Nat, a1.toInt = (j : Int) := ⟨_, ti_nat (by omega)⟩
    refine ad_manA (k := 52) (j := j5) hx hb hK hP (by decide) (by decide) ej5 (by omega) dX6_measure_66 ?_
    refine r_iconst hx hb dX6_measure_67 (by decide) (fun z6 ez6 => ?_)
    refine ad_manR (k := 100 + j5) (j := 4) hx hb hK hP (by omega) (by omega) (by omega) (by omega) dX6_measure_68 ?_
    refine r_iconst hx hb dX6_measure_69 (by decide) (fun z7 ez7 => ?_)
    refine r_icmp_ne (tgt := 77) hx hb dX6_measure_70 (by decide) (fun c8 => ?_) (fun c8 => ?_)
    · refine r_iconst hx hb dX6_measure_77 (by decide) (fun z9 ez9 => ?_)
      exact r_iret hx hb hr hK hP hS hk dX6_measure_78 (show P_X6_measure σ0 τ0 a0 a1 z9 σ0 τ0 from ⟨hR, hF, hFL⟩)
    · refine r_iconst hx hb dX6_measure_73 (by decide) (fun z10 ez10 => ?_)
      refine lv_goto (tgt := 78) hx hb dX6_measure_74 (by decide) ?_
      exact r_iret hx hb hr hK hP hS hk dX6_measure_78 (show P_X6_measure σ0 τ0 a0 a1 z10 σ0 τ0 from ⟨hR, hF, hFL⟩)
  by_cases c11 : a0.toInt = 27
  · refine lv_lookup (off := 78) (tgt := 79) hx hb dX6_measure_1 (by decide) (by rw [c11]; rfl) (by decide) ?_
    refine lv_aload_n hx hb dX6_measure_79 rfl (lv_at hl 3 rfl) ?_
    refine fgN_2_4 (k := 7) hx hb hts in_X6_measure_2 hown hK hP (by decide) (by decide) (hN.use nw_6_89) dX6_measure_80 ?_
    refine lv_iload_n hx hb dX6_measure_83 rfl (lv_at hl 1 rfl) ?_
    obtain ⟨j12, ej12⟩ : ∃ j : Nat, a1.toInt = (j : Int) := ⟨_, ti_nat (by omega)⟩
    refine ad_days8 (k := 321) (j := j12) hx hb hK hP (by decide) (by decide) ej12 (by omega) dX6_measure_84 ?_
    exact r_iret hx hb hr hK hP hS hk dX6_measure_85 (show P_X6_measure σ0 τ0 a0 a1 (σ0 321 j12) σ0 τ0 from ⟨hR, hF, hFL⟩)
  by_cases c13 : a0.toInt = 28
  · refine lv_lookup (off := 85) (tgt := 86) hx hb dX6_measure_1 (by decide) (by rw [c13]; rfl) (by decide) ?_
    refine lv_aload_n hx hb dX6_measure_86 rfl (lv_at hl 3 rfl) ?_
    refine fgN_2_6 (k := 7) hx hb hts in_X6_measure_2 hown hK hP (by decide) (by decide) (hN.use nw_6_92) dX6_measure_87 ?_
    refine lv_iload_n hx hb dX6_measure_90 rfl (lv_at hl 1 rfl) ?_
    obtain ⟨j14, ej14⟩ : ∃ j : Nat, a1.toInt = (j : Int) := ⟨_, ti_nat (by omega)⟩
    refine ad_days8 (k := 347) (j := j14) hx hb hK hP (by decide) (by decide) ej14 (by omega) dX6_measure_91 ?_
    exact r_iret hx hb hr hK hP hS hk dX6_measure_92 (show P_X6_measure σ0 τ0 a0 a1 (σ0 347 j14) σ0 τ0 from ⟨hR, hF, hFL⟩)
  by_cases c15 : a0.toInt = 29
  · refine lv_lookup (off := 92) (tgt := 93) hx hb dX6_measure_1 (by decide) (by rw [c15]; rfl) (by decide) ?_
    refine lv_aload_n hx hb dX6_measure_93 rfl (lv_at hl 2 rfl) ?_
    refine fgN_9_10 (k := 2) hx hb hts in_X6_measure_9 hown hK hP (by decide) (by decide) (hN.use nw_6_85) dX6_measure_94 ?_
    refine lv_iload_n hx hb dX6_measure_97 rfl (lv_at hl 1 rfl) ?_
    obtain ⟨j16, ej16⟩ : ∃ j : Nat, a1.toInt = (j : Int) := ⟨_, ti_nat (by omega)⟩
    refine ad_manA (k := 52) (j := j16) hx hb hK hP (by decide) (by decide) ej16 (by omega) dX6_measure_98 ?_
    refine r_iconst hx hb dX6_measure_99 (by decide) (fun z17 ez17 => ?_)
    refine ad_manR (k := 100 + j16) (j := 1) hx hb hK hP (by omega) (by omega) (by omega) (by omega) dX6_measure_100 ?_
    exact r_iret hx hb hr hK hP hS hk dX6_measure_101 (show P_X6_measure σ0 τ0 a0 a1 (σ0 (100 + j16) 1) σ0 τ0 from ⟨hR, hF, hFL⟩)
  refine lv_lookup (off := 101) (tgt := 102) hx hb dX6_measure_1 (by decide) (by simp [Op.lookupswitch.offset, c1, Ne.symm c1, c4, Ne.symm c4, c11, Ne.symm c11, c13, Ne.symm c13, c15, Ne.symm c15]) (by decide) ?_
  refine lv_iload_n hx hb dX6_measure_102 rfl (lv_at hl 1 rfl) ?_
  exact r_iret hx hb hr hK hP hS hk dX6_measure_103 (show P_X6_measure σ0 τ0 a0 a1 a1 σ0 τ0 from ⟨hR, hF, hFL⟩)
theorem in_X6_menWhoAre_6 : ∀ w ∈ u_ws RX6 TX6 7, w ∈ wsX6_menWhoAre := by decide +kernel
theorem in_X6_menWhoAre_9 : ∀ w ∈ u_ws RX9 TX9 14, w ∈ wsX6_menWhoAre := by decide +kernel
theorem lk_X6_menWhoAre_9 : Cond.fieldLink RX6 9 "CuckooShares$Sentence" "word" "[I" ∈ wsX6_menWhoAre := by decide +kernel
abbrev L_X6_menWhoAre : List Rc := []
abbrev LL_X6_menWhoAre : List Rc := []
def P_X6_menWhoAre (σ0 : Nat → Nat → Int32) (τ0 : Nat → Nat → Int64) (a1 : Int32) (r : Int32) (σ : Nat → Nat → Int32) (τ : Nat → Nat → Int64) : Prop := Rg σ ∧ Fr L_X6_menWhoAre σ0 σ ∧ FrL LL_X6_menWhoAre τ0 τ
def J_X6_menWhoAre_6 (p : Program) (l : Launch) (e : Env) (s : State) (m : MethodId) (args : Array Value) (below : List Frame) (meth : Method) (c : Code) (D : va_G) (cA : Nat → ClassId) (ad : Nat → Nat) (σ0 : Nat → Nat → Int32) (τ0 : Nat → Nat → Int64) (a1 : Int32) (n : Nat) : Prop := ∀ (σ : Nat → Nat → Int32) (τ : Nat → Nat → Int64) (H : Heap) (locs : List Loc) (x4 : Int32) (x5 : Int32) (ls : Array Slot), Rg σ → Fr L_X6_menWhoAre σ0 σ → FrL LL_X6_menWhoAre τ0 τ → va_P D vwCl (gw cA ad σ τ) H → va_S (AA ad) s.heap H locs → (0 ≤ x5.toInt ∧ x5.toInt ≤ 8) → lv_has ls 6 [(0, .ref (ad 23)), (1, .int a1), (2, .ref (ad 2)), (3, .ref (ad 7)), (4, .int x4), (5, .int x5)] → 2 * (8 - x5.toInt) + 1 < (n : Int) → W p l e ({ frames := 1, cells := 0, slots := 0, locals := 23 } : Room) s m args below meth c H locs 0 0 (MQ below (va_Qi (fun (r : Int32) (u : SS) => P_X6_menWhoAre σ0 τ0 a1 r u.1 u.2) (WB D cA ad) (AA ad)) args s 0 0 (AA ad)) (F0 m 6 ls [])
set_option maxHeartbeats 4000000 in
theorem B_X6_menWhoAre_6 (p : Program) (l : Launch) (e : Env) (s : State) (m : MethodId) (args : Array Value) (below : List Frame) (meth : Method) (c : Code) (D : va_G) (cA : Nat → ClassId) (ad : Nat → Nat) (σ0 : Nat → Nat → Int32) (τ0 : Nat → Nat → Int64) (a1 : Int32) (n : Nat) (C : Cy p s m args meth c cX6_menWhoAre 6 wsX6_menWhoAre RX6 D cA ad (some .int)) (ha1 : 0 ≤ a1.toInt ∧ a1.toInt ≤ 39) (K6 : J_X6_menWhoAre_6 p l e s m args below meth c D cA ad σ0 τ0 a1 n) : J_X6_menWhoAre_6 p l e s m args below meth c D cA ad σ0 τ0 a1 (n + 1) := by
  obtain ⟨hx, hb, hml, hown, hts, hK, hk, hr, hI, hN⟩ := C
  intro σ τ H locs x4 x5 ls hR hF hFL hP hS hc0 hl hm
  obtain rfl := Fr.nil hF
  obtain rfl := FrL.nil hFL
  refine lv_iload hx hb dX6_menWhoAre_6 (lv_at hl 5 rfl) ?_
  refine lv_aload_n hx hb dX6_menWhoAre_8 rfl (lv_at hl 2 rfl) ?_
  refine fgN_9_5 (k := 2) hx hb hts in_X6_menWhoAre_9 hown hK hP (by decide) (by decide) (hN.use nw_6_51) dX6_menWhoAre_9 ?_
  have hr1 := rg_9_5 hR (k := 2) (by decide) (by decide)
  refine r_icmp_ge (tgt := 51) hx hb dX6_menWhoAre_12 (by decide) (fun c2 => ?_) (fun c2 => ?_)
  · refine lv_iload hx hb dX6_menWhoAre_51 (lv_at hl 4 rfl) ?_
    exact r_iret hx hb hr hK hP hS hk dX6_menWhoAre_53 (show P_X6_menWhoAre σ0 τ0 a1 x4 σ0 τ0 from ⟨hR, hF, hFL⟩)
  · refine lv_aload_n hx hb dX6_menWhoAre_15 rfl (lv_at hl 0 rfl) ?_
    refine lv_iload_n hx hb dX6_menWhoAre_16 rfl (lv_at hl 1 rfl) ?_
    refine lv_aload_n hx hb dX6_menWhoAre_17 rfl (lv_at hl 0 rfl) ?_
    refine fg_6_3 (k := 23) hx hb hts in_X6_menWhoAre_6 hown hK hP (by decide) (by decide) (hts _ lk_X6_menWhoAre_9) dX6_menWhoAre_18 ?_
    refine lv_iload_n hx hb dX6_menWhoAre_21 rfl (lv_at hl 1 rfl) ?_
    obtain ⟨j3, ej3⟩ : ∃ j : Nat, a1.toInt = (j : Int) := ⟨_, ti_nat (by omega)⟩
    refine ad_sent40 (k := 371) (j := j3) hx hb hK hP (by decide) (by decide) ej3 (by omega) dX6_menWhoAre_22 ?_
    refine lv_iload hx hb dX6_menWhoAre_23 (lv_at hl 5 rfl) ?_
    refine lv_aload_n hx hb dX6_menWhoAre_25 rfl (lv_at hl 2 rfl) ?_
    refine lv_aload_n hx hb dX6_menWhoAre_26 rfl (lv_at hl 3 rfl) ?_
    refine r_cSi (As := [.int (σ0 371 j3), .int x5, .ref (ad 2), .ref (ad 7)]) (rest := [.int a1, .ref (ad 23)]) ⟨hx, hb, hml, hown, hts⟩ hK hP hN hS (c_X6_measure l D cA ad hI σ0 τ0 hR (σ0 371 j3) x5 (by omega)) (va_cwS 4 hts gX6_menWhoAre_X6_measure rfl rfl rfl (by decide +kernel) ⟨by decide, by decide⟩) rfl hl.1 rfl (Nat.le_of_ble_eq_true rfl) dX6_menWhoAre_27 (Nat.zero_le _) (Nat.zero_le _) (fun r4 u4 H4 locs4 hp4 hP hS => ?_)
    obtain ⟨σ4, τ4⟩ := u4
    obtain ⟨hR, f4, fL4⟩ : P_X6_measure σ0 τ0 (σ0 371 j3) x5 r4 σ4 τ4 := hp4
    have hP : va_P D vwCl (gw cA ad σ4 τ4) H4 := hP
    obtain rfl := FrL.nil fL4
    obtain rfl := Fr.nil f4
    refine r_cVi (k := 23) (As := [.int a1, .int r4]) (rest := []) ⟨hx, hb, hml, hown, hts⟩ hK hP hN hS (c_X6_isSo l D cA ad hI σ0 τ0 hR a1 r4 (by omega)) (cwV 2 hts gX6_menWhoAre_X6_isSo rfl rfl rfl (by decide +kernel) ⟨by decide, by decide⟩) (rv_Sent hK hP (by decide) (by decide)) rfl hl.1 rfl (Nat.le_of_ble_eq_true rfl) dX6_menWhoAre_30 (Nat.zero_le _) (Nat.zero_le _) (fun r5 u5 H5 locs5 hp5 hP hS => ?_)
    obtain ⟨σ5, τ5⟩ := u5
    obtain ⟨hR, f5, fL5, hq5⟩ : P_X6_isSo σ0 τ0 a1 r4 r5 σ5 τ5 := hp5
    have hP : va_P D vwCl (gw cA ad σ5 τ5) H5 := hP
    obtain rfl := FrL.nil fL5
    obtain rfl := Fr.nil f5
    refine r_if_eq (tgt := 45) hx hb dX6_menWhoAre_33 (by decide) (fun c6 => ?_) (fun c6 => ?_)
    · refine r_iinc (k := 5) (lv1 := fun z7 => [(5, .int z7), (0, .ref (ad 23)), (1, .int a1), (2, .ref (ad 2)), (3, .ref (ad 7)), (4, .int x4)]) hx hb dX6_menWhoAre_45 hl rfl (by decide) (fun _ => rfl) (by decide) (by omega) (fun z7 ls ez7 hl => ?_)
      refine lv_goto (tgt := 6) hx hb dX6_menWhoAre_48 (by decide) ?_
      exact K6 σ0 τ0 H5 locs5 x4 z7 ls hR hF hFL hP hS (by omega) (lv_sub hl [1, 2, 3, 4, 5, 0] rfl) (by omega)
    · refine lv_iload hx hb dX6_menWhoAre_36 (lv_at hl 4 rfl) ?_
      refine r_iconst hx hb dX6_menWhoAre_38 (by decide) (fun z8 ez8 => ?_)
      refine lv_iload hx hb dX6_menWhoAre_39 (lv_at hl 5 rfl) ?_
      refine r_ishlU hx hb dX6_menWhoAre_41 (fun z9 => ?_)
      refine r_iorU hx hb dX6_menWhoAre_42 (fun z10 => ?_)
      refine lv_istore (lv' := [(4, .int z10), (0, .ref (ad 23)), (1, .int a1), (2, .ref (ad 2)), (3, .ref (ad 7)), (5, .int x5)]) hx hb dX6_menWhoAre_43 hl (by decide) rfl (fun ls hl => ?_)
      refine r_iinc (k := 5) (lv1 := fun z11 => [(5, .int z11), (4, .int z10), (0, .ref (ad 23)), (1, .int a1), (2, .ref (ad 2)), (3, .ref (ad 7))]) hx hb dX6_menWhoAre_45 hl rfl (by decide) (fun _ => rfl) (by decide) (by omega) (fun z11 ls ez11 hl => ?_)
      refine lv_goto (tgt := 6) hx hb dX6_menWhoAre_48 (by decide) ?_
      exact K6 σ0 τ0 H5 locs5 z10 z11 ls hR hF hFL hP hS (by omega) (lv_sub hl [2, 3, 4, 5, 1, 0] rfl) (by omega)
theorem A_X6_menWhoAre (p : Program) (l : Launch) (e : Env) (s : State) (m : MethodId) (args : Array Value) (below : List Frame) (meth : Method) (c : Code) (D : va_G) (cA : Nat → ClassId) (ad : Nat → Nat) (σ0 : Nat → Nat → Int32) (τ0 : Nat → Nat → Int64) (a1 : Int32) (C : Cy p s m args meth c cX6_menWhoAre 6 wsX6_menWhoAre RX6 D cA ad (some .int)) (ha1 : 0 ≤ a1.toInt ∧ a1.toInt ≤ 39) : ∀ n : Nat, J_X6_menWhoAre_6 p l e s m args below meth c D cA ad σ0 τ0 a1 n := by
  intro n
  induction n with
  | zero =>
    exact (by intro σ τ H locs x4 x5 ls hR hF hFL hP hS hc0 hl hm; exfalso; omega)
  | succ n ih =>
    exact B_X6_menWhoAre_6 p l e s m args below meth c D cA ad σ0 τ0 a1 n C ha1 ih
set_option maxHeartbeats 4000000 in
theorem c_X6_menWhoAre (l : Launch) (D : va_G) (cA : Nat → ClassId) (ad : Nat → Nat) (hI : Inj ad) (σ0 : Nat → Nat → Int32) (τ0 : Nat → Nat → Int64) (hR : Rg σ0) (a1 : Int32) (ha1 : 0 ≤ a1.toInt ∧ a1.toInt ≤ 39) : Met l yX6_menWhoAre wsX6_menWhoAre ({ frames := 1, cells := 0, slots := 0, locals := 23 } : Room) (WQc D cA ad [.ref (ad 23), .int a1, .ref (ad 2), .ref (ad 7)] σ0 τ0) (va_Qi (fun (r : Int32) (u : SS) => P_X6_menWhoAre σ0 τ0 a1 r u.1 u.2) (WB D cA ad) (AA ad)) 0 0 (AA ad) := by
  refine Met.ofW (cc := cX6_menWhoAre) (maxL := 6) (ret := (some .int)) (by decide) rfl ?_
  intro p e s m args below meth c s₁ B hml hv
  obtain ⟨rfl, hP, hK, hN⟩ := hv
  have C : Cy p s m _ meth c cX6_menWhoAre 6 wsX6_menWhoAre RX6 D cA ad (some .int) := ⟨B.exec, B.bytes, hml, findClass_of_methodNamed B.named, atoms_spec (ws := wsX6_menWhoAre) B.pre, hK, B.notSynchronized, B.returns, hI, hN⟩
  have hl := lv_entry ([.ref (ad 23), .int a1, .ref (ad 2), .ref (ad 7)]) (n := 6) (Nat.le_of_ble_eq_true rfl)
  rw [lg_entry_eq]
  generalize (lg_sl ([.ref (ad 23), .int a1, .ref (ad 2), .ref (ad 7)]) ++ List.replicate (6 - (lg_sl ([.ref (ad 23), .int a1, .ref (ad 2), .ref (ad 7)])).length) Slot.unset).toArray = ls at hl ⊢
  have hl : lv_has ls 6 [(0, .ref (ad 23)), (1, .int a1), (2, .ref (ad 2)), (3, .ref (ad 7))] := hl
  have hS : va_S (AA ad) s.heap s.heap [] := va_S.rf
  have hF : Fr L_X6_menWhoAre σ0 σ0 := Fr.rf
  have hFL : FrL LL_X6_menWhoAre τ0 τ0 := FrL.rf
  have hA := A_X6_menWhoAre p l e s m _ below meth c D cA ad σ0 τ0 a1 C ha1 42
  have K6 := hA
  clear hA
  obtain ⟨hx, hb, _, hown, hts, _, hk, hr, _, _⟩ := C
  refine r_iconst hx hb dX6_menWhoAre_0 (by decide) (fun z1 ez1 => ?_)
  refine lv_istore (lv' := [(4, .int z1), (0, .ref (ad 23)), (1, .int a1), (2, .ref (ad 2)), (3, .ref (ad 7))]) hx hb dX6_menWhoAre_1 hl (by decide) rfl (fun ls hl => ?_)
  refine r_iconst hx hb dX6_menWhoAre_3 (by decide) (fun z2 ez2 => ?_)
  refine lv_istore (lv' := [(5, .int z2), (4, .int z1), (0, .ref (ad 23)), (1, .int a1), (2, .ref (ad 2)), (3, .ref (ad 7))]) hx hb dX6_menWhoAre_4 hl (by decide) rfl (fun ls hl => ?_)
  exact K6 σ0 τ0 s.heap [] z1 z2 ls hR hF hFL hP hS (by omega) (lv_sub hl [2, 3, 4, 5, 1, 0] rfl) (by omega)
theorem in_X6_menOfStep_6 : ∀ w ∈ u_ws RX6 TX6 7, w ∈ wsX6_menOfStep := by decide +kernel
theorem in_X6_menOfStep_9 : ∀ w ∈ u_ws RX9 TX9 14, w ∈ wsX6_menOfStep := by decide +kernel
theorem lk_X6_menOfStep_18 : Cond.fieldLink RX6 18 "CuckooShares$Sentence" "value" "[I" ∈ wsX6_menOfStep := by decide +kernel
theorem lk_X6_menOfStep_9 : Cond.fieldLink RX6 9 "CuckooShares$Sentence" "word" "[I" ∈ wsX6_menOfStep := by decide +kernel
abbrev L_X6_menOfStep : List Rc := [(360, 360, 0, 7), (361, 361, 0, 7), (362, 362, 0, 7)]
abbrev LL_X6_menOfStep : List Rc := []
def P_X6_menOfStep (σ0 : Nat → Nat → Int32) (τ0 : Nat → Nat → Int64) (a1 : Int32) (r : Int32) (σ : Nat → Nat → Int32) (τ : Nat → Nat → Int64) : Prop := Rg σ ∧ Fr L_X6_menOfStep σ0 σ ∧ FrL LL_X6_menOfStep τ0 τ
set_option maxHeartbeats 4000000 in
theorem c_X6_menOfStep (l : Launch) (D : va_G) (cA : Nat → ClassId) (ad : Nat → Nat) (hI : Inj ad) (σ0 : Nat → Nat → Int32) (τ0 : Nat → Nat → Int64) (hR : Rg σ0) (a1 : Int32) (ha1 : 0 ≤ a1.toInt ∧ a1.toInt ≤ 39) : Met l yX6_menOfStep wsX6_menOfStep ({ frames := 5, cells := 0, slots := 0, locals := 119 } : Room) (WQc D cA ad [.ref (ad 23), .int a1, .ref (ad 2), .ref (ad 7), .ref (ad 22)] σ0 τ0) (va_Qi (fun (r : Int32) (u : SS) => P_X6_menOfStep σ0 τ0 a1 r u.1 u.2) (WB D cA ad) (AA ad)) 0 0 (AA ad) := by
  refine Met.ofW (cc := cX6_menOfStep) (maxL := 5) (ret := (some .int)) (by decide) rfl ?_
  intro p e s m args below meth c s₁ B hml hv
  obtain ⟨rfl, hP, hK, hN⟩ := hv
  have C : Cy p s m _ meth c cX6_menOfStep 5 wsX6_menOfStep RX6 D cA ad (some .int) := ⟨B.exec, B.bytes, hml, findClass_of_methodNamed B.named, atoms_spec (ws := wsX6_menOfStep) B.pre, hK, B.notSynchronized, B.returns, hI, hN⟩
  have hl := lv_entry ([.ref (ad 23), .int a1, .ref (ad 2), .ref (ad 7), .ref (ad 22)]) (n := 5) (Nat.le_of_ble_eq_true rfl)
  rw [lg_entry_eq]
  generalize (lg_sl ([.ref (ad 23), .int a1, .ref (ad 2), .ref (ad 7), .ref (ad 22)]) ++ List.replicate (5 - (lg_sl ([.ref (ad 23), .int a1, .ref (ad 2), .ref (ad 7), .ref (ad 22)])).length) Slot.unset).toArray = ls at hl ⊢
  have hl : lv_has ls 5 [(0, .ref (ad 23)), (1, .int a1), (2, .ref (ad 2)), (3, .ref (ad 7)), (4, .ref (ad 22))] := hl
  have hS : va_S (AA ad) s.heap s.heap [] := va_S.rf
  have hF : Fr L_X6_menOfStep σ0 σ0 := Fr.rf
  have hFL : FrL LL_X6_menOfStep τ0 τ0 := FrL.rf
  obtain ⟨hx, hb, _, hown, hts, _, hk, hr, _, _⟩ := C
  refine lv_aload_n hx hb dX6_menOfStep_0 rfl (lv_at hl 0 rfl) ?_
  refine fg_6_3 (k := 23) hx hb hts in_X6_menOfStep_6 hown hK hP (by decide) (by decide) (hts _ lk_X6_menOfStep_9) dX6_menOfStep_1 ?_
  refine lv_iload_n hx hb dX6_menOfStep_4 rfl (lv_at hl 1 rfl) ?_
  obtain ⟨j1, ej1⟩ : ∃ j : Nat, a1.toInt = (j : Int) := ⟨_, ti_nat (by omega)⟩
  refine ad_sent40 (k := 371) (j := j1) hx hb hK hP (by decide) (by decide) ej1 (by omega) dX6_menOfStep_5 ?_
  by_cases c2 : (σ0 371 j1).toInt = 23
  · refine lv_tableIn (off := 30) (tgt := 36) hx hb dX6_menOfStep_6 (by omega) (by omega) (by rw [c2]; rfl) (by decide) ?_
    refine lv_aload_n hx hb dX6_menOfStep_36 rfl (lv_at hl 3 rfl) ?_
    refine lv_aload_n hx hb dX6_menOfStep_37 rfl (lv_at hl 2 rfl) ?_
    refine fgN_9_5 (k := 2) hx hb hts in_X6_menOfStep_9 hown hK hP (by decide) (by decide) (hN.use nw_6_51) dX6_menOfStep_38 ?_
    have hr3 := rg_9_5 hR (k := 2) (by decide) (by decide)
    refine r_cVi (k := 7) (As := [.int (σ0 2 5)]) (rest := []) ⟨hx, hb, hml, hown, hts⟩ hK hP hN hS (c_X2_swornMen l D cA ad hI σ0 τ0 hR (σ0 2 5) (by omega)) (cwV 1 hts gX6_menOfStep_X2_swornMen rfl rfl rfl (by decide +kernel) ⟨by decide, by decide⟩) (rv_Days hK hP (by decide) (by decide)) rfl hl.1 rfl (Nat.le_of_ble_eq_true rfl) dX6_menOfStep_41 (Nat.zero_le _) (Nat.zero_le _) (fun r4 u4 H4 locs4 hp4 hP hS => ?_)
    obtain ⟨σ4, τ4⟩ := u4
    obtain ⟨hR, f4, fL4⟩ : P_X2_swornMen σ0 τ0 (σ0 2 5) r4 σ4 τ4 := hp4
    have hP : va_P D vwCl (gw cA ad σ4 τ4) H4 := hP
    obtain rfl := FrL.nil fL4
    obtain rfl := Fr.nil f4
    exact r_iret hx hb hr hK hP hS hk dX6_menOfStep_44 (show P_X6_menOfStep σ0 τ0 a1 r4 σ0 τ0 from ⟨hR, hF, hFL⟩)
  by_cases c5 : (σ0 371 j1).toInt = 24
  · refine lv_tableIn (off := 39) (tgt := 45) hx hb dX6_menOfStep_6 (by omega) (by omega) (by rw [c5]; rfl) (by decide) ?_
    refine lv_aload hx hb dX6_menOfStep_45 (lv_at hl 4 rfl) ?_
    refine lv_aload_n hx hb dX6_menOfStep_47 rfl (lv_at hl 3 rfl) ?_
    refine r_cVi (k := 22) (As := [.ref (ad 7)]) (rest := []) ⟨hx, hb, hml, hown, hts⟩ hK hP hN hS (c_X0_liars l D cA ad hI σ0 τ0 hR) (cwV 1 hts gX6_menOfStep_X0_liars rfl rfl rfl (by decide +kernel) ⟨by decide, by decide⟩) (rv_Acts hK hP (by decide) (by decide)) rfl hl.1 rfl (Nat.le_of_ble_eq_true rfl) dX6_menOfStep_48 (Nat.zero_le _) (Nat.zero_le _) (fun r6 u6 H6 locs6 hp6 hP hS => ?_)
    obtain ⟨σ6, τ6⟩ := u6
    obtain ⟨hR, f6, fL6⟩ : P_X0_liars σ0 τ0 r6 σ6 τ6 := hp6
    have hP : va_P D vwCl (gw cA ad σ6 τ6) H6 := hP
    obtain rfl := FrL.nil fL6
    have hF := hF.step f6 (by decide)
    exact r_iret hx hb hr hK hP hS hk dX6_menOfStep_51 (show P_X6_menOfStep σ0 τ0 a1 r6 σ6 τ0 from ⟨hR, hF, hFL⟩)
  by_cases c7 : (σ0 371 j1).toInt = 25
  · refine lv_tableIn (off := 46) (tgt := 52) hx hb dX6_menOfStep_6 (by omega) (by omega) (by rw [c7]; rfl) (by decide) ?_
    refine lv_aload_n hx hb dX6_menOfStep_52 rfl (lv_at hl 3 rfl) ?_
    refine lv_aload_n hx hb dX6_menOfStep_53 rfl (lv_at hl 0 rfl) ?_
    refine fg_6_5 (k := 23) hx hb hts in_X6_menOfStep_6 hown hK hP (by decide) (by decide) (hts _ lk_X6_menOfStep_18) dX6_menOfStep_54 ?_
    refine lv_iload_n hx hb dX6_menOfStep_57 rfl (lv_at hl 1 rfl) ?_
    refine ad_sent40 (k := 379) (j := j1) hx hb hK hP (by decide) (by decide) ej1 (by omega) dX6_menOfStep_58 ?_
    refine lv_aload_n hx hb dX6_menOfStep_59 rfl (lv_at hl 2 rfl) ?_
    refine fgN_9_5 (k := 2) hx hb hts in_X6_menOfStep_9 hown hK hP (by decide) (by decide) (hN.use nw_6_51) dX6_menOfStep_60 ?_
    have hr8 := rg_9_5 hR (k := 2) (by decide) (by decide)
    refine r_cVi (k := 7) (As := [.int (σ0 379 j1), .int (σ0 2 5)]) (rest := []) ⟨hx, hb, hml, hown, hts⟩ hK hP hN hS (c_X2_menOn l D cA ad hI σ0 τ0 hR (σ0 379 j1) (σ0 2 5) (by omega)) (cwV 2 hts gX6_menOfStep_X2_menOn rfl rfl rfl (by decide +kernel) ⟨by decide, by decide⟩) (rv_Days hK hP (by decide) (by decide)) rfl hl.1 rfl (Nat.le_of_ble_eq_true rfl) dX6_menOfStep_63 (Nat.zero_le _) (Nat.zero_le _) (fun r9 u9 H9 locs9 hp9 hP hS => ?_)
    obtain ⟨σ9, τ9⟩ := u9
    obtain ⟨hR, f9, fL9⟩ : P_X2_menOn σ0 τ0 (σ0 379 j1) (σ0 2 5) r9 σ9 τ9 := hp9
    have hP : va_P D vwCl (gw cA ad σ9 τ9) H9 := hP
    obtain rfl := FrL.nil fL9
    obtain rfl := Fr.nil f9
    exact r_iret hx hb hr hK hP hS hk dX6_menOfStep_66 (show P_X6_menOfStep σ0 τ0 a1 r9 σ0 τ0 from ⟨hR, hF, hFL⟩)
  by_cases c10 : (σ0 371 j1).toInt = 26
  · refine lv_tableIn (off := 61) (tgt := 67) hx hb dX6_menOfStep_6 (by omega) (by omega) (by rw [c10]; rfl) (by decide) ?_
    refine lv_aload hx hb dX6_menOfStep_67 (lv_at hl 4 rfl) ?_
    refine lv_aload_n hx hb dX6_menOfStep_69 rfl (lv_at hl 3 rfl) ?_
    refine r_cVi (k := 22) (As := [.ref (ad 7)]) (rest := []) ⟨hx, hb, hml, hown, hts⟩ hK hP hN hS (c_X0_hearersSoFar l D cA ad hI σ0 τ0 hR) (cwV 1 hts gX6_menOfStep_X0_hearersSoFar rfl rfl rfl (by decide +kernel) ⟨by decide, by decide⟩) (rv_Acts hK hP (by decide) (by decide)) rfl hl.1 rfl (Nat.le_of_ble_eq_true rfl) dX6_menOfStep_70 (Nat.zero_le _) (Nat.zero_le _) (fun r11 u11 H11 locs11 hp11 hP hS => ?_)
    obtain ⟨σ11, τ11⟩ := u11
    obtain ⟨hR, f11, fL11⟩ : P_X0_hearersSoFar σ0 τ0 r11 σ11 τ11 := hp11
    have hP : va_P D vwCl (gw cA ad σ11 τ11) H11 := hP
    obtain rfl := FrL.nil fL11
    have hF := hF.step f11 (by decide)
    exact r_iret hx hb hr hK hP hS hk dX6_menOfStep_73 (show P_X6_menOfStep σ0 τ0 a1 r11 σ11 τ0 from ⟨hR, hF, hFL⟩)
  refine lv_tableOut (tgt := 74) hx hb dX6_menOfStep_6 (by omega) (by decide) ?_
  refine lv_aload_n hx hb dX6_menOfStep_74 rfl (lv_at hl 0 rfl) ?_
  refine lv_iload_n hx hb dX6_menOfStep_75 rfl (lv_at hl 1 rfl) ?_
  refine lv_aload_n hx hb dX6_menOfStep_76 rfl (lv_at hl 2 rfl) ?_
  refine lv_aload_n hx hb dX6_menOfStep_77 rfl (lv_at hl 3 rfl) ?_
  refine r_cVi (k := 23) (As := [.int a1, .ref (ad 2), .ref (ad 7)]) (rest := []) ⟨hx, hb, hml, hown, hts⟩ hK hP hN hS (c_X6_menWhoAre l D cA ad hI σ0 τ0 hR a1 (by omega)) (cwV 3 hts gX6_menOfStep_X6_menWhoAre rfl rfl rfl (by decide +kernel) ⟨by decide, by decide⟩) (rv_Sent hK hP (by decide) (by decide)) rfl hl.1 rfl (Nat.le_of_ble_eq_true rfl) dX6_menOfStep_78 (Nat.zero_le _) (Nat.zero_le _) (fun r12 u12 H12 locs12 hp12 hP hS => ?_)
  obtain ⟨σ12, τ12⟩ := u12
  obtain ⟨hR, f12, fL12⟩ : P_X6_menWhoAre σ0 τ0 a1 r12 σ12 τ12 := hp12
  have hP : va_P D vwCl (gw cA ad σ12 τ12) H12 := hP
  obtain rfl := FrL.nil fL12
  obtain rfl := Fr.nil f12
  exact r_iret hx hb hr hK hP hS hk dX6_menOfStep_81 (show P_X6_menOfStep σ0 τ0 a1 r12 σ0 τ0 from ⟨hR, hF, hFL⟩)
