theorem in_X12_hasHeard_12 : ∀ w ∈ u_ws RX12 TX12 47, w ∈ wsX12_hasHeard := by decide +kernel
theorem lk_X12_hasHeard_33 : Cond.fieldLink RX12 33 "CuckooSharesModel" "s" "[I" ∈ wsX12_hasHeard := by decide +kernel
abbrev L_X12_hasHeard : List Rc := [(394, 394, 0, 7), (395, 395, 0, 7), (396, 396, 0, 7)]
abbrev LL_X12_hasHeard : List Rc := []
def P_X12_hasHeard (σ0 : Nat → Nat → Int32) (τ0 : Nat → Nat → Int64) (a1 : Int32) (r : Int32) (σ : Nat → Nat → Int32) (τ : Nat → Nat → Int64) : Prop := Rg σ ∧ Fr L_X12_hasHeard σ0 σ ∧ FrL LL_X12_hasHeard τ0 τ ∧ (0 ≤ r.toInt ∧ r.toInt ≤ 1)
def J_X12_hasHeard_11 (p : Program) (l : Launch) (e : Env) (s : State) (m : MethodId) (args : Array Value) (below : List Frame) (meth : Method) (c : Code) (D : va_G) (cA : Nat → ClassId) (ad : Nat → Nat) (σ0 : Nat → Nat → Int32) (τ0 : Nat → Nat → Int64) (a1 : Int32) (n : Nat) : Prop := ∀ (σ : Nat → Nat → Int32) (τ : Nat → Nat → Int64) (H : Heap) (locs : List Loc) (x2 : Int32) (x3 : Int32) (ls : Array Slot), Rg σ → Fr L_X12_hasHeard σ0 σ → FrL LL_X12_hasHeard τ0 τ → va_P D vwCl (gw cA ad σ τ) H → va_S (AA ad) s.heap H locs → (0 ≤ x2.toInt ∧ x2.toInt ≤ 10) → (0 ≤ x3.toInt ∧ x3.toInt ≤ 10) → lv_has ls 4 [(0, .ref (ad 387)), (1, .int a1), (2, .int x2), (3, .int x3)] → 2 * (10 - x3.toInt) + 1 < (n : Int) → W p l e ({ frames := 3, cells := 0, slots := 0, locals := 69 } : Room) s m args below meth c H locs 0 0 (MQ below (va_Qi (fun (r : Int32) (u : SS) => P_X12_hasHeard σ0 τ0 a1 r u.1 u.2) (WB D cA ad) (AA ad)) args s 0 0 (AA ad)) (F0 m 11 ls [])
set_option maxHeartbeats 4000000 in
theorem B_X12_hasHeard_11 (p : Program) (l : Launch) (e : Env) (s : State) (m : MethodId) (args : Array Value) (below : List Frame) (meth : Method) (c : Code) (D : va_G) (cA : Nat → ClassId) (ad : Nat → Nat) (σ0 : Nat → Nat → Int32) (τ0 : Nat → Nat → Int64) (a1 : Int32) (n : Nat) (C : Cy p s m args meth c cX12_hasHeard 4 wsX12_hasHeard RX12 D cA ad (some .boolean)) (ha1 : 0 ≤ a1.toInt ∧ a1.toInt ≤ 7) (K11 : J_X12_hasHeard_11 p l e s m args below meth c D cA ad σ0 τ0 a1 n) : J_X12_hasHeard_11 p l e s m args below meth c D cA ad σ0 τ0 a1 (n + 1) := by
  obtain ⟨hx, hb, hml, hown, hts, hK, hk, hr, hI, hN⟩ := C
  intro σ τ H locs x2 x3 ls hR hF hFL hP hS hc0 hc1 hl hm
  obtain rfl := FrL.nil hFL
  refine lv_iload_n hx hb dX12_hasHeard_11 rfl (lv_at hl 3 rfl) ?_
  refine lv_iload_n hx hb dX12_hasHeard_12 rfl (lv_at hl 2 rfl) ?_
  refine r_icmp_ge (tgt := 43) hx hb dX12_hasHeard_13 (by decide) (fun c1 => ?_) (fun c1 => ?_)
  · refine r_iconst hx hb dX12_hasHeard_43 (by decide) (fun z2 ez2 => ?_)
    exact r_zret hx hb hr hK hP hS hk (by omega) dX12_hasHeard_44 (show P_X12_hasHeard σ0 τ0 a1 z2 σ τ0 from ⟨hR, hF, hFL, by omega⟩)
  · refine lv_aload_n hx hb dX12_hasHeard_16 rfl (lv_at hl 0 rfl) ?_
    refine lv_iload_n hx hb dX12_hasHeard_17 rfl (lv_at hl 1 rfl) ?_
    refine lv_aload_n hx hb dX12_hasHeard_18 rfl (lv_at hl 0 rfl) ?_
    refine fg_12_6 (k := 387) hx hb hts in_X12_hasHeard_12 hown hK hP (by decide) (by decide) (hts _ lk_X12_hasHeard_33) dX12_hasHeard_19 ?_
    refine r_sipush hx hb dX12_hasHeard_22 (by decide) (fun z3 ez3 => ?_)
    refine ad_ms (k := 389) (j := 212) hx hb hK hP (by decide) (by decide) (by omega) (by omega) dX12_hasHeard_25 ?_
    have hr4 := ra_ms_5 hR (k := 389) (j := 212) (by decide) (by decide) (by decide) (by decide)
    refine r_iconst hx hb dX12_hasHeard_26 (by decide) (fun z5 ez5 => ?_)
    refine r_isub hx hb dX12_hasHeard_27 (by omega) (fun z6 ez6 => ?_)
    refine lv_iload_n hx hb dX12_hasHeard_28 rfl (lv_at hl 3 rfl) ?_
    refine r_cVi (k := 387) (As := [.int a1, .int z6, .int x3]) (rest := []) ⟨hx, hb, hml, hown, hts⟩ hK hP hN hS (c_X12_canHear l D cA ad hI σ τ0 hR a1 z6 x3 (by omega) (by omega) (by omega)) (cwV 3 hts gX12_hasHeard_X12_canHear rfl rfl rfl (by decide +kernel) ⟨by decide, by decide⟩) (rv_M hK hP (by decide) (by decide)) rfl hl.1 rfl (Nat.le_of_ble_eq_true rfl) dX12_hasHeard_29 (Nat.zero_le _) (Nat.zero_le _) (fun r7 u7 H7 locs7 hp7 hP hS => ?_)
    obtain ⟨σ7, τ7⟩ := u7
    obtain ⟨hR, f7, fL7, hq7⟩ : P_X12_canHear σ τ0 a1 z6 x3 r7 σ7 τ7 := hp7
    have hP : va_P D vwCl (gw cA ad σ7 τ7) H7 := hP
    obtain rfl := FrL.nil fL7
    obtain rfl := Fr.nil f7
    refine r_if_eq (tgt := 37) hx hb dX12_hasHeard_32 (by decide) (fun c8 => ?_) (fun c8 => ?_)
    · refine r_iinc (k := 3) (lv1 := fun z9 => [(3, .int z9), (0, .ref (ad 387)), (1, .int a1), (2, .int x2)]) hx hb dX12_hasHeard_37 hl rfl (by decide) (fun _ => rfl) (by decide) (by omega) (fun z9 ls ez9 hl => ?_)
      refine lv_goto (tgt := 11) hx hb dX12_hasHeard_40 (by decide) ?_
      exact K11 σ τ0 H7 locs7 x2 z9 ls hR hF hFL hP hS (by omega) (by omega) (lv_sub hl [1, 2, 3, 0] rfl) (by omega)
    · refine r_iconst hx hb dX12_hasHeard_35 (by decide) (fun z10 ez10 => ?_)
      exact r_zret hx hb hr hK hP hS hk (by omega) dX12_hasHeard_36 (show P_X12_hasHeard σ0 τ0 a1 z10 σ τ0 from ⟨hR, hF, hFL, by omega⟩)
theorem A_X12_hasHeard (p : Program) (l : Launch) (e : Env) (s : State) (m : MethodId) (args : Array Value) (below : List Frame) (meth : Method) (c : Code) (D : va_G) (cA : Nat → ClassId) (ad : Nat → Nat) (σ0 : Nat → Nat → Int32) (τ0 : Nat → Nat → Int64) (a1 : Int32) (C : Cy p s m args meth c cX12_hasHeard 4 wsX12_hasHeard RX12 D cA ad (some .boolean)) (ha1 : 0 ≤ a1.toInt ∧ a1.toInt ≤ 7) : ∀ n : Nat, J_X12_hasHeard_11 p l e s m args below meth c D cA ad σ0 τ0 a1 n := by
  intro n
  induction n with
  | zero =>
    exact (by intro σ τ H locs x2 x3 ls hR hF hFL hP hS hc0 hc1 hl hm; exfalso; omega)
  | succ n ih =>
    exact B_X12_hasHeard_11 p l e s m args below meth c D cA ad σ0 τ0 a1 n C ha1 ih
set_option maxHeartbeats 4000000 in
theorem c_X12_hasHeard (l : Launch) (D : va_G) (cA : Nat → ClassId) (ad : Nat → Nat) (hI : Inj ad) (σ0 : Nat → Nat → Int32) (τ0 : Nat → Nat → Int64) (hR : Rg σ0) (a1 : Int32) (ha1 : 0 ≤ a1.toInt ∧ a1.toInt ≤ 7) : Met l yX12_hasHeard wsX12_hasHeard ({ frames := 3, cells := 0, slots := 0, locals := 69 } : Room) (WQc D cA ad [.ref (ad 387), .int a1] σ0 τ0) (va_Qi (fun (r : Int32) (u : SS) => P_X12_hasHeard σ0 τ0 a1 r u.1 u.2) (WB D cA ad) (AA ad)) 0 0 (AA ad) := by
  refine Met.ofW (cc := cX12_hasHeard) (maxL := 4) (ret := (some .boolean)) (by decide) rfl ?_
  intro p e s m args below meth c s₁ B hml hv
  obtain ⟨rfl, hP, hK, hN⟩ := hv
  have C : Cy p s m _ meth c cX12_hasHeard 4 wsX12_hasHeard RX12 D cA ad (some .boolean) := ⟨B.exec, B.bytes, hml, findClass_of_methodNamed B.named, atoms_spec (ws := wsX12_hasHeard) B.pre, hK, B.notSynchronized, B.returns, hI, hN⟩
  have hl := lv_entry ([.ref (ad 387), .int a1]) (n := 4) (Nat.le_of_ble_eq_true rfl)
  rw [lg_entry_eq]
  generalize (lg_sl ([.ref (ad 387), .int a1]) ++ List.replicate (4 - (lg_sl ([.ref (ad 387), .int a1])).length) Slot.unset).toArray = ls at hl ⊢
  have hl : lv_has ls 4 [(0, .ref (ad 387)), (1, .int a1)] := hl
  have hS : va_S (AA ad) s.heap s.heap [] := va_S.rf
  have hF : Fr L_X12_hasHeard σ0 σ0 := Fr.rf
  have hFL : FrL LL_X12_hasHeard τ0 τ0 := FrL.rf
  have hA := A_X12_hasHeard p l e s m _ below meth c D cA ad σ0 τ0 a1 C ha1 50
  have K11 := hA
  clear hA
  obtain ⟨hx, hb, _, hown, hts, _, hk, hr, _, _⟩ := C
  refine lv_aload_n hx hb dX12_hasHeard_0 rfl (lv_at hl 0 rfl) ?_
  refine r_cVv (k := 387) (As := []) (rest := []) ⟨hx, hb, hml, hown, hts⟩ hK hP hN hS (c_X12_asNow l D cA ad hI σ0 τ0 hR) (cwV 0 hts gX12_hasHeard_X12_asNow rfl rfl rfl (by decide +kernel) ⟨by decide, by decide⟩) (rv_M hK hP (by decide) (by decide)) rfl hl.1 rfl (Nat.le_of_ble_eq_true rfl) dX12_hasHeard_1 (Nat.zero_le _) (Nat.zero_le _) (fun u1 H1 locs1 hp1 hP hS => ?_)
  obtain ⟨σ1, τ1⟩ := u1
  obtain ⟨hR, f1, fL1⟩ : P_X12_asNow σ0 τ0 σ1 τ1 := hp1
  have hP : va_P D vwCl (gw cA ad σ1 τ1) H1 := hP
  obtain rfl := FrL.nil fL1
  have hF := hF.step f1 (by decide)
  refine lv_aload_n hx hb dX12_hasHeard_4 rfl (lv_at hl 0 rfl) ?_
  refine r_cVi (k := 387) (As := []) (rest := []) ⟨hx, hb, hml, hown, hts⟩ hK hP hN hS (c_X12_pastOf l D cA ad hI σ1 τ0 hR) (cwV 0 hts gX12_hasHeard_X12_pastOf rfl rfl rfl (by decide +kernel) ⟨by decide, by decide⟩) (rv_M hK hP (by decide) (by decide)) rfl hl.1 rfl (Nat.le_of_ble_eq_true rfl) dX12_hasHeard_5 (Nat.zero_le _) (Nat.zero_le _) (fun r2 u2 H2 locs2 hp2 hP hS => ?_)
  obtain ⟨σ2, τ2⟩ := u2
  obtain ⟨hR, f2, fL2, hq2⟩ : P_X12_pastOf σ1 τ0 r2 σ2 τ2 := hp2
  have hP : va_P D vwCl (gw cA ad σ2 τ2) H2 := hP
  obtain rfl := FrL.nil fL2
  obtain rfl := Fr.nil f2
  refine lv_istore_n (lv' := [(2, .int r2), (0, .ref (ad 387)), (1, .int a1)]) hx hb dX12_hasHeard_8 rfl hl (by decide) rfl (fun ls hl => ?_)
  refine r_iconst hx hb dX12_hasHeard_9 (by decide) (fun z3 ez3 => ?_)
  refine lv_istore_n (lv' := [(3, .int z3), (2, .int r2), (0, .ref (ad 387)), (1, .int a1)]) hx hb dX12_hasHeard_10 rfl hl (by decide) rfl (fun ls hl => ?_)
  exact K11 σ1 τ0 H2 locs2 r2 z3 ls hR hF hFL hP hS (by omega) (by omega) (lv_sub hl [2, 3, 1, 0] rfl) (by omega)
theorem in_X12_isLeaf_12 : ∀ w ∈ u_ws RX12 TX12 47, w ∈ wsX12_isLeaf := by decide +kernel
theorem lk_X12_isLeaf_33 : Cond.fieldLink RX12 33 "CuckooSharesModel" "s" "[I" ∈ wsX12_isLeaf := by decide +kernel
abbrev L_X12_isLeaf : List Rc := [(394, 394, 0, 7), (395, 395, 0, 7), (396, 396, 0, 7)]
abbrev LL_X12_isLeaf : List Rc := []
def P_X12_isLeaf (σ0 : Nat → Nat → Int32) (τ0 : Nat → Nat → Int64) (a1 : Int32) (a2 : Int32) (a3 : Int32) (a4 : Int32) (r : Int32) (σ : Nat → Nat → Int32) (τ : Nat → Nat → Int64) : Prop := Rg σ ∧ Fr L_X12_isLeaf σ0 σ ∧ FrL LL_X12_isLeaf τ0 τ ∧ (0 ≤ r.toInt ∧ r.toInt ≤ 1)
def J_X12_isLeaf_207 (p : Program) (l : Launch) (e : Env) (s : State) (m : MethodId) (args : Array Value) (below : List Frame) (meth : Method) (c : Code) (D : va_G) (cA : Nat → ClassId) (ad : Nat → Nat) (σ0 : Nat → Nat → Int32) (τ0 : Nat → Nat → Int64) (a1 : Int32) (a2 : Int32) (a3 : Int32) (a4 : Int32) (n : Nat) : Prop := ∀ (σ : Nat → Nat → Int32) (τ : Nat → Nat → Int64) (H : Heap) (locs : List Loc) (w0 : Int32) (ls : Array Slot), Rg σ → Fr L_X12_isLeaf σ0 σ → FrL LL_X12_isLeaf τ0 τ → va_P D vwCl (gw cA ad σ τ) H → va_S (AA ad) s.heap H locs → lv_has ls 6 [(0, .ref (ad 387)), (1, .int a1), (2, .int a2), (3, .int a3), (4, .int a4)] → 1 < (n : Int) → W p l e ({ frames := 4, cells := 0, slots := 0, locals := 92 } : Room) s m args below meth c H locs 0 0 (MQ below (va_Qi (fun (r : Int32) (u : SS) => P_X12_isLeaf σ0 τ0 a1 a2 a3 a4 r u.1 u.2) (WB D cA ad) (AA ad)) args s 0 0 (AA ad)) (F0 m 207 ls [.int w0])
set_option maxHeartbeats 4000000 in
theorem B_X12_isLeaf_207 (p : Program) (l : Launch) (e : Env) (s : State) (m : MethodId) (args : Array Value) (below : List Frame) (meth : Method) (c : Code) (D : va_G) (cA : Nat → ClassId) (ad : Nat → Nat) (σ0 : Nat → Nat → Int32) (τ0 : Nat → Nat → Int64) (a1 : Int32) (a2 : Int32) (a3 : Int32) (a4 : Int32) (n : Nat) (C : Cy p s m args meth c cX12_isLeaf 6 wsX12_isLeaf RX12 D cA ad (some .boolean)) (ha1 : 0 ≤ a1.toInt ∧ a1.toInt ≤ 7) (K207 : J_X12_isLeaf_207 p l e s m args below meth c D cA ad σ0 τ0 a1 a2 a3 a4 n) : J_X12_isLeaf_207 p l e s m args below meth c D cA ad σ0 τ0 a1 a2 a3 a4 (n + 1) := by
  obtain ⟨hx, hb, hml, hown, hts, hK, hk, hr, hI, hN⟩ := C
  intro σ τ H locs w0 ls hR hF hFL hP hS hl hm
  obtain rfl := FrL.nil hFL
  refine lv_istore (lv' := [(5, .int w0), (0, .ref (ad 387)), (1, .int a1), (2, .int a2), (3, .int a3), (4, .int a4)]) hx hb dX12_isLeaf_207 hl (by decide) rfl (fun ls hl => ?_)
  refine lv_iload_n hx hb dX12_isLeaf_209 rfl (lv_at hl 4 rfl) ?_
  refine r_bipush hx hb dX12_isLeaf_210 (by decide) (fun z1 ez1 => ?_)
  refine r_icmp_ne (tgt := 230) hx hb dX12_isLeaf_212 (by decide) (fun c2 => ?_) (fun c2 => ?_)
  · refine lv_iload_n hx hb dX12_isLeaf_230 rfl (lv_at hl 4 rfl) ?_
    refine r_bipush hx hb dX12_isLeaf_231 (by decide) (fun z3 ez3 => ?_)
    refine r_icmp_ne (tgt := 251) hx hb dX12_isLeaf_233 (by decide) (fun c4 => ?_) (fun c4 => ?_)
    · refine lv_iload hx hb dX12_isLeaf_251 (lv_at hl 0 rfl) ?_
      refine lv_iload hx hb dX12_isLeaf_253 (lv_at hl 5 rfl) ?_
      refine r_icmp_le (tgt := 262) hx hb dX12_isLeaf_255 (by decide) (fun c5 => ?_) (fun c5 => ?_)
      · refine r_iconst hx hb dX12_isLeaf_262 (by decide) (fun z6 ez6 => ?_)
        exact r_zret hx hb hr hK hP hS hk (by omega) dX12_isLeaf_263 (show P_X12_isLeaf σ0 τ0 a1 a2 a3 a4 z6 σ τ0 from ⟨hR, hF, hFL, by omega⟩)
      · refine r_iconst hx hb dX12_isLeaf_258 (by decide) (fun z7 ez7 => ?_)
        refine lv_goto (tgt := 263) hx hb dX12_isLeaf_259 (by decide) ?_
        exact r_zret hx hb hr hK hP hS hk (by omega) dX12_isLeaf_263 (show P_X12_isLeaf σ0 τ0 a1 a2 a3 a4 z7 σ τ0 from ⟨hR, hF, hFL, by omega⟩)
    · refine lv_iload hx hb dX12_isLeaf_236 (lv_at hl 0 rfl) ?_
      refine lv_iload hx hb dX12_isLeaf_238 (lv_at hl 5 rfl) ?_
      refine r_icmp_ne (tgt := 247) hx hb dX12_isLeaf_240 (by decide) (fun c8 => ?_) (fun c8 => ?_)
      · refine r_iconst hx hb dX12_isLeaf_247 (by decide) (fun z9 ez9 => ?_)
        refine lv_goto (tgt := 263) hx hb dX12_isLeaf_248 (by decide) ?_
        exact r_zret hx hb hr hK hP hS hk (by omega) dX12_isLeaf_263 (show P_X12_isLeaf σ0 τ0 a1 a2 a3 a4 z9 σ τ0 from ⟨hR, hF, hFL, by omega⟩)
      · refine r_iconst hx hb dX12_isLeaf_243 (by decide) (fun z10 ez10 => ?_)
        refine lv_goto (tgt := 263) hx hb dX12_isLeaf_244 (by decide) ?_
        exact r_zret hx hb hr hK hP hS hk (by omega) dX12_isLeaf_263 (show P_X12_isLeaf σ0 τ0 a1 a2 a3 a4 z10 σ τ0 from ⟨hR, hF, hFL, by omega⟩)
  · refine lv_iload hx hb dX12_isLeaf_215 (lv_at hl 0 rfl) ?_
    refine lv_iload hx hb dX12_isLeaf_217 (lv_at hl 5 rfl) ?_
    refine r_icmp_ge (tgt := 226) hx hb dX12_isLeaf_219 (by decide) (fun c11 => ?_) (fun c11 => ?_)
    · refine r_iconst hx hb dX12_isLeaf_226 (by decide) (fun z12 ez12 => ?_)
      refine lv_goto (tgt := 263) hx hb dX12_isLeaf_227 (by decide) ?_
      exact r_zret hx hb hr hK hP hS hk (by omega) dX12_isLeaf_263 (show P_X12_isLeaf σ0 τ0 a1 a2 a3 a4 z12 σ τ0 from ⟨hR, hF, hFL, by omega⟩)
    · refine r_iconst hx hb dX12_isLeaf_222 (by decide) (fun z13 ez13 => ?_)
      refine lv_goto (tgt := 263) hx hb dX12_isLeaf_223 (by decide) ?_
      exact r_zret hx hb hr hK hP hS hk (by omega) dX12_isLeaf_263 (show P_X12_isLeaf σ0 τ0 a1 a2 a3 a4 z13 σ τ0 from ⟨hR, hF, hFL, by omega⟩)
theorem A_X12_isLeaf (p : Program) (l : Launch) (e : Env) (s : State) (m : MethodId) (args : Array Value) (below : List Frame) (meth : Method) (c : Code) (D : va_G) (cA : Nat → ClassId) (ad : Nat → Nat) (σ0 : Nat → Nat → Int32) (τ0 : Nat → Nat → Int64) (a1 : Int32) (a2 : Int32) (a3 : Int32) (a4 : Int32) (C : Cy p s m args meth c cX12_isLeaf 6 wsX12_isLeaf RX12 D cA ad (some .boolean)) (ha1 : 0 ≤ a1.toInt ∧ a1.toInt ≤ 7) : ∀ n : Nat, J_X12_isLeaf_207 p l e s m args below meth c D cA ad σ0 τ0 a1 a2 a3 a4 n := by
  intro n
  induction n with
  | zero =>
    exact (by intro σ τ H locs w0 ls hR hF hFL hP hS hl hm; exfalso; omega)
  | succ n ih =>
    exact B_X12_isLeaf_207 p l e s m args below meth c D cA ad σ0 τ0 a1 a2 a3 a4 n C ha1 ih
set_option maxHeartbeats 4000000 in
theorem c_X12_isLeaf (l : Launch) (D : va_G) (cA : Nat → ClassId) (ad : Nat → Nat) (hI : Inj ad) (σ0 : Nat → Nat → Int32) (τ0 : Nat → Nat → Int64) (hR : Rg σ0) (a1 : Int32) (a2 : Int32) (a3 : Int32) (a4 : Int32) (ha1 : 0 ≤ a1.toInt ∧ a1.toInt ≤ 7) : Met l yX12_isLeaf wsX12_isLeaf ({ frames := 4, cells := 0, slots := 0, locals := 92 } : Room) (WQc D cA ad [.ref (ad 387), .int a1, .int a2, .int a3, .int a4] σ0 τ0) (va_Qi (fun (r : Int32) (u : SS) => P_X12_isLeaf σ0 τ0 a1 a2 a3 a4 r u.1 u.2) (WB D cA ad) (AA ad)) 0 0 (AA ad) := by
  refine Met.ofW (cc := cX12_isLeaf) (maxL := 6) (ret := (some .boolean)) (by decide) rfl ?_
  intro p e s m args below meth c s₁ B hml hv
  obtain ⟨rfl, hP, hK, hN⟩ := hv
  have C : Cy p s m _ meth c cX12_isLeaf 6 wsX12_isLeaf RX12 D cA ad (some .boolean) := ⟨B.exec, B.bytes, hml, findClass_of_methodNamed B.named, atoms_spec (ws := wsX12_isLeaf) B.pre, hK, B.notSynchronized, B.returns, hI, hN⟩
  have hl := lv_entry ([.ref (ad 387), .int a1, .int a2, .int a3, .int a4]) (n := 6) (Nat.le_of_ble_eq_true rfl)
  rw [lg_entry_eq]
  generalize (lg_sl ([.ref (ad 387), .int a1, .int a2, .int a3, .int a4]) ++ List.replicate (6 - (lg_sl ([.ref (ad 387), .int a1, .int a2, .int a3, .int a4])).length) Slot.unset).toArray = ls at hl ⊢
  have hl : lv_has ls 6 [(0, .ref (ad 387)), (1, .int a1), (2, .int a2), (3, .int a3), (4, .int a4)] := hl
  have hS : va_S (AA ad) s.heap s.heap [] := va_S.rf
  have hF : Fr L_X12_isLeaf σ0 σ0 := Fr.rf
  have hFL : FrL LL_X12_isLeaf τ0 τ0 := FrL.rf
  have hA := A_X12_isLeaf p l e s m _ below meth c D cA ad σ0 τ0 a1 a2 a3 a4 C ha1 6
  have K207 := hA
  clear hA
  obtain ⟨hx, hb, _, hown, hts, _, hk, hr, _, _⟩ := C
  refine lv_iload_n hx hb dX12_isLeaf_0 rfl (lv_at hl 2 rfl) ?_
  by_cases c1 : a2.toInt = 0
  · refine lv_tableIn (off := 39) (tgt := 40) hx hb dX12_isLeaf_1 (by omega) (by omega) (by rw [c1]; rfl) (by decide) ?_
    refine lv_aload_n hx hb dX12_isLeaf_40 rfl (lv_at hl 0 rfl) ?_
    refine fg_12_6 (k := 387) hx hb hts in_X12_isLeaf_12 hown hK hP (by decide) (by decide) (hts _ lk_X12_isLeaf_33) dX12_isLeaf_41 ?_
    refine r_bipush hx hb dX12_isLeaf_44 (by decide) (fun z2 ez2 => ?_)
    refine lv_iload_n hx hb dX12_isLeaf_46 rfl (lv_at hl 1 rfl) ?_
    refine r_iadd hx hb dX12_isLeaf_47 (by omega) (fun z3 ez3 => ?_)
    obtain ⟨j4, ej4⟩ : ∃ j : Nat, z3.toInt = (j : Int) := ⟨_, ti_nat (by omega)⟩
    refine ad_ms (k := 389) (j := j4) hx hb hK hP (by decide) (by decide) ej4 (by omega) dX12_isLeaf_48 ?_
    refine r_iconst hx hb dX12_isLeaf_49 (by decide) (fun z5 ez5 => ?_)
    refine r_icmp_ne (tgt := 57) hx hb dX12_isLeaf_50 (by decide) (fun c6 => ?_) (fun c6 => ?_)
    · refine r_iconst hx hb dX12_isLeaf_57 (by decide) (fun z7 ez7 => ?_)
      exact r_zret hx hb hr hK hP hS hk (by omega) dX12_isLeaf_58 (show P_X12_isLeaf σ0 τ0 a1 a2 a3 a4 z7 σ0 τ0 from ⟨hR, hF, hFL, by omega⟩)
    · refine r_iconst hx hb dX12_isLeaf_53 (by decide) (fun z8 ez8 => ?_)
      refine lv_goto (tgt := 58) hx hb dX12_isLeaf_54 (by decide) ?_
      exact r_zret hx hb hr hK hP hS hk (by omega) dX12_isLeaf_58 (show P_X12_isLeaf σ0 τ0 a1 a2 a3 a4 z8 σ0 τ0 from ⟨hR, hF, hFL, by omega⟩)
  by_cases c9 : a2.toInt = 1
  · refine lv_tableIn (off := 58) (tgt := 59) hx hb dX12_isLeaf_1 (by omega) (by omega) (by rw [c9]; rfl) (by decide) ?_
    refine lv_aload_n hx hb dX12_isLeaf_59 rfl (lv_at hl 0 rfl) ?_
    refine fg_12_6 (k := 387) hx hb hts in_X12_isLeaf_12 hown hK hP (by decide) (by decide) (hts _ lk_X12_isLeaf_33) dX12_isLeaf_60 ?_
    refine r_bipush hx hb dX12_isLeaf_63 (by decide) (fun z10 ez10 => ?_)
    refine lv_iload_n hx hb dX12_isLeaf_65 rfl (lv_at hl 1 rfl) ?_
    refine r_iadd hx hb dX12_isLeaf_66 (by omega) (fun z11 ez11 => ?_)
    obtain ⟨j12, ej12⟩ : ∃ j : Nat, z11.toInt = (j : Int) := ⟨_, ti_nat (by omega)⟩
    refine ad_ms (k := 389) (j := j12) hx hb hK hP (by decide) (by decide) ej12 (by omega) dX12_isLeaf_67 ?_
    have hr13 := ra_ms_3 hR (k := 389) (j := j12) (by decide) (by decide) (by omega) (by omega)
    refine r_if_le (tgt := 75) hx hb dX12_isLeaf_68 (by decide) (fun c14 => ?_) (fun c14 => ?_)
    · refine r_iconst hx hb dX12_isLeaf_75 (by decide) (fun z15 ez15 => ?_)
      exact r_zret hx hb hr hK hP hS hk (by omega) dX12_isLeaf_76 (show P_X12_isLeaf σ0 τ0 a1 a2 a3 a4 z15 σ0 τ0 from ⟨hR, hF, hFL, by omega⟩)
    · refine r_iconst hx hb dX12_isLeaf_71 (by decide) (fun z16 ez16 => ?_)
      refine lv_goto (tgt := 76) hx hb dX12_isLeaf_72 (by decide) ?_
      exact r_zret hx hb hr hK hP hS hk (by omega) dX12_isLeaf_76 (show P_X12_isLeaf σ0 τ0 a1 a2 a3 a4 z16 σ0 τ0 from ⟨hR, hF, hFL, by omega⟩)
  by_cases c17 : a2.toInt = 2
  · refine lv_tableIn (off := 76) (tgt := 77) hx hb dX12_isLeaf_1 (by omega) (by omega) (by rw [c17]; rfl) (by decide) ?_
    refine lv_aload_n hx hb dX12_isLeaf_77 rfl (lv_at hl 0 rfl) ?_
    refine fg_12_6 (k := 387) hx hb hts in_X12_isLeaf_12 hown hK hP (by decide) (by decide) (hts _ lk_X12_isLeaf_33) dX12_isLeaf_78 ?_
    refine r_sipush hx hb dX12_isLeaf_81 (by decide) (fun z18 ez18 => ?_)
    refine lv_iload_n hx hb dX12_isLeaf_84 rfl (lv_at hl 1 rfl) ?_
    refine r_iadd hx hb dX12_isLeaf_85 (by omega) (fun z19 ez19 => ?_)
    obtain ⟨j20, ej20⟩ : ∃ j : Nat, z19.toInt = (j : Int) := ⟨_, ti_nat (by omega)⟩
    refine ad_ms (k := 389) (j := j20) hx hb hK hP (by decide) (by decide) ej20 (by omega) dX12_isLeaf_86 ?_
    have hr21 := ra_ms_7 hR (k := 389) (j := j20) (by decide) (by decide) (by omega) (by omega)
    refine r_if_le (tgt := 94) hx hb dX12_isLeaf_87 (by decide) (fun c22 => ?_) (fun c22 => ?_)
    · refine r_iconst hx hb dX12_isLeaf_94 (by decide) (fun z23 ez23 => ?_)
      exact r_zret hx hb hr hK hP hS hk (by omega) dX12_isLeaf_95 (show P_X12_isLeaf σ0 τ0 a1 a2 a3 a4 z23 σ0 τ0 from ⟨hR, hF, hFL, by omega⟩)
    · refine r_iconst hx hb dX12_isLeaf_90 (by decide) (fun z24 ez24 => ?_)
      refine lv_goto (tgt := 95) hx hb dX12_isLeaf_91 (by decide) ?_
      exact r_zret hx hb hr hK hP hS hk (by omega) dX12_isLeaf_95 (show P_X12_isLeaf σ0 τ0 a1 a2 a3 a4 z24 σ0 τ0 from ⟨hR, hF, hFL, by omega⟩)
  by_cases c25 : a2.toInt = 3
  · refine lv_tableIn (off := 95) (tgt := 96) hx hb dX12_isLeaf_1 (by omega) (by omega) (by rw [c25]; rfl) (by decide) ?_
    refine lv_aload_n hx hb dX12_isLeaf_96 rfl (lv_at hl 0 rfl) ?_
    refine fg_12_6 (k := 387) hx hb hts in_X12_isLeaf_12 hown hK hP (by decide) (by decide) (hts _ lk_X12_isLeaf_33) dX12_isLeaf_97 ?_
    refine r_sipush hx hb dX12_isLeaf_100 (by decide) (fun z26 ez26 => ?_)
    refine lv_iload_n hx hb dX12_isLeaf_103 rfl (lv_at hl 1 rfl) ?_
    refine r_iadd hx hb dX12_isLeaf_104 (by omega) (fun z27 ez27 => ?_)
    obtain ⟨j28, ej28⟩ : ∃ j : Nat, z27.toInt = (j : Int) := ⟨_, ti_nat (by omega)⟩
    refine ad_ms (k := 389) (j := j28) hx hb hK hP (by decide) (by decide) ej28 (by omega) dX12_isLeaf_105 ?_
    have hr29 := ra_ms_7 hR (k := 389) (j := j28) (by decide) (by decide) (by omega) (by omega)
    refine r_if_le (tgt := 121) hx hb dX12_isLeaf_106 (by decide) (fun c30 => ?_) (fun c30 => ?_)
    · refine r_iconst hx hb dX12_isLeaf_121 (by decide) (fun z31 ez31 => ?_)
      exact r_zret hx hb hr hK hP hS hk (by omega) dX12_isLeaf_122 (show P_X12_isLeaf σ0 τ0 a1 a2 a3 a4 z31 σ0 τ0 from ⟨hR, hF, hFL, by omega⟩)
    · refine lv_aload_n hx hb dX12_isLeaf_109 rfl (lv_at hl 0 rfl) ?_
      refine lv_iload_n hx hb dX12_isLeaf_110 rfl (lv_at hl 1 rfl) ?_
      refine r_cVi (k := 387) (As := [.int a1]) (rest := []) ⟨hx, hb, hml, hown, hts⟩ hK hP hN hS (c_X12_isTrue l D cA ad hI σ0 τ0 hR a1 (by omega)) (cwV 1 hts gX12_isLeaf_X12_isTrue rfl rfl rfl (by decide +kernel) ⟨by decide, by decide⟩) (rv_M hK hP (by decide) (by decide)) rfl hl.1 rfl (Nat.le_of_ble_eq_true rfl) dX12_isLeaf_111 (Nat.zero_le _) (Nat.zero_le _) (fun r32 u32 H32 locs32 hp32 hP hS => ?_)
      obtain ⟨σ32, τ32⟩ := u32
      obtain ⟨hR, f32, fL32, hq32⟩ : P_X12_isTrue σ0 τ0 a1 r32 σ32 τ32 := hp32
      have hP : va_P D vwCl (gw cA ad σ32 τ32) H32 := hP
      obtain rfl := FrL.nil fL32
      have hF := hF.step f32 (by decide)
      refine r_if_ne (tgt := 121) hx hb dX12_isLeaf_114 (by decide) (fun c33 => ?_) (fun c33 => ?_)
      · refine r_iconst hx hb dX12_isLeaf_121 (by decide) (fun z34 ez34 => ?_)
        exact r_zret hx hb hr hK hP hS hk (by omega) dX12_isLeaf_122 (show P_X12_isLeaf σ0 τ0 a1 a2 a3 a4 z34 σ32 τ0 from ⟨hR, hF, hFL, by omega⟩)
      · refine r_iconst hx hb dX12_isLeaf_117 (by decide) (fun z35 ez35 => ?_)
        refine lv_goto (tgt := 122) hx hb dX12_isLeaf_118 (by decide) ?_
        exact r_zret hx hb hr hK hP hS hk (by omega) dX12_isLeaf_122 (show P_X12_isLeaf σ0 τ0 a1 a2 a3 a4 z35 σ32 τ0 from ⟨hR, hF, hFL, by omega⟩)
  by_cases c36 : a2.toInt = 4
  · refine lv_tableIn (off := 122) (tgt := 123) hx hb dX12_isLeaf_1 (by omega) (by omega) (by rw [c36]; rfl) (by decide) ?_
    refine lv_aload_n hx hb dX12_isLeaf_123 rfl (lv_at hl 0 rfl) ?_
    refine lv_iload_n hx hb dX12_isLeaf_124 rfl (lv_at hl 1 rfl) ?_
    refine r_cVi (k := 387) (As := [.int a1]) (rest := []) ⟨hx, hb, hml, hown, hts⟩ hK hP hN hS (c_X12_hasHeard l D cA ad hI σ0 τ0 hR a1 (by omega)) (cwV 1 hts gX12_isLeaf_X12_hasHeard rfl rfl rfl (by decide +kernel) ⟨by decide, by decide⟩) (rv_M hK hP (by decide) (by decide)) rfl hl.1 rfl (Nat.le_of_ble_eq_true rfl) dX12_isLeaf_125 (Nat.zero_le _) (Nat.zero_le _) (fun r37 u37 H37 locs37 hp37 hP hS => ?_)
    obtain ⟨σ37, τ37⟩ := u37
    obtain ⟨hR, f37, fL37, hq37⟩ : P_X12_hasHeard σ0 τ0 a1 r37 σ37 τ37 := hp37
    have hP : va_P D vwCl (gw cA ad σ37 τ37) H37 := hP
    obtain rfl := FrL.nil fL37
    have hF := hF.step f37 (by decide)
    exact r_zret hx hb hr hK hP hS hk (by omega) dX12_isLeaf_128 (show P_X12_isLeaf σ0 τ0 a1 a2 a3 a4 r37 σ37 τ0 from ⟨hR, hF, hFL, by omega⟩)
  by_cases c38 : a2.toInt = 5
  · refine lv_tableIn (off := 128) (tgt := 129) hx hb dX12_isLeaf_1 (by omega) (by omega) (by rw [c38]; rfl) (by decide) ?_
    refine lv_aload_n hx hb dX12_isLeaf_129 rfl (lv_at hl 0 rfl) ?_
    refine fg_12_6 (k := 387) hx hb hts in_X12_isLeaf_12 hown hK hP (by decide) (by decide) (hts _ lk_X12_isLeaf_33) dX12_isLeaf_130 ?_
    refine r_sipush hx hb dX12_isLeaf_133 (by decide) (fun z39 ez39 => ?_)
    refine lv_iload_n hx hb dX12_isLeaf_136 rfl (lv_at hl 1 rfl) ?_
    refine r_iadd hx hb dX12_isLeaf_137 (by omega) (fun z40 ez40 => ?_)
    obtain ⟨j41, ej41⟩ : ∃ j : Nat, z40.toInt = (j : Int) := ⟨_, ti_nat (by omega)⟩
    refine ad_ms (k := 389) (j := j41) hx hb hK hP (by decide) (by decide) ej41 (by omega) dX12_isLeaf_138 ?_
    have hr42 := ra_ms_6 hR (k := 389) (j := j41) (by decide) (by decide) (by omega) (by omega)
    refine lv_iload hx hb dX12_isLeaf_139 (lv_at hl 4 rfl) ?_
    refine r_icmp_ne (tgt := 148) hx hb dX12_isLeaf_141 (by decide) (fun c43 => ?_) (fun c43 => ?_)
    · refine r_iconst hx hb dX12_isLeaf_148 (by decide) (fun z44 ez44 => ?_)
      exact r_zret hx hb hr hK hP hS hk (by omega) dX12_isLeaf_149 (show P_X12_isLeaf σ0 τ0 a1 a2 a3 a4 z44 σ0 τ0 from ⟨hR, hF, hFL, by omega⟩)
    · refine r_iconst hx hb dX12_isLeaf_144 (by decide) (fun z45 ez45 => ?_)
      refine lv_goto (tgt := 149) hx hb dX12_isLeaf_145 (by decide) ?_
      exact r_zret hx hb hr hK hP hS hk (by omega) dX12_isLeaf_149 (show P_X12_isLeaf σ0 τ0 a1 a2 a3 a4 z45 σ0 τ0 from ⟨hR, hF, hFL, by omega⟩)
  refine lv_tableOut (tgt := 150) hx hb dX12_isLeaf_1 (by omega) (by decide) ?_
  refine lv_iload_n hx hb dX12_isLeaf_150 rfl (lv_at hl 2 rfl) ?_
  refine r_bipush hx hb dX12_isLeaf_151 (by decide) (fun z46 ez46 => ?_)
  refine r_icmp_ne (tgt := 169) hx hb dX12_isLeaf_153 (by decide) (fun c47 => ?_) (fun c47 => ?_)
  · refine lv_iload_n hx hb dX12_isLeaf_169 rfl (lv_at hl 2 rfl) ?_
    refine r_bipush hx hb dX12_isLeaf_170 (by decide) (fun z48 ez48 => ?_)
    refine r_icmp_ne (tgt := 188) hx hb dX12_isLeaf_172 (by decide) (fun c49 => ?_) (fun c49 => ?_)
    · refine lv_iload_n hx hb dX12_isLeaf_188 rfl (lv_at hl 2 rfl) ?_
      refine r_bipush hx hb dX12_isLeaf_189 (by decide) (fun z50 ez50 => ?_)
      refine r_icmp_ne (tgt := 206) hx hb dX12_isLeaf_191 (by decide) (fun c51 => ?_) (fun c51 => ?_)
      · refine lv_iload_n hx hb dX12_isLeaf_206 rfl (lv_at hl 1 rfl) ?_
        exact K207 σ0 τ0 s.heap [] a1 ls hR hF hFL hP hS  (lv_sub hl [0, 1, 2, 3, 4] rfl) (by omega)
      · refine lv_aload_n hx hb dX12_isLeaf_194 rfl (lv_at hl 0 rfl) ?_
        refine fg_12_6 (k := 387) hx hb hts in_X12_isLeaf_12 hown hK hP (by decide) (by decide) (hts _ lk_X12_isLeaf_33) dX12_isLeaf_195 ?_
        refine r_bipush hx hb dX12_isLeaf_198 (by decide) (fun z52 ez52 => ?_)
        refine lv_iload_n hx hb dX12_isLeaf_200 rfl (lv_at hl 1 rfl) ?_
        refine r_iadd hx hb dX12_isLeaf_201 (by omega) (fun z53 ez53 => ?_)
        obtain ⟨j54, ej54⟩ : ∃ j : Nat, z53.toInt = (j : Int) := ⟨_, ti_nat (by omega)⟩
        refine ad_ms (k := 389) (j := j54) hx hb hK hP (by decide) (by decide) ej54 (by omega) dX12_isLeaf_202 ?_
        refine lv_goto (tgt := 207) hx hb dX12_isLeaf_203 (by decide) ?_
        exact K207 σ0 τ0 s.heap [] (σ0 389 j54) ls hR hF hFL hP hS  (lv_sub hl [0, 1, 2, 3, 4] rfl) (by omega)
    · refine lv_aload_n hx hb dX12_isLeaf_175 rfl (lv_at hl 0 rfl) ?_
      refine fg_12_6 (k := 387) hx hb hts in_X12_isLeaf_12 hown hK hP (by decide) (by decide) (hts _ lk_X12_isLeaf_33) dX12_isLeaf_176 ?_
      refine r_sipush hx hb dX12_isLeaf_179 (by decide) (fun z55 ez55 => ?_)
      refine lv_iload_n hx hb dX12_isLeaf_182 rfl (lv_at hl 1 rfl) ?_
      refine r_iadd hx hb dX12_isLeaf_183 (by omega) (fun z56 ez56 => ?_)
      obtain ⟨j57, ej57⟩ : ∃ j : Nat, z56.toInt = (j : Int) := ⟨_, ti_nat (by omega)⟩
      refine ad_ms (k := 389) (j := j57) hx hb hK hP (by decide) (by decide) ej57 (by omega) dX12_isLeaf_184 ?_
      refine lv_goto (tgt := 207) hx hb dX12_isLeaf_185 (by decide) ?_
      exact K207 σ0 τ0 s.heap [] (σ0 389 j57) ls hR hF hFL hP hS  (lv_sub hl [0, 1, 2, 3, 4] rfl) (by omega)
  · refine lv_aload_n hx hb dX12_isLeaf_156 rfl (lv_at hl 0 rfl) ?_
    refine fg_12_6 (k := 387) hx hb hts in_X12_isLeaf_12 hown hK hP (by decide) (by decide) (hts _ lk_X12_isLeaf_33) dX12_isLeaf_157 ?_
    refine r_sipush hx hb dX12_isLeaf_160 (by decide) (fun z58 ez58 => ?_)
    refine lv_iload_n hx hb dX12_isLeaf_163 rfl (lv_at hl 1 rfl) ?_
    refine r_iadd hx hb dX12_isLeaf_164 (by omega) (fun z59 ez59 => ?_)
    obtain ⟨j60, ej60⟩ : ∃ j : Nat, z59.toInt = (j : Int) := ⟨_, ti_nat (by omega)⟩
    refine ad_ms (k := 389) (j := j60) hx hb hK hP (by decide) (by decide) ej60 (by omega) dX12_isLeaf_165 ?_
    refine lv_goto (tgt := 207) hx hb dX12_isLeaf_166 (by decide) ?_
    exact K207 σ0 τ0 s.heap [] (σ0 389 j60) ls hR hF hFL hP hS  (lv_sub hl [0, 1, 2, 3, 4] rfl) (by omega)
theorem in_X12_isSaid_12 : ∀ w ∈ u_ws RX12 TX12 47, w ∈ wsX12_isSaid := by decide +kernel
theorem lk_X12_isSaid_33 : Cond.fieldLink RX12 33 "CuckooSharesModel" "s" "[I" ∈ wsX12_isSaid := by decide +kernel
theorem lk_X12_isSaid_74 : Cond.fieldLink RX12 74 "CuckooSharesModel" "truths" "[Z" ∈ wsX12_isSaid := by decide +kernel
abbrev L_X12_isSaid : List Rc := [(402, 402, 0, 39), (394, 394, 0, 7), (395, 395, 0, 7), (396, 396, 0, 7)]
abbrev LL_X12_isSaid : List Rc := []
def P_X12_isSaid (σ0 : Nat → Nat → Int32) (τ0 : Nat → Nat → Int64) (a1 : Int32) (r : Int32) (σ : Nat → Nat → Int32) (τ : Nat → Nat → Int64) : Prop := Rg σ ∧ Fr L_X12_isSaid σ0 σ ∧ FrL LL_X12_isSaid τ0 τ ∧ (0 ≤ r.toInt ∧ r.toInt ≤ 1)
def J_X12_isSaid_4 (p : Program) (l : Launch) (e : Env) (s : State) (m : MethodId) (args : Array Value) (below : List Frame) (meth : Method) (c : Code) (D : va_G) (cA : Nat → ClassId) (ad : Nat → Nat) (σ0 : Nat → Nat → Int32) (τ0 : Nat → Nat → Int64) (a1 : Int32) (n : Nat) : Prop := ∀ (σ : Nat → Nat → Int32) (τ : Nat → Nat → Int64) (H : Heap) (locs : List Loc) (x2 : Int32) (x3 : Int32) (ls : Array Slot), Rg σ → Fr L_X12_isSaid σ0 σ → FrL LL_X12_isSaid τ0 τ → va_P D vwCl (gw cA ad σ τ) H → va_S (AA ad) s.heap H locs → (0 ≤ x2.toInt ∧ x2.toInt ≤ 40) → (0 ≤ x3.toInt ∧ x3.toInt ≤ 40) → (x2.toInt = DP (fun i => σ0 389 (247 + 3 * i)) x3.toInt.toNat) → (0 ≤ x2.toInt) → (x3.toInt = 0 ∨ 1 ≤ x2.toInt) → (∀ i : Nat, (i : Int) < x2.toInt → 0 ≤ (σ 402 i).toInt ∧ (σ 402 i).toInt ≤ 1) → (SI σ) → lv_has ls 5 [(0, .ref (ad 387)), (1, .int a1), (2, .int x2), (3, .int x3)] → 2 * (40 - x3.toInt) + 1 < (n : Int) → W p l e ({ frames := 5, cells := 0, slots := 0, locals := 117 } : Room) s m args below meth c H locs 0 0 (MQ below (va_Qi (fun (r : Int32) (u : SS) => P_X12_isSaid σ0 τ0 a1 r u.1 u.2) (WB D cA ad) (AA ad)) args s 0 0 (AA ad)) (F0 m 4 ls [])
set_option maxHeartbeats 4000000 in
theorem B_X12_isSaid_4 (p : Program) (l : Launch) (e : Env) (s : State) (m : MethodId) (args : Array Value) (below : List Frame) (meth : Method) (c : Code) (D : va_G) (cA : Nat → ClassId) (ad : Nat → Nat) (σ0 : Nat → Nat → Int32) (τ0 : Nat → Nat → Int64) (a1 : Int32) (n : Nat) (C : Cy p s m args meth c cX12_isSaid 5 wsX12_isSaid RX12 D cA ad (some .boolean)) (ha1 : 0 ≤ a1.toInt ∧ a1.toInt ≤ 7) (hpre0 : 1 ≤ (σ0 389 246).toInt) (gSI0 : SI σ0) (K4 : J_X12_isSaid_4 p l e s m args below meth c D cA ad σ0 τ0 a1 n) : J_X12_isSaid_4 p l e s m args below meth c D cA ad σ0 τ0 a1 (n + 1) := by
  obtain ⟨hx, hb, hml, hown, hts, hK, hk, hr, hI, hN⟩ := C
  intro σ τ H locs x2 x3 ls hR hF hFL hP hS hc0 hc1 hi0 hi1 hi2 hi3 gSI hl hm
  obtain rfl := FrL.nil hFL
  refine lv_iload_n hx hb dX12_isSaid_4 rfl (lv_at hl 3 rfl) ?_
  refine lv_aload_n hx hb dX12_isSaid_5 rfl (lv_at hl 0 rfl) ?_
  refine fg_12_6 (k := 387) hx hb hts in_X12_isSaid_12 hown hK hP (by decide) (by decide) (hts _ lk_X12_isSaid_33) dX12_isSaid_6 ?_
  refine r_sipush hx hb dX12_isSaid_9 (by decide) (fun z1 ez1 => ?_)
  refine ad_ms (k := 389) (j := 246) hx hb hK hP (by decide) (by decide) (by omega) (by omega) dX12_isSaid_12 ?_
  have hr2 := ra_ms_8 hR (k := 389) (j := 246) (by decide) (by decide) (by decide) (by decide)
  refine r_icmp_ge (tgt := 212) hx hb dX12_isSaid_13 (by decide) (fun c3 => ?_) (fun c3 => ?_)
  · refine lv_aload_n hx hb dX12_isSaid_212 rfl (lv_at hl 0 rfl) ?_
    have h2e := congrArg Int32.toInt (hF.at 389 246 (by decide))
    have hq0 := hi3 0 (by omega)
    refine fg_12_43 (k := 387) hx hb hts in_X12_isSaid_12 hown hK hP (by decide) (by decide) (hts _ lk_X12_isSaid_74) dX12_isSaid_213 ?_
    refine r_iconst hx hb dX12_isSaid_216 (by decide) (fun z4 ez4 => ?_)
    refine ad_mtruths (k := 402) (j := 0) hx hb hK hP (by decide) (by decide) (by omega) (by omega) dX12_isSaid_217 ?_
    exact r_zret hx hb hr hK hP hS hk (by omega) dX12_isSaid_218 (show P_X12_isSaid σ0 τ0 a1 (σ 402 0) σ τ0 from ⟨hR, hF, hFL, by omega⟩)
  · refine r_sipush hx hb dX12_isSaid_16 (by decide) (fun z5 ez5 => ?_)
    refine r_iconst hx hb dX12_isSaid_19 (by decide) (fun z6 ez6 => ?_)
    refine lv_iload_n hx hb dX12_isSaid_20 rfl (lv_at hl 3 rfl) ?_
    refine r_imulL (n := 3) hx hb dX12_isSaid_21 (by omega) (by omega) (fun z7 ez7 => ?_)
    refine r_iadd hx hb dX12_isSaid_22 (by omega) (fun z8 ez8 => ?_)
    refine lv_istore (lv' := [(4, .int z8), (0, .ref (ad 387)), (1, .int a1), (2, .int x2), (3, .int x3)]) hx hb dX12_isSaid_23 hl (by decide) rfl (fun ls hl => ?_)
    refine lv_aload_n hx hb dX12_isSaid_25 rfl (lv_at hl 1 rfl) ?_
    refine fg_12_6 (k := 387) hx hb hts in_X12_isSaid_12 hown hK hP (by decide) (by decide) (hts _ lk_X12_isSaid_33) dX12_isSaid_26 ?_
    refine lv_iload hx hb dX12_isSaid_29 (lv_at hl 0 rfl) ?_
    obtain ⟨j9, ej9⟩ : ∃ j : Nat, z8.toInt = (j : Int) := ⟨_, ti_nat (by omega)⟩
    refine ad_ms (k := 389) (j := j9) hx hb hK hP (by decide) (by decide) ej9 (by omega) dX12_isSaid_31 ?_
    have hz := SI.code (x := x3) (y := x2) (j := j9) gSI0 hF (by decide) hR (by omega) (by omega) (by omega) hi0
    refine r_bipush hx hb dX12_isSaid_32 (by decide) (fun z10 ez10 => ?_)
    refine r_icmp_ne (tgt := 64) hx hb dX12_isSaid_34 (by decide) (fun c11 => ?_) (fun c11 => ?_)
    · refine lv_aload_n hx hb dX12_isSaid_64 rfl (lv_at hl 1 rfl) ?_
      refine fg_12_6 (k := 387) hx hb hts in_X12_isSaid_12 hown hK hP (by decide) (by decide) (hts _ lk_X12_isSaid_33) dX12_isSaid_65 ?_
      refine lv_iload hx hb dX12_isSaid_68 (lv_at hl 0 rfl) ?_
      refine ad_ms (k := 389) (j := j9) hx hb hK hP (by decide) (by decide) ej9 (by omega) dX12_isSaid_70 ?_
      refine r_bipush hx hb dX12_isSaid_71 (by decide) (fun z12 ez12 => ?_)
      refine r_icmp_eq (tgt := 88) hx hb dX12_isSaid_73 (by decide) (fun c13 => ?_) (fun c13 => ?_)
      · refine r_iinc (k := 3) (lv1 := fun z14 => [(2, .int z14), (4, .int z8), (0, .ref (ad 387)), (1, .int a1), (3, .int x3)]) hx hb dX12_isSaid_88 hl rfl (by decide) (fun _ => rfl) (by decide) (by omega) (fun z14 ls ez14 hl => ?_)
        refine lv_aload_n hx hb dX12_isSaid_91 rfl (lv_at hl 2 rfl) ?_
        refine fg_12_43 (k := 387) hx hb hts in_X12_isSaid_12 hown hK hP (by decide) (by decide) (hts _ lk_X12_isSaid_74) dX12_isSaid_92 ?_
        refine lv_iload_n hx hb dX12_isSaid_95 rfl (lv_at hl 0 rfl) ?_
        refine r_iconst hx hb dX12_isSaid_96 (by decide) (fun z15 ez15 => ?_)
        refine r_isub hx hb dX12_isSaid_97 (by omega) (fun z16 ez16 => ?_)
        refine lv_aload_n hx hb dX12_isSaid_98 rfl (lv_at hl 2 rfl) ?_
        refine fg_12_6 (k := 387) hx hb hts in_X12_isSaid_12 hown hK hP (by decide) (by decide) (hts _ lk_X12_isSaid_33) dX12_isSaid_99 ?_
        refine lv_iload hx hb dX12_isSaid_102 (lv_at hl 1 rfl) ?_
        refine ad_ms (k := 389) (j := j9) hx hb hK hP (by decide) (by decide) ej9 (by omega) dX12_isSaid_104 ?_
        refine r_bipush hx hb dX12_isSaid_105 (by decide) (fun z17 ez17 => ?_)
        refine r_icmp_ne (tgt := 138) hx hb dX12_isSaid_107 (by decide) (fun c18 => ?_) (fun c18 => ?_)
        · exfalso; omega
        · refine lv_aload_n hx hb dX12_isSaid_110 rfl (lv_at hl 2 rfl) ?_
          refine fg_12_43 (k := 387) hx hb hts in_X12_isSaid_12 hown hK hP (by decide) (by decide) (hts _ lk_X12_isSaid_74) dX12_isSaid_111 ?_
          refine lv_iload_n hx hb dX12_isSaid_114 rfl (lv_at hl 0 rfl) ?_
          refine r_iconst hx hb dX12_isSaid_115 (by decide) (fun z19 ez19 => ?_)
          refine r_isub hx hb dX12_isSaid_116 (by omega) (fun z20 ez20 => ?_)
          obtain ⟨j21, ej21⟩ : ∃ j : Nat, z20.toInt = (j : Int) := ⟨_, ti_nat (by omega)⟩
          refine ad_mtruths (k := 402) (j := j21) hx hb hK hP (by decide) (by decide) ej21 (by omega) dX12_isSaid_117 ?_
          refine r_if_eq (tgt := 134) hx hb dX12_isSaid_118 (by decide) (fun c22 => ?_) (fun c22 => ?_)
          · refine r_iconst hx hb dX12_isSaid_134 (by decide) (fun z23 ez23 => ?_)
            refine lv_goto (tgt := 163) hx hb dX12_isSaid_135 (by decide) ?_
            refine as_mtruths (k := 402) (j := j21) hx hb hK hP hI hR hS (by decide) (by decide) (by omega) (by omega) (by omega) dX12_isSaid_163 (fun σ24 H24 locs24 u24 v24 hR hP hS => ?_)
            have ut := u24
            have vt := v24
            have hF := hF.puts u24 0 rfl (by decide) (by decide) (by omega) (by omega)
            have gSI := SI.putV gSI hR u24 (by intro q hq; simp only [Gd_SI, List.mem_cons, List.not_mem_nil, or_false] at hq; rcases hq with rfl | rfl | rfl <;> dsimp only [inRc] <;> omega)
            refine lv_goto (tgt := 206) hx hb dX12_isSaid_164 (by decide) ?_
            refine r_iinc (k := 4) (lv1 := fun z25 => [(3, .int z25), (2, .int z14), (4, .int z8), (0, .ref (ad 387)), (1, .int a1)]) hx hb dX12_isSaid_206 hl rfl (by decide) (fun _ => rfl) (by decide) (by omega) (fun z25 ls ez25 hl => ?_)
            refine lv_goto (tgt := 4) hx hb dX12_isSaid_209 (by decide) ?_
            exact K4 σ24 τ0 H24 locs24 z14 z25 ls hR hF hFL hP hS (by omega) (by omega) (by first | (have e1 : z25.toInt.toNat = (x3.toInt + 1).toNat := (by omega); rw [e1]; omega) | (have e0 : z25.toInt.toNat = 0 := (by omega); rw [e0]; show z14.toInt = 0; omega)) (by omega) (by omega) (by first | exact (fun i hi => absurd hi (by omega)) | exact QTst hi3 ut (by omega) (by omega) | exact QTst (QTfr hi3 fl (by decide) (by omega)) ut (by omega) (by omega)) gSI (lv_sub hl [3, 4, 1, 0] rfl) (by omega)
          · refine lv_aload_n hx hb dX12_isSaid_121 rfl (lv_at hl 2 rfl) ?_
            refine fg_12_43 (k := 387) hx hb hts in_X12_isSaid_12 hown hK hP (by decide) (by decide) (hts _ lk_X12_isSaid_74) dX12_isSaid_122 ?_
            refine lv_iload_n hx hb dX12_isSaid_125 rfl (lv_at hl 0 rfl) ?_
            obtain ⟨j26, ej26⟩ : ∃ j : Nat, z14.toInt = (j : Int) := ⟨_, ti_nat (by omega)⟩
            refine ad_mtruths (k := 402) (j := j26) hx hb hK hP (by decide) (by decide) ej26 (by omega) dX12_isSaid_126 ?_
            refine r_if_eq (tgt := 134) hx hb dX12_isSaid_127 (by decide) (fun c27 => ?_) (fun c27 => ?_)
            · refine r_iconst hx hb dX12_isSaid_134 (by decide) (fun z28 ez28 => ?_)
              refine lv_goto (tgt := 163) hx hb dX12_isSaid_135 (by decide) ?_
              refine as_mtruths (k := 402) (j := j21) hx hb hK hP hI hR hS (by decide) (by decide) (by omega) (by omega) (by omega) dX12_isSaid_163 (fun σ29 H29 locs29 u29 v29 hR hP hS => ?_)
              have ut := u29
              have vt := v29
              have hF := hF.puts u29 0 rfl (by decide) (by decide) (by omega) (by omega)
              have gSI := SI.putV gSI hR u29 (by intro q hq; simp only [Gd_SI, List.mem_cons, List.not_mem_nil, or_false] at hq; rcases hq with rfl | rfl | rfl <;> dsimp only [inRc] <;> omega)
              refine lv_goto (tgt := 206) hx hb dX12_isSaid_164 (by decide) ?_
              refine r_iinc (k := 4) (lv1 := fun z30 => [(3, .int z30), (2, .int z14), (4, .int z8), (0, .ref (ad 387)), (1, .int a1)]) hx hb dX12_isSaid_206 hl rfl (by decide) (fun _ => rfl) (by decide) (by omega) (fun z30 ls ez30 hl => ?_)
              refine lv_goto (tgt := 4) hx hb dX12_isSaid_209 (by decide) ?_
              exact K4 σ29 τ0 H29 locs29 z14 z30 ls hR hF hFL hP hS (by omega) (by omega) (by first | (have e1 : z30.toInt.toNat = (x3.toInt + 1).toNat := (by omega); rw [e1]; omega) | (have e0 : z30.toInt.toNat = 0 := (by omega); rw [e0]; show z14.toInt = 0; omega)) (by omega) (by omega) (by first | exact (fun i hi => absurd hi (by omega)) | exact QTst hi3 ut (by omega) (by omega) | exact QTst (QTfr hi3 fl (by decide) (by omega)) ut (by omega) (by omega)) gSI (lv_sub hl [3, 4, 1, 0] rfl) (by omega)
            · refine r_iconst hx hb dX12_isSaid_130 (by decide) (fun z31 ez31 => ?_)
              refine lv_goto (tgt := 163) hx hb dX12_isSaid_131 (by decide) ?_
              refine as_mtruths (k := 402) (j := j21) hx hb hK hP hI hR hS (by decide) (by decide) (by omega) (by omega) (by omega) dX12_isSaid_163 (fun σ32 H32 locs32 u32 v32 hR hP hS => ?_)
              have ut := u32
              have vt := v32
              have hF := hF.puts u32 0 rfl (by decide) (by decide) (by omega) (by omega)
              have gSI := SI.putV gSI hR u32 (by intro q hq; simp only [Gd_SI, List.mem_cons, List.not_mem_nil, or_false] at hq; rcases hq with rfl | rfl | rfl <;> dsimp only [inRc] <;> omega)
              refine lv_goto (tgt := 206) hx hb dX12_isSaid_164 (by decide) ?_
              refine r_iinc (k := 4) (lv1 := fun z33 => [(3, .int z33), (2, .int z14), (4, .int z8), (0, .ref (ad 387)), (1, .int a1)]) hx hb dX12_isSaid_206 hl rfl (by decide) (fun _ => rfl) (by decide) (by omega) (fun z33 ls ez33 hl => ?_)
              refine lv_goto (tgt := 4) hx hb dX12_isSaid_209 (by decide) ?_
              exact K4 σ32 τ0 H32 locs32 z14 z33 ls hR hF hFL hP hS (by omega) (by omega) (by first | (have e1 : z33.toInt.toNat = (x3.toInt + 1).toNat := (by omega); rw [e1]; omega) | (have e0 : z33.toInt.toNat = 0 := (by omega); rw [e0]; show z14.toInt = 0; omega)) (by omega) (by omega) (by first | exact (fun i hi => absurd hi (by omega)) | exact QTst hi3 ut (by omega) (by omega) | exact QTst (QTfr hi3 fl (by decide) (by omega)) ut (by omega) (by omega)) gSI (lv_sub hl [3, 4, 1, 0] rfl) (by omega)
      · refine lv_aload_n hx hb dX12_isSaid_76 rfl (lv_at hl 1 rfl) ?_
        refine fg_12_6 (k := 387) hx hb hts in_X12_isSaid_12 hown hK hP (by decide) (by decide) (hts _ lk_X12_isSaid_33) dX12_isSaid_77 ?_
        refine lv_iload hx hb dX12_isSaid_80 (lv_at hl 0 rfl) ?_
        refine ad_ms (k := 389) (j := j9) hx hb hK hP (by decide) (by decide) ej9 (by omega) dX12_isSaid_82 ?_
        refine r_bipush hx hb dX12_isSaid_83 (by decide) (fun z34 ez34 => ?_)
        refine r_icmp_ne (tgt := 167) hx hb dX12_isSaid_85 (by decide) (fun c35 => ?_) (fun c35 => ?_)
        · refine lv_aload_n hx hb dX12_isSaid_167 rfl (lv_at hl 1 rfl) ?_
          refine fg_12_43 (k := 387) hx hb hts in_X12_isSaid_12 hown hK hP (by decide) (by decide) (hts _ lk_X12_isSaid_74) dX12_isSaid_168 ?_
          refine lv_iload_n hx hb dX12_isSaid_171 rfl (lv_at hl 3 rfl) ?_
          refine lv_aload_n hx hb dX12_isSaid_172 rfl (lv_at hl 1 rfl) ?_
          refine lv_iload_n hx hb dX12_isSaid_173 rfl (lv_at hl 2 rfl) ?_
          refine lv_aload_n hx hb dX12_isSaid_174 rfl (lv_at hl 1 rfl) ?_
          refine fg_12_6 (k := 387) hx hb hts in_X12_isSaid_12 hown hK hP (by decide) (by decide) (hts _ lk_X12_isSaid_33) dX12_isSaid_175 ?_
          refine lv_iload hx hb dX12_isSaid_178 (lv_at hl 0 rfl) ?_
          refine ad_ms (k := 389) (j := j9) hx hb hK hP (by decide) (by decide) ej9 (by omega) dX12_isSaid_180 ?_
          refine lv_aload_n hx hb dX12_isSaid_181 rfl (lv_at hl 1 rfl) ?_
          refine fg_12_6 (k := 387) hx hb hts in_X12_isSaid_12 hown hK hP (by decide) (by decide) (hts _ lk_X12_isSaid_33) dX12_isSaid_182 ?_
          refine lv_iload hx hb dX12_isSaid_185 (lv_at hl 0 rfl) ?_
          refine r_iconst hx hb dX12_isSaid_187 (by decide) (fun z36 ez36 => ?_)
          refine r_iadd hx hb dX12_isSaid_188 (by omega) (fun z37 ez37 => ?_)
          obtain ⟨j38, ej38⟩ : ∃ j : Nat, z37.toInt = (j : Int) := ⟨_, ti_nat (by omega)⟩
          refine ad_ms (k := 389) (j := j38) hx hb hK hP (by decide) (by decide) ej38 (by omega) dX12_isSaid_189 ?_
          refine lv_aload_n hx hb dX12_isSaid_190 rfl (lv_at hl 1 rfl) ?_
          refine fg_12_6 (k := 387) hx hb hts in_X12_isSaid_12 hown hK hP (by decide) (by decide) (hts _ lk_X12_isSaid_33) dX12_isSaid_191 ?_
          refine lv_iload hx hb dX12_isSaid_194 (lv_at hl 0 rfl) ?_
          refine r_iconst hx hb dX12_isSaid_196 (by decide) (fun z39 ez39 => ?_)
          refine r_iadd hx hb dX12_isSaid_197 (by omega) (fun z40 ez40 => ?_)
          obtain ⟨j41, ej41⟩ : ∃ j : Nat, z40.toInt = (j : Int) := ⟨_, ti_nat (by omega)⟩
          refine ad_ms (k := 389) (j := j41) hx hb hK hP (by decide) (by decide) ej41 (by omega) dX12_isSaid_198 ?_
          refine r_cVi (k := 387) (As := [.int a1, .int (σ 389 j9), .int (σ 389 j38), .int (σ 389 j41)]) (rest := [.int x2, .ref (ad 402)]) ⟨hx, hb, hml, hown, hts⟩ hK hP hN hS (c_X12_isLeaf l D cA ad hI σ τ0 hR a1 (σ 389 j9) (σ 389 j38) (σ 389 j41) (by omega)) (cwV 4 hts gX12_isSaid_X12_isLeaf rfl rfl rfl (by decide +kernel) ⟨by decide, by decide⟩) (rv_M hK hP (by decide) (by decide)) rfl hl.1 rfl (Nat.le_of_ble_eq_true rfl) dX12_isSaid_199 (Nat.zero_le _) (Nat.zero_le _) (fun r42 u42 H42 locs42 hp42 hP hS => ?_)
          obtain ⟨σ42, τ42⟩ := u42
          obtain ⟨hR, f42, fL42, hq42⟩ : P_X12_isLeaf σ τ0 a1 (σ 389 j9) (σ 389 j38) (σ 389 j41) r42 σ42 τ42 := hp42
          have fl := f42
          have hP : va_P D vwCl (gw cA ad σ42 τ42) H42 := hP
          obtain rfl := FrL.nil fL42
          have hF := hF.step f42 (by decide)
          have gSI := SI.fr gSI hR f42 (by decide)
          obtain ⟨j43, ej43⟩ : ∃ j : Nat, x2.toInt = (j : Int) := ⟨_, ti_nat (by omega)⟩
          refine as_mtruths (k := 402) (j := j43) hx hb hK hP hI hR hS (by decide) (by decide) ej43 (by omega) (by omega) dX12_isSaid_202 (fun σ44 H44 locs44 u44 v44 hR hP hS => ?_)
          have ut := u44
          have vt := v44
          have hF := hF.puts u44 0 rfl (by decide) (by decide) (by omega) (by omega)
          have gSI := SI.putV gSI hR u44 (by intro q hq; simp only [Gd_SI, List.mem_cons, List.not_mem_nil, or_false] at hq; rcases hq with rfl | rfl | rfl <;> dsimp only [inRc] <;> omega)
          refine r_iinc (k := 3) (lv1 := fun z45 => [(2, .int z45), (4, .int z8), (0, .ref (ad 387)), (1, .int a1), (3, .int x3)]) hx hb dX12_isSaid_203 hl rfl (by decide) (fun _ => rfl) (by decide) (by omega) (fun z45 ls ez45 hl => ?_)
          refine r_iinc (k := 4) (lv1 := fun z46 => [(3, .int z46), (2, .int z45), (4, .int z8), (0, .ref (ad 387)), (1, .int a1)]) hx hb dX12_isSaid_206 hl rfl (by decide) (fun _ => rfl) (by decide) (by omega) (fun z46 ls ez46 hl => ?_)
          refine lv_goto (tgt := 4) hx hb dX12_isSaid_209 (by decide) ?_
          exact K4 σ44 τ0 H44 locs44 z45 z46 ls hR hF hFL hP hS (by omega) (by omega) (by first | (have e1 : z46.toInt.toNat = (x3.toInt + 1).toNat := (by omega); rw [e1]; omega) | (have e0 : z46.toInt.toNat = 0 := (by omega); rw [e0]; show z45.toInt = 0; omega)) (by omega) (by omega) (by first | exact (fun i hi => absurd hi (by omega)) | exact QTst hi3 ut (by omega) (by omega) | exact QTst (QTfr hi3 fl (by decide) (by omega)) ut (by omega) (by omega)) gSI (lv_sub hl [3, 4, 1, 0] rfl) (by omega)
        · refine r_iinc (k := 3) (lv1 := fun z47 => [(2, .int z47), (4, .int z8), (0, .ref (ad 387)), (1, .int a1), (3, .int x3)]) hx hb dX12_isSaid_88 hl rfl (by decide) (fun _ => rfl) (by decide) (by omega) (fun z47 ls ez47 hl => ?_)
          refine lv_aload_n hx hb dX12_isSaid_91 rfl (lv_at hl 2 rfl) ?_
          refine fg_12_43 (k := 387) hx hb hts in_X12_isSaid_12 hown hK hP (by decide) (by decide) (hts _ lk_X12_isSaid_74) dX12_isSaid_92 ?_
          refine lv_iload_n hx hb dX12_isSaid_95 rfl (lv_at hl 0 rfl) ?_
          refine r_iconst hx hb dX12_isSaid_96 (by decide) (fun z48 ez48 => ?_)
          refine r_isub hx hb dX12_isSaid_97 (by omega) (fun z49 ez49 => ?_)
          refine lv_aload_n hx hb dX12_isSaid_98 rfl (lv_at hl 2 rfl) ?_
          refine fg_12_6 (k := 387) hx hb hts in_X12_isSaid_12 hown hK hP (by decide) (by decide) (hts _ lk_X12_isSaid_33) dX12_isSaid_99 ?_
          refine lv_iload hx hb dX12_isSaid_102 (lv_at hl 1 rfl) ?_
          refine ad_ms (k := 389) (j := j9) hx hb hK hP (by decide) (by decide) ej9 (by omega) dX12_isSaid_104 ?_
          refine r_bipush hx hb dX12_isSaid_105 (by decide) (fun z50 ez50 => ?_)
          refine r_icmp_ne (tgt := 138) hx hb dX12_isSaid_107 (by decide) (fun c51 => ?_) (fun c51 => ?_)
          · refine lv_aload_n hx hb dX12_isSaid_138 rfl (lv_at hl 2 rfl) ?_
            refine fg_12_43 (k := 387) hx hb hts in_X12_isSaid_12 hown hK hP (by decide) (by decide) (hts _ lk_X12_isSaid_74) dX12_isSaid_139 ?_
            refine lv_iload_n hx hb dX12_isSaid_142 rfl (lv_at hl 0 rfl) ?_
            refine r_iconst hx hb dX12_isSaid_143 (by decide) (fun z52 ez52 => ?_)
            refine r_isub hx hb dX12_isSaid_144 (by omega) (fun z53 ez53 => ?_)
            obtain ⟨j54, ej54⟩ : ∃ j : Nat, z53.toInt = (j : Int) := ⟨_, ti_nat (by omega)⟩
            refine ad_mtruths (k := 402) (j := j54) hx hb hK hP (by decide) (by decide) ej54 (by omega) dX12_isSaid_145 ?_
            refine r_if_ne (tgt := 158) hx hb dX12_isSaid_146 (by decide) (fun c55 => ?_) (fun c55 => ?_)
            · refine r_iconst hx hb dX12_isSaid_158 (by decide) (fun z56 ez56 => ?_)
              refine lv_goto (tgt := 163) hx hb dX12_isSaid_159 (by decide) ?_
              refine as_mtruths (k := 402) (j := j54) hx hb hK hP hI hR hS (by decide) (by decide) (by omega) (by omega) (by omega) dX12_isSaid_163 (fun σ57 H57 locs57 u57 v57 hR hP hS => ?_)
              have ut := u57
              have vt := v57
              have hF := hF.puts u57 0 rfl (by decide) (by decide) (by omega) (by omega)
              have gSI := SI.putV gSI hR u57 (by intro q hq; simp only [Gd_SI, List.mem_cons, List.not_mem_nil, or_false] at hq; rcases hq with rfl | rfl | rfl <;> dsimp only [inRc] <;> omega)
              refine lv_goto (tgt := 206) hx hb dX12_isSaid_164 (by decide) ?_
              refine r_iinc (k := 4) (lv1 := fun z58 => [(3, .int z58), (2, .int z47), (4, .int z8), (0, .ref (ad 387)), (1, .int a1)]) hx hb dX12_isSaid_206 hl rfl (by decide) (fun _ => rfl) (by decide) (by omega) (fun z58 ls ez58 hl => ?_)
              refine lv_goto (tgt := 4) hx hb dX12_isSaid_209 (by decide) ?_
              exact K4 σ57 τ0 H57 locs57 z47 z58 ls hR hF hFL hP hS (by omega) (by omega) (by first | (have e1 : z58.toInt.toNat = (x3.toInt + 1).toNat := (by omega); rw [e1]; omega) | (have e0 : z58.toInt.toNat = 0 := (by omega); rw [e0]; show z47.toInt = 0; omega)) (by omega) (by omega) (by first | exact (fun i hi => absurd hi (by omega)) | exact QTst hi3 ut (by omega) (by omega) | exact QTst (QTfr hi3 fl (by decide) (by omega)) ut (by omega) (by omega)) gSI (lv_sub hl [3, 4, 1, 0] rfl) (by omega)
            · refine lv_aload_n hx hb dX12_isSaid_149 rfl (lv_at hl 2 rfl) ?_
              refine fg_12_43 (k := 387) hx hb hts in_X12_isSaid_12 hown hK hP (by decide) (by decide) (hts _ lk_X12_isSaid_74) dX12_isSaid_150 ?_
              refine lv_iload_n hx hb dX12_isSaid_153 rfl (lv_at hl 0 rfl) ?_
              obtain ⟨j59, ej59⟩ : ∃ j : Nat, z47.toInt = (j : Int) := ⟨_, ti_nat (by omega)⟩
              refine ad_mtruths (k := 402) (j := j59) hx hb hK hP (by decide) (by decide) ej59 (by omega) dX12_isSaid_154 ?_
              refine r_if_eq (tgt := 162) hx hb dX12_isSaid_155 (by decide) (fun c60 => ?_) (fun c60 => ?_)
              · refine r_iconst hx hb dX12_isSaid_162 (by decide) (fun z61 ez61 => ?_)
                refine as_mtruths (k := 402) (j := j54) hx hb hK hP hI hR hS (by decide) (by decide) (by omega) (by omega) (by omega) dX12_isSaid_163 (fun σ62 H62 locs62 u62 v62 hR hP hS => ?_)
                have ut := u62
                have vt := v62
                have hF := hF.puts u62 0 rfl (by decide) (by decide) (by omega) (by omega)
                have gSI := SI.putV gSI hR u62 (by intro q hq; simp only [Gd_SI, List.mem_cons, List.not_mem_nil, or_false] at hq; rcases hq with rfl | rfl | rfl <;> dsimp only [inRc] <;> omega)
                refine lv_goto (tgt := 206) hx hb dX12_isSaid_164 (by decide) ?_
                refine r_iinc (k := 4) (lv1 := fun z63 => [(3, .int z63), (2, .int z47), (4, .int z8), (0, .ref (ad 387)), (1, .int a1)]) hx hb dX12_isSaid_206 hl rfl (by decide) (fun _ => rfl) (by decide) (by omega) (fun z63 ls ez63 hl => ?_)
                refine lv_goto (tgt := 4) hx hb dX12_isSaid_209 (by decide) ?_
                exact K4 σ62 τ0 H62 locs62 z47 z63 ls hR hF hFL hP hS (by omega) (by omega) (by first | (have e1 : z63.toInt.toNat = (x3.toInt + 1).toNat := (by omega); rw [e1]; omega) | (have e0 : z63.toInt.toNat = 0 := (by omega); rw [e0]; show z47.toInt = 0; omega)) (by omega) (by omega) (by first | exact (fun i hi => absurd hi (by omega)) | exact QTst hi3 ut (by omega) (by omega) | exact QTst (QTfr hi3 fl (by decide) (by omega)) ut (by omega) (by omega)) gSI (lv_sub hl [3, 4, 1, 0] rfl) (by omega)
              · refine r_iconst hx hb dX12_isSaid_158 (by decide) (fun z64 ez64 => ?_)
                refine lv_goto (tgt := 163) hx hb dX12_isSaid_159 (by decide) ?_
                refine as_mtruths (k := 402) (j := j54) hx hb hK hP hI hR hS (by decide) (by decide) (by omega) (by omega) (by omega) dX12_isSaid_163 (fun σ65 H65 locs65 u65 v65 hR hP hS => ?_)
                have ut := u65
                have vt := v65
                have hF := hF.puts u65 0 rfl (by decide) (by decide) (by omega) (by omega)
                have gSI := SI.putV gSI hR u65 (by intro q hq; simp only [Gd_SI, List.mem_cons, List.not_mem_nil, or_false] at hq; rcases hq with rfl | rfl | rfl <;> dsimp only [inRc] <;> omega)
                refine lv_goto (tgt := 206) hx hb dX12_isSaid_164 (by decide) ?_
                refine r_iinc (k := 4) (lv1 := fun z66 => [(3, .int z66), (2, .int z47), (4, .int z8), (0, .ref (ad 387)), (1, .int a1)]) hx hb dX12_isSaid_206 hl rfl (by decide) (fun _ => rfl) (by decide) (by omega) (fun z66 ls ez66 hl => ?_)
                refine lv_goto (tgt := 4) hx hb dX12_isSaid_209 (by decide) ?_
                exact K4 σ65 τ0 H65 locs65 z47 z66 ls hR hF hFL hP hS (by omega) (by omega) (by first | (have e1 : z66.toInt.toNat = (x3.toInt + 1).toNat := (by omega); rw [e1]; omega) | (have e0 : z66.toInt.toNat = 0 := (by omega); rw [e0]; show z47.toInt = 0; omega)) (by omega) (by omega) (by first | exact (fun i hi => absurd hi (by omega)) | exact QTst hi3 ut (by omega) (by omega) | exact QTst (QTfr hi3 fl (by decide) (by omega)) ut (by omega) (by omega)) gSI (lv_sub hl [3, 4, 1, 0] rfl) (by omega)
          · exfalso; omega
    · refine lv_aload_n hx hb dX12_isSaid_37 rfl (lv_at hl 1 rfl) ?_
      refine fg_12_43 (k := 387) hx hb hts in_X12_isSaid_12 hown hK hP (by decide) (by decide) (hts _ lk_X12_isSaid_74) dX12_isSaid_38 ?_
      refine lv_iload_n hx hb dX12_isSaid_41 rfl (lv_at hl 3 rfl) ?_
      refine r_iconst hx hb dX12_isSaid_42 (by decide) (fun z67 ez67 => ?_)
      refine r_isub hx hb dX12_isSaid_43 (by omega) (fun z68 ez68 => ?_)
      refine lv_aload_n hx hb dX12_isSaid_44 rfl (lv_at hl 1 rfl) ?_
      refine fg_12_43 (k := 387) hx hb hts in_X12_isSaid_12 hown hK hP (by decide) (by decide) (hts _ lk_X12_isSaid_74) dX12_isSaid_45 ?_
      refine lv_iload_n hx hb dX12_isSaid_48 rfl (lv_at hl 3 rfl) ?_
      refine r_iconst hx hb dX12_isSaid_49 (by decide) (fun z69 ez69 => ?_)
      refine r_isub hx hb dX12_isSaid_50 (by omega) (fun z70 ez70 => ?_)
      obtain ⟨j71, ej71⟩ : ∃ j : Nat, z70.toInt = (j : Int) := ⟨_, ti_nat (by omega)⟩
      refine ad_mtruths (k := 402) (j := j71) hx hb hK hP (by decide) (by decide) ej71 (by omega) dX12_isSaid_51 ?_
      refine r_if_ne (tgt := 59) hx hb dX12_isSaid_52 (by decide) (fun c72 => ?_) (fun c72 => ?_)
      · refine r_iconst hx hb dX12_isSaid_59 (by decide) (fun z73 ez73 => ?_)
        refine as_mtruths (k := 402) (j := j71) hx hb hK hP hI hR hS (by decide) (by decide) (by omega) (by omega) (by omega) dX12_isSaid_60 (fun σ74 H74 locs74 u74 v74 hR hP hS => ?_)
        have ut := u74
        have vt := v74
        have hF := hF.puts u74 0 rfl (by decide) (by decide) (by omega) (by omega)
        have gSI := SI.putV gSI hR u74 (by intro q hq; simp only [Gd_SI, List.mem_cons, List.not_mem_nil, or_false] at hq; rcases hq with rfl | rfl | rfl <;> dsimp only [inRc] <;> omega)
        refine lv_goto (tgt := 206) hx hb dX12_isSaid_61 (by decide) ?_
        refine r_iinc (k := 4) (lv1 := fun z75 => [(3, .int z75), (4, .int z8), (0, .ref (ad 387)), (1, .int a1), (2, .int x2)]) hx hb dX12_isSaid_206 hl rfl (by decide) (fun _ => rfl) (by decide) (by omega) (fun z75 ls ez75 hl => ?_)
        refine lv_goto (tgt := 4) hx hb dX12_isSaid_209 (by decide) ?_
        exact K4 σ74 τ0 H74 locs74 x2 z75 ls hR hF hFL hP hS (by omega) (by omega) (by first | (have e1 : z75.toInt.toNat = (x3.toInt + 1).toNat := (by omega); rw [e1]; omega) | (have e0 : z75.toInt.toNat = 0 := (by omega); rw [e0]; show x2.toInt = 0; omega)) (by omega) (by omega) (by first | exact (fun i hi => absurd hi (by omega)) | exact QTst hi3 ut (by omega) (by omega) | exact QTst (QTfr hi3 fl (by decide) (by omega)) ut (by omega) (by omega)) gSI (lv_sub hl [2, 3, 4, 0] rfl) (by omega)
      · refine r_iconst hx hb dX12_isSaid_55 (by decide) (fun z76 ez76 => ?_)
        refine lv_goto (tgt := 60) hx hb dX12_isSaid_56 (by decide) ?_
        refine as_mtruths (k := 402) (j := j71) hx hb hK hP hI hR hS (by decide) (by decide) (by omega) (by omega) (by omega) dX12_isSaid_60 (fun σ77 H77 locs77 u77 v77 hR hP hS => ?_)
        have ut := u77
        have vt := v77
        have hF := hF.puts u77 0 rfl (by decide) (by decide) (by omega) (by omega)
        have gSI := SI.putV gSI hR u77 (by intro q hq; simp only [Gd_SI, List.mem_cons, List.not_mem_nil, or_false] at hq; rcases hq with rfl | rfl | rfl <;> dsimp only [inRc] <;> omega)
        refine lv_goto (tgt := 206) hx hb dX12_isSaid_61 (by decide) ?_
        refine r_iinc (k := 4) (lv1 := fun z78 => [(3, .int z78), (4, .int z8), (0, .ref (ad 387)), (1, .int a1), (2, .int x2)]) hx hb dX12_isSaid_206 hl rfl (by decide) (fun _ => rfl) (by decide) (by omega) (fun z78 ls ez78 hl => ?_)
        refine lv_goto (tgt := 4) hx hb dX12_isSaid_209 (by decide) ?_
        exact K4 σ77 τ0 H77 locs77 x2 z78 ls hR hF hFL hP hS (by omega) (by omega) (by first | (have e1 : z78.toInt.toNat = (x3.toInt + 1).toNat := (by omega); rw [e1]; omega) | (have e0 : z78.toInt.toNat = 0 := (by omega); rw [e0]; show x2.toInt = 0; omega)) (by omega) (by omega) (by first | exact (fun i hi => absurd hi (by omega)) | exact QTst hi3 ut (by omega) (by omega) | exact QTst (QTfr hi3 fl (by decide) (by omega)) ut (by omega) (by omega)) gSI (lv_sub hl [2, 3, 4, 0] rfl) (by omega)
theorem A_X12_isSaid (p : Program) (l : Launch) (e : Env) (s : State) (m : MethodId) (args : Array Value) (below : List Frame) (meth : Method) (c : Code) (D : va_G) (cA : Nat → ClassId) (ad : Nat → Nat) (σ0 : Nat → Nat → Int32) (τ0 : Nat → Nat → Int64) (a1 : Int32) (C : Cy p s m args meth c cX12_isSaid 5 wsX12_isSaid RX12 D cA ad (some .boolean)) (ha1 : 0 ≤ a1.toInt ∧ a1.toInt ≤ 7) (hpre0 : 1 ≤ (σ0 389 246).toInt) (gSI0 : SI σ0) : ∀ n : Nat, J_X12_isSaid_4 p l e s m args below meth c D cA ad σ0 τ0 a1 n := by
  intro n
  induction n with
  | zero =>
    exact (by intro σ τ H locs x2 x3 ls hR hF hFL hP hS hc0 hc1 hi0 hi1 hi2 hi3 gSI hl hm; exfalso; omega)
  | succ n ih =>
    exact B_X12_isSaid_4 p l e s m args below meth c D cA ad σ0 τ0 a1 n C ha1 hpre0 gSI0 ih
set_option maxHeartbeats 4000000 in
theorem c_X12_isSaid (l : Launch) (D : va_G) (cA : Nat → ClassId) (ad : Nat → Nat) (hI : Inj ad) (σ0 : Nat → Nat → Int32) (τ0 : Nat → Nat → Int64) (hR : Rg σ0) (a1 : Int32) (ha1 : 0 ≤ a1.toInt ∧ a1.toInt ≤ 7) (hpre0 : 1 ≤ (σ0 389 246).toInt) (gSI0 : SI σ0) : Met l yX12_isSaid wsX12_isSaid ({ frames := 5, cells := 0, slots := 0, locals := 117 } : Room) (WQc D cA ad [.ref (ad 387), .int a1] σ0 τ0) (va_Qi (fun (r : Int32) (u : SS) => P_X12_isSaid σ0 τ0 a1 r u.1 u.2) (WB D cA ad) (AA ad)) 0 0 (AA ad) := by
  refine Met.ofW (cc := cX12_isSaid) (maxL := 5) (ret := (some .boolean)) (by decide) rfl ?_
  intro p e s m args below meth c s₁ B hml hv
  obtain ⟨rfl, hP, hK, hN⟩ := hv
  have C : Cy p s m _ meth c cX12_isSaid 5 wsX12_isSaid RX12 D cA ad (some .boolean) := ⟨B.exec, B.bytes, hml, findClass_of_methodNamed B.named, atoms_spec (ws := wsX12_isSaid) B.pre, hK, B.notSynchronized, B.returns, hI, hN⟩
  have hl := lv_entry ([.ref (ad 387), .int a1]) (n := 5) (Nat.le_of_ble_eq_true rfl)
  rw [lg_entry_eq]
  generalize (lg_sl ([.ref (ad 387), .int a1]) ++ List.replicate (5 - (lg_sl ([.ref (ad 387), .int a1])).length) Slot.unset).toArray = ls at hl ⊢
  have hl : lv_has ls 5 [(0, .ref (ad 387)), (1, .int a1)] := hl
  have hS : va_S (AA ad) s.heap s.heap [] := va_S.rf
  have hF : Fr L_X12_isSaid σ0 σ0 := Fr.rf
  have hFL : FrL LL_X12_isSaid τ0 τ0 := FrL.rf
  have gSI := gSI0
  have hA := A_X12_isSaid p l e s m _ below meth c D cA ad σ0 τ0 a1 C ha1 hpre0 gSI0 170
  have K4 := hA
  clear hA
  obtain ⟨hx, hb, _, hown, hts, _, hk, hr, _, _⟩ := C
  refine r_iconst hx hb dX12_isSaid_0 (by decide) (fun z1 ez1 => ?_)
  refine lv_istore_n (lv' := [(2, .int z1), (0, .ref (ad 387)), (1, .int a1)]) hx hb dX12_isSaid_1 rfl hl (by decide) rfl (fun ls hl => ?_)
  refine r_iconst hx hb dX12_isSaid_2 (by decide) (fun z2 ez2 => ?_)
  refine lv_istore_n (lv' := [(3, .int z2), (2, .int z1), (0, .ref (ad 387)), (1, .int a1)]) hx hb dX12_isSaid_3 rfl hl (by decide) rfl (fun ls hl => ?_)
  exact K4 σ0 τ0 s.heap [] z1 z2 ls hR hF hFL hP hS (by omega) (by omega) (by first | (have e1 : z2.toInt.toNat = (x3.toInt + 1).toNat := (by omega); rw [e1]; omega) | (have e0 : z2.toInt.toNat = 0 := (by omega); rw [e0]; show z1.toInt = 0; omega)) (by omega) (by omega) (by first | exact (fun i hi => absurd hi (by omega)) | exact QTst hi3 ut (by omega) (by omega) | exact QTst (QTfr hi3 fl (by decide) (by omega)) ut (by omega) (by omega)) gSI (lv_sub hl [2, 3, 1, 0] rfl) (by omega)
