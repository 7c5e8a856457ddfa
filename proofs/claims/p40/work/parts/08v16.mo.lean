abbrev L_X12_bad : List Rc := [(387, 387, 15, 16)]
abbrev LL_X12_bad : List Rc := []
def P_X12_bad (σ0 : Nat → Nat → Int32) (τ0 : Nat → Nat → Int64) (a1 : Int32) (r : Int32) (σ : Nat → Nat → Int32) (τ : Nat → Nat → Int64) : Prop := Rg σ ∧ Fr L_X12_bad σ0 σ ∧ FrL LL_X12_bad τ0 τ ∧ (0 ≤ r.toInt ∧ r.toInt ≤ 0)
set_option maxHeartbeats 4000000 in
theorem c_X12_bad (l : Launch) (D : va_G) (cA : Nat → ClassId) (ad : Nat → Nat) (hI : Inj ad) (σ0 : Nat → Nat → Int32) (τ0 : Nat → Nat → Int64) (hR : Rg σ0) (a1 : Int32) (ha1 : 1 ≤ a1.toInt ∧ a1.toInt ≤ 4) : Met l yX12_bad wsX12_bad ({ frames := 0, cells := 0, slots := 0, locals := 0 } : Room) (WQc D cA ad [.ref (ad 387), .int a1] σ0 τ0) (va_Qi (fun (r : Int32) (u : SS) => P_X12_bad σ0 τ0 a1 r u.1 u.2) (WB D cA ad) (AA ad)) 0 0 (AA ad) := by
  refine Met.ofW (cc := cX12_bad) (maxL := 2) (ret := (some .boolean)) (by decide) rfl ?_
  intro p e s m args below meth c s₁ B hml hv
  obtain ⟨rfl, hP, hK, hN⟩ := hv
  have C : Cy p s m _ meth c cX12_bad 2 wsX12_bad RX12 D cA ad (some .boolean) := ⟨B.exec, B.bytes, hml, findClass_of_methodNamed B.named, atoms_spec (ws := wsX12_bad) B.pre, hK, B.notSynchronized, B.returns, hI, hN⟩
  have hl := lv_entry ([.ref (ad 387), .int a1]) (n := 2) (Nat.le_of_ble_eq_true rfl)
  rw [lg_entry_eq]
  generalize (lg_sl ([.ref (ad 387), .int a1]) ++ List.replicate (2 - (lg_sl ([.ref (ad 387), .int a1])).length) Slot.unset).toArray = ls at hl ⊢
  have hl : lv_has ls 2 [(0, .ref (ad 387)), (1, .int a1)] := hl
  have hS : va_S (AA ad) s.heap s.heap [] := va_S.rf
  have hF : Fr L_X12_bad σ0 σ0 := Fr.rf
  have hFL : FrL LL_X12_bad τ0 τ0 := FrL.rf
  obtain ⟨hx, hb, _, hown, hts, _, hk, hr, _, _⟩ := C
  refine lv_aload_n hx hb dX12_bad_0 rfl (lv_at hl 0 rfl) ?_
  refine lv_iload_n hx hb dX12_bad_1 rfl (lv_at hl 1 rfl) ?_
  refine fp_12_15 (k := 387) hx hb hts in_X12_bad_12 hown hK hP (by decide) (by decide) (hts _ lk_X12_bad_176) hI hR hS dX12_bad_2 (fun σ1 H1 locs1 u1 v1 hR hP hS => ?_)
  have hF := hF.puts u1 0 rfl (by decide) (by decide) (by decide) (by decide)
  refine lv_aload_n hx hb dX12_bad_5 rfl (lv_at hl 0 rfl) ?_
  refine lv_aload_n hx hb dX12_bad_6 rfl (lv_at hl 0 rfl) ?_
  refine fg_12_12 (k := 387) hx hb hts in_X12_bad_12 hown hK hP (by decide) (by decide) (hts _ lk_X12_bad_153) dX12_bad_7 ?_
  refine fp_12_16 (k := 387) hx hb hts in_X12_bad_12 hown hK hP (by decide) (by decide) (hts _ lk_X12_bad_179) hI hR hS dX12_bad_10 (fun σ2 H2 locs2 u2 v2 hR hP hS => ?_)
  have hF := hF.puts u2 0 rfl (by decide) (by decide) (by decide) (by decide)
  refine r_iconst hx hb dX12_bad_13 (by decide) (fun z3 ez3 => ?_)
  exact r_zret hx hb hr hK hP hS hk (by omega) dX12_bad_14 (show P_X12_bad σ0 τ0 a1 z3 σ2 τ0 from ⟨hR, hF, hFL, by omega⟩)
abbrev L_X12_isWord : List Rc := []
abbrev LL_X12_isWord : List Rc := []
def P_X12_isWord (σ0 : Nat → Nat → Int32) (τ0 : Nat → Nat → Int64) (a1 : Int64) (r : Int32) (σ : Nat → Nat → Int32) (τ : Nat → Nat → Int64) : Prop := Rg σ ∧ Fr L_X12_isWord σ0 σ ∧ FrL LL_X12_isWord τ0 τ ∧ (0 ≤ r.toInt ∧ r.toInt ≤ 1) ∧ (r.toInt = 0 ∨ (σ0 387 11).toInt = 1)
set_option maxHeartbeats 4000000 in
theorem c_X12_isWord (l : Launch) (D : va_G) (cA : Nat → ClassId) (ad : Nat → Nat) (hI : Inj ad) (σ0 : Nat → Nat → Int32) (τ0 : Nat → Nat → Int64) (hR : Rg σ0) (a1 : Int64)  : Met l yX12_isWord wsX12_isWord ({ frames := 0, cells := 0, slots := 0, locals := 0 } : Room) (WQc D cA ad [.ref (ad 387), .long a1] σ0 τ0) (va_Qi (fun (r : Int32) (u : SS) => P_X12_isWord σ0 τ0 a1 r u.1 u.2) (WB D cA ad) (AA ad)) 0 0 (AA ad) := by
  refine Met.ofW (cc := cX12_isWord) (maxL := 3) (ret := (some .boolean)) (by decide) rfl ?_
  intro p e s m args below meth c s₁ B hml hv
  obtain ⟨rfl, hP, hK, hN⟩ := hv
  have C : Cy p s m _ meth c cX12_isWord 3 wsX12_isWord RX12 D cA ad (some .boolean) := ⟨B.exec, B.bytes, hml, findClass_of_methodNamed B.named, atoms_spec (ws := wsX12_isWord) B.pre, hK, B.notSynchronized, B.returns, hI, hN⟩
  have hl := lv_entry ([.ref (ad 387), .long a1]) (n := 3) (Nat.le_of_ble_eq_true rfl)
  rw [lg_entry_eq]
  generalize (lg_sl ([.ref (ad 387), .long a1]) ++ List.replicate (3 - (lg_sl ([.ref (ad 387), .long a1])).length) Slot.unset).toArray = ls at hl ⊢
  have hl : lv_has ls 3 [(0, .ref (ad 387)), (1, .long a1)] := hl
  have hS : va_S (AA ad) s.heap s.heap [] := va_S.rf
  have hF : Fr L_X12_isWord σ0 σ0 := Fr.rf
  have hFL : FrL LL_X12_isWord τ0 τ0 := FrL.rf
  obtain ⟨hx, hb, _, hown, hts, _, hk, hr, _, _⟩ := C
  refine lv_aload_n hx hb dX12_isWord_0 rfl (lv_at hl 0 rfl) ?_
  refine fg_12_11 (k := 387) hx hb hts in_X12_isWord_12 hown hK hP (by decide) (by decide) (hts _ lk_X12_isWord_159) dX12_isWord_1 ?_
  refine r_iconst hx hb dX12_isWord_4 (by decide) (fun z1 ez1 => ?_)
  refine r_icmp_ne (tgt := 21) hx hb dX12_isWord_5 (by decide) (fun c2 => ?_) (fun c2 => ?_)
  · refine r_iconst hx hb dX12_isWord_21 (by decide) (fun z3 ez3 => ?_)
    exact r_zret hx hb hr hK hP hS hk (by omega) dX12_isWord_22 (show P_X12_isWord σ0 τ0 a1 z3 σ0 τ0 from ⟨hR, hF, hFL, by omega, by omega⟩)
  · refine lv_aload_n hx hb dX12_isWord_8 rfl (lv_at hl 0 rfl) ?_
    refine fg_12_17 (k := 387) hx hb hts in_X12_isWord_12 hown hK hP (by decide) (by decide) (hts _ lk_X12_isWord_172) dX12_isWord_9 ?_
    refine lv_lload_n hx hb dX12_isWord_12 rfl (lv_at hl 1 rfl) ?_
    refine r_lcmpE hx hb dX12_isWord_13 (fun z4 ez4 => ?_)
    refine r_if_ne (tgt := 21) hx hb dX12_isWord_14 (by decide) (fun c5 => ?_) (fun c5 => ?_)
    · refine r_iconst hx hb dX12_isWord_21 (by decide) (fun z6 ez6 => ?_)
      exact r_zret hx hb hr hK hP hS hk (by omega) dX12_isWord_22 (show P_X12_isWord σ0 τ0 a1 z6 σ0 τ0 from ⟨hR, hF, hFL, by omega, by omega⟩)
    · refine r_iconst hx hb dX12_isWord_17 (by decide) (fun z7 ez7 => ?_)
      refine lv_goto (tgt := 22) hx hb dX12_isWord_18 (by decide) ?_
      exact r_zret hx hb hr hK hP hS hk (by omega) dX12_isWord_22 (show P_X12_isWord σ0 τ0 a1 z7 σ0 τ0 from ⟨hR, hF, hFL, by omega, by omega⟩)
abbrev L_X12_find : List Rc := []
abbrev LL_X12_find : List Rc := []
def P_X12_find (σ0 : Nat → Nat → Int32) (τ0 : Nat → Nat → Int64) (a1 : Int32) (a2 : Int32) (r : Int32) (σ : Nat → Nat → Int32) (τ : Nat → Nat → Int64) : Prop := Rg σ ∧ Fr L_X12_find σ0 σ ∧ FrL LL_X12_find τ0 τ ∧ (-1 ≤ r.toInt ∧ r.toInt ≤ 7) ∧ (r.toInt = -1 ∨ r.toInt < a2.toInt)
def J_X12_find_2 (p : Program) (l : Launch) (e : Env) (s : State) (m : MethodId) (args : Array Value) (below : List Frame) (meth : Method) (c : Code) (D : va_G) (cA : Nat → ClassId) (ad : Nat → Nat) (σ0 : Nat → Nat → Int32) (τ0 : Nat → Nat → Int64) (a1 : Int32) (a2 : Int32) (n : Nat) : Prop := ∀ (σ : Nat → Nat → Int32) (τ : Nat → Nat → Int64) (H : Heap) (locs : List Loc) (x3 : Int32) (ls : Array Slot), Rg σ → Fr L_X12_find σ0 σ → FrL LL_X12_find τ0 τ → va_P D vwCl (gw cA ad σ τ) H → va_S (AA ad) s.heap H locs → (0 ≤ x3.toInt ∧ x3.toInt ≤ 8) → lv_has ls 4 [(0, .ref (ad 387)), (1, .int a1), (2, .int a2), (3, .int x3)] → 2 * (8 - x3.toInt) + 1 < (n : Int) → W p l e ({ frames := 0, cells := 0, slots := 0, locals := 0 } : Room) s m args below meth c H locs 0 0 (MQ below (va_Qi (fun (r : Int32) (u : SS) => P_X12_find σ0 τ0 a1 a2 r u.1 u.2) (WB D cA ad) (AA ad)) args s 0 0 (AA ad)) (F0 m 2 ls [])
set_option maxHeartbeats 4000000 in
theorem B_X12_find_2 (p : Program) (l : Launch) (e : Env) (s : State) (m : MethodId) (args : Array Value) (below : List Frame) (meth : Method) (c : Code) (D : va_G) (cA : Nat → ClassId) (ad : Nat → Nat) (σ0 : Nat → Nat → Int32) (τ0 : Nat → Nat → Int64) (a1 : Int32) (a2 : Int32) (n : Nat) (C : Cy p s m args meth c cX12_find 4 wsX12_find RX12 D cA ad (some .int)) (ha1 : 0 ≤ a1.toInt ∧ a1.toInt ≤ 8) (ha2 : 0 ≤ a2.toInt ∧ a2.toInt ≤ 8) (K2 : J_X12_find_2 p l e s m args below meth c D cA ad σ0 τ0 a1 a2 n) : J_X12_find_2 p l e s m args below meth c D cA ad σ0 τ0 a1 a2 (n + 1) := by
  obtain ⟨hx, hb, hml, hown, hts, hK, hk, hr, hI, hN⟩ := C
  intro σ τ H locs x3 ls hR hF hFL hP hS hc0 hl hm
  obtain rfl := Fr.nil hF
  obtain rfl := FrL.nil hFL
  refine lv_iload_n hx hb dX12_find_2 rfl (lv_at hl 3 rfl) ?_
  refine lv_iload_n hx hb dX12_find_3 rfl (lv_at hl 2 rfl) ?_
  refine r_icmp_ge (tgt := 31) hx hb dX12_find_4 (by decide) (fun c1 => ?_) (fun c1 => ?_)
  · refine r_iconst hx hb dX12_find_31 (by decide) (fun z2 ez2 => ?_)
    exact r_iret hx hb hr hK hP hS hk dX12_find_32 (show P_X12_find σ0 τ0 a1 a2 z2 σ0 τ0 from ⟨hR, hF, hFL, by omega, by omega⟩)
  · refine lv_aload_n hx hb dX12_find_7 rfl (lv_at hl 0 rfl) ?_
    refine fg_12_9 (k := 387) hx hb hts in_X12_find_12 hown hK hP (by decide) (by decide) (hts _ lk_X12_find_43) dX12_find_8 ?_
    refine lv_iload_n hx hb dX12_find_11 rfl (lv_at hl 1 rfl) ?_
    refine lv_iload_n hx hb dX12_find_12 rfl (lv_at hl 3 rfl) ?_
    refine r_iadd hx hb dX12_find_13 (by omega) (fun z3 ez3 => ?_)
    obtain ⟨j4, ej4⟩ : ∃ j : Nat, z3.toInt = (j : Int) := ⟨_, ti_nat (by omega)⟩
    refine adL_mnames (k := 392) (j := j4) hx hb hK hP (by decide) (by decide) ej4 (by omega) dX12_find_14 ?_
    refine lv_aload_n hx hb dX12_find_15 rfl (lv_at hl 0 rfl) ?_
    refine fg_12_17 (k := 387) hx hb hts in_X12_find_12 hown hK hP (by decide) (by decide) (hts _ lk_X12_find_172) dX12_find_16 ?_
    refine r_lcmpE hx hb dX12_find_19 (fun z5 ez5 => ?_)
    refine r_if_ne (tgt := 25) hx hb dX12_find_20 (by decide) (fun c6 => ?_) (fun c6 => ?_)
    · refine r_iinc (k := 3) (lv1 := fun z7 => [(3, .int z7), (0, .ref (ad 387)), (1, .int a1), (2, .int a2)]) hx hb dX12_find_25 hl rfl (by decide) (fun _ => rfl) (by decide) (by omega) (fun z7 ls ez7 hl => ?_)
      refine lv_goto (tgt := 2) hx hb dX12_find_28 (by decide) ?_
      exact K2 σ0 τ0 H locs z7 ls hR hF hFL hP hS (by omega) (lv_sub hl [1, 2, 3, 0] rfl) (by omega)
    · refine lv_iload_n hx hb dX12_find_23 rfl (lv_at hl 3 rfl) ?_
      exact r_iret hx hb hr hK hP hS hk dX12_find_24 (show P_X12_find σ0 τ0 a1 a2 x3 σ0 τ0 from ⟨hR, hF, hFL, by omega, by omega⟩)
theorem A_X12_find (p : Program) (l : Launch) (e : Env) (s : State) (m : MethodId) (args : Array Value) (below : List Frame) (meth : Method) (c : Code) (D : va_G) (cA : Nat → ClassId) (ad : Nat → Nat) (σ0 : Nat → Nat → Int32) (τ0 : Nat → Nat → Int64) (a1 : Int32) (a2 : Int32) (C : Cy p s m args meth c cX12_find 4 wsX12_find RX12 D cA ad (some .int)) (ha1 : 0 ≤ a1.toInt ∧ a1.toInt ≤ 8) (ha2 : 0 ≤ a2.toInt ∧ a2.toInt ≤ 8) : ∀ n : Nat, J_X12_find_2 p l e s m args below meth c D cA ad σ0 τ0 a1 a2 n := by
  intro n
  induction n with
  | zero =>
    exact (by intro σ τ H locs x3 ls hR hF hFL hP hS hc0 hl hm; exfalso; omega)
  | succ n ih =>
    exact B_X12_find_2 p l e s m args below meth c D cA ad σ0 τ0 a1 a2 n C ha1 ha2 ih
set_option maxHeartbeats 4000000 in
theorem c_X12_find (l : Launch) (D : va_G) (cA : Nat → ClassId) (ad : Nat → Nat) (hI : Inj ad) (σ0 : Nat → Nat → Int32) (τ0 : Nat → Nat → Int64) (hR : Rg σ0) (a1 : Int32) (a2 : Int32) (ha1 : 0 ≤ a1.toInt ∧ a1.toInt ≤ 8) (ha2 : 0 ≤ a2.toInt ∧ a2.toInt ≤ 8) : Met l yX12_find wsX12_find ({ frames := 0, cells := 0, slots := 0, locals := 0 } : Room) (WQc D cA ad [.ref (ad 387), .int a1, .int a2] σ0 τ0) (va_Qi (fun (r : Int32) (u : SS) => P_X12_find σ0 τ0 a1 a2 r u.1 u.2) (WB D cA ad) (AA ad)) 0 0 (AA ad) := by
  refine Met.ofW (cc := cX12_find) (maxL := 4) (ret := (some .int)) (by decide) rfl ?_
  intro p e s m args below meth c s₁ B hml hv
  obtain ⟨rfl, hP, hK, hN⟩ := hv
  have C : Cy p s m _ meth c cX12_find 4 wsX12_find RX12 D cA ad (some .int) := ⟨B.exec, B.bytes, hml, findClass_of_methodNamed B.named, atoms_spec (ws := wsX12_find) B.pre, hK, B.notSynchronized, B.returns, hI, hN⟩
  have hl := lv_entry ([.ref (ad 387), .int a1, .int a2]) (n := 4) (Nat.le_of_ble_eq_true rfl)
  rw [lg_entry_eq]
  generalize (lg_sl ([.ref (ad 387), .int a1, .int a2]) ++ List.replicate (4 - (lg_sl ([.ref (ad 387), .int a1, .int a2])).length) Slot.unset).toArray = ls at hl ⊢
  have hl : lv_has ls 4 [(0, .ref (ad 387)), (1, .int a1), (2, .int a2)] := hl
  have hS : va_S (AA ad) s.heap s.heap [] := va_S.rf
  have hF : Fr L_X12_find σ0 σ0 := Fr.rf
  have hFL : FrL LL_X12_find τ0 τ0 := FrL.rf
  have hA := A_X12_find p l e s m _ below meth c D cA ad σ0 τ0 a1 a2 C ha1 ha2 42
  have K2 := hA
  clear hA
  obtain ⟨hx, hb, _, hown, hts, _, hk, hr, _, _⟩ := C
  refine r_iconst hx hb dX12_find_0 (by decide) (fun z1 ez1 => ?_)
  refine lv_istore_n (lv' := [(3, .int z1), (0, .ref (ad 387)), (1, .int a1), (2, .int a2)]) hx hb dX12_find_1 rfl hl (by decide) rfl (fun ls hl => ?_)
  exact K2 σ0 τ0 s.heap [] z1 ls hR hF hFL hP hS (by omega) (lv_sub hl [1, 2, 3, 0] rfl) (by omega)
abbrev L_X12_isName : List Rc := []
abbrev LL_X12_isName : List Rc := []
def P_X12_isName (σ0 : Nat → Nat → Int32) (τ0 : Nat → Nat → Int64)  (r : Int32) (σ : Nat → Nat → Int32) (τ : Nat → Nat → Int64) : Prop := Rg σ ∧ Fr L_X12_isName σ0 σ ∧ FrL LL_X12_isName τ0 τ ∧ (0 ≤ r.toInt ∧ r.toInt ≤ 1)
def J_X12_isName_16 (p : Program) (l : Launch) (e : Env) (s : State) (m : MethodId) (args : Array Value) (below : List Frame) (meth : Method) (c : Code) (D : va_G) (cA : Nat → ClassId) (ad : Nat → Nat) (σ0 : Nat → Nat → Int32) (τ0 : Nat → Nat → Int64)  (n : Nat) : Prop := ∀ (σ : Nat → Nat → Int32) (τ : Nat → Nat → Int64) (H : Heap) (locs : List Loc) (x1 : Int32) (x2 : Int32) (ls : Array Slot), Rg σ → Fr L_X12_isName σ0 σ → FrL LL_X12_isName τ0 τ → va_P D vwCl (gw cA ad σ τ) H → va_S (AA ad) s.heap H locs → (0 ≤ x1.toInt ∧ x1.toInt ≤ 1) → (0 ≤ x2.toInt ∧ x2.toInt ≤ 39) → lv_has ls 3 [(0, .ref (ad 387)), (1, .int x1), (2, .int x2)] → 2 * (39 - x2.toInt) + 1 < (n : Int) → W p l e ({ frames := 0, cells := 0, slots := 0, locals := 0 } : Room) s m args below meth c H locs 0 0 (MQ below (va_Qi (fun (r : Int32) (u : SS) => P_X12_isName σ0 τ0 r u.1 u.2) (WB D cA ad) (AA ad)) args s 0 0 (AA ad)) (F0 m 16 ls [])
set_option maxHeartbeats 4000000 in
theorem B_X12_isName_16 (p : Program) (l : Launch) (e : Env) (s : State) (m : MethodId) (args : Array Value) (below : List Frame) (meth : Method) (c : Code) (D : va_G) (cA : Nat → ClassId) (ad : Nat → Nat) (σ0 : Nat → Nat → Int32) (τ0 : Nat → Nat → Int64)  (n : Nat) (C : Cy p s m args meth c cX12_isName 3 wsX12_isName RX12 D cA ad (some .boolean))  (K16 : J_X12_isName_16 p l e s m args below meth c D cA ad σ0 τ0 n) : J_X12_isName_16 p l e s m args below meth c D cA ad σ0 τ0 (n + 1) := by
  obtain ⟨hx, hb, hml, hown, hts, hK, hk, hr, hI, hN⟩ := C
  intro σ τ H locs x1 x2 ls hR hF hFL hP hS hc0 hc1 hl hm
  obtain rfl := Fr.nil hF
  obtain rfl := FrL.nil hFL
  refine lv_iload_n hx hb dX12_isName_16 rfl (lv_at hl 2 rfl) ?_
  refine r_bipush hx hb dX12_isName_17 (by decide) (fun z1 ez1 => ?_)
  refine r_icmp_ge (tgt := 52) hx hb dX12_isName_19 (by decide) (fun c2 => ?_) (fun c2 => ?_)
  · refine lv_iload_n hx hb dX12_isName_52 rfl (lv_at hl 1 rfl) ?_
    exact r_zret hx hb hr hK hP hS hk (by omega) dX12_isName_53 (show P_X12_isName σ0 τ0 x1 σ0 τ0 from ⟨hR, hF, hFL, by omega⟩)
  · refine lv_iload_n hx hb dX12_isName_22 rfl (lv_at hl 1 rfl) ?_
    refine r_if_eq (tgt := 44) hx hb dX12_isName_23 (by decide) (fun c3 => ?_) (fun c3 => ?_)
    · refine r_iconst hx hb dX12_isName_44 (by decide) (fun z4 ez4 => ?_)
      refine lv_istore_n (lv' := [(1, .int z4), (0, .ref (ad 387)), (2, .int x2)]) hx hb dX12_isName_45 rfl hl (by decide) rfl (fun ls hl => ?_)
      refine r_iinc (k := 2) (lv1 := fun z5 => [(2, .int z5), (1, .int z4), (0, .ref (ad 387))]) hx hb dX12_isName_46 hl rfl (by decide) (fun _ => rfl) (by decide) (by omega) (fun z5 ls ez5 hl => ?_)
      refine lv_goto (tgt := 16) hx hb dX12_isName_49 (by decide) ?_
      exact K16 σ0 τ0 H locs z4 z5 ls hR hF hFL hP hS (by omega) (by omega) (lv_sub hl [2, 1, 0] rfl) (by omega)
    · refine lv_aload_n hx hb dX12_isName_26 rfl (lv_at hl 0 rfl) ?_
      refine fg_12_17 (k := 387) hx hb hts in_X12_isName_12 hown hK hP (by decide) (by decide) (hts _ lk_X12_isName_172) dX12_isName_27 ?_
      refine lv_aload_n hx hb dX12_isName_30 rfl (lv_at hl 0 rfl) ?_
      refine fg_12_10 (k := 387) hx hb hts in_X12_isName_12 hown hK hP (by decide) (by decide) (hts _ lk_X12_isName_47) dX12_isName_31 ?_
      refine lv_iload_n hx hb dX12_isName_34 rfl (lv_at hl 2 rfl) ?_
      obtain ⟨j6, ej6⟩ : ∃ j : Nat, x2.toInt = (j : Int) := ⟨_, ti_nat (by omega)⟩
      refine adL_mreserved (k := 393) (j := j6) hx hb hK hP (by decide) (by decide) ej6 (by omega) dX12_isName_35 ?_
      refine r_lcmpE hx hb dX12_isName_36 (fun z7 ez7 => ?_)
      refine r_if_eq (tgt := 44) hx hb dX12_isName_37 (by decide) (fun c8 => ?_) (fun c8 => ?_)
      · refine r_iconst hx hb dX12_isName_44 (by decide) (fun z9 ez9 => ?_)
        refine lv_istore_n (lv' := [(1, .int z9), (0, .ref (ad 387)), (2, .int x2)]) hx hb dX12_isName_45 rfl hl (by decide) rfl (fun ls hl => ?_)
        refine r_iinc (k := 2) (lv1 := fun z10 => [(2, .int z10), (1, .int z9), (0, .ref (ad 387))]) hx hb dX12_isName_46 hl rfl (by decide) (fun _ => rfl) (by decide) (by omega) (fun z10 ls ez10 hl => ?_)
        refine lv_goto (tgt := 16) hx hb dX12_isName_49 (by decide) ?_
        exact K16 σ0 τ0 H locs z9 z10 ls hR hF hFL hP hS (by omega) (by omega) (lv_sub hl [2, 1, 0] rfl) (by omega)
      · refine r_iconst hx hb dX12_isName_40 (by decide) (fun z11 ez11 => ?_)
        refine lv_goto (tgt := 45) hx hb dX12_isName_41 (by decide) ?_
        refine lv_istore_n (lv' := [(1, .int z11), (0, .ref (ad 387)), (2, .int x2)]) hx hb dX12_isName_45 rfl hl (by decide) rfl (fun ls hl => ?_)
        refine r_iinc (k := 2) (lv1 := fun z12 => [(2, .int z12), (1, .int z11), (0, .ref (ad 387))]) hx hb dX12_isName_46 hl rfl (by decide) (fun _ => rfl) (by decide) (by omega) (fun z12 ls ez12 hl => ?_)
        refine lv_goto (tgt := 16) hx hb dX12_isName_49 (by decide) ?_
        exact K16 σ0 τ0 H locs z11 z12 ls hR hF hFL hP hS (by omega) (by omega) (lv_sub hl [2, 1, 0] rfl) (by omega)
theorem A_X12_isName (p : Program) (l : Launch) (e : Env) (s : State) (m : MethodId) (args : Array Value) (below : List Frame) (meth : Method) (c : Code) (D : va_G) (cA : Nat → ClassId) (ad : Nat → Nat) (σ0 : Nat → Nat → Int32) (τ0 : Nat → Nat → Int64)  (C : Cy p s m args meth c cX12_isName 3 wsX12_isName RX12 D cA ad (some .boolean))  : ∀ n : Nat, J_X12_isName_16 p l e s m args below meth c D cA ad σ0 τ0 n := by
  intro n
  induction n with
  | zero =>
    exact (by intro σ τ H locs x1 x2 ls hR hF hFL hP hS hc0 hc1 hl hm; exfalso; omega)
  | succ n ih =>
    exact B_X12_isName_16 p l e s m args below meth c D cA ad σ0 τ0 n C  ih
set_option maxHeartbeats 4000000 in
theorem c_X12_isName (l : Launch) (D : va_G) (cA : Nat → ClassId) (ad : Nat → Nat) (hI : Inj ad) (σ0 : Nat → Nat → Int32) (τ0 : Nat → Nat → Int64) (hR : Rg σ0)   : Met l yX12_isName wsX12_isName ({ frames := 0, cells := 0, slots := 0, locals := 0 } : Room) (WQc D cA ad [.ref (ad 387)] σ0 τ0) (va_Qi (fun (r : Int32) (u : SS) => P_X12_isName σ0 τ0 r u.1 u.2) (WB D cA ad) (AA ad)) 0 0 (AA ad) := by
  refine Met.ofW (cc := cX12_isName) (maxL := 3) (ret := (some .boolean)) (by decide) rfl ?_
  intro p e s m args below meth c s₁ B hml hv
  obtain ⟨rfl, hP, hK, hN⟩ := hv
  have C : Cy p s m _ meth c cX12_isName 3 wsX12_isName RX12 D cA ad (some .boolean) := ⟨B.exec, B.bytes, hml, findClass_of_methodNamed B.named, atoms_spec (ws := wsX12_isName) B.pre, hK, B.notSynchronized, B.returns, hI, hN⟩
  have hl := lv_entry ([.ref (ad 387)]) (n := 3) (Nat.le_of_ble_eq_true rfl)
  rw [lg_entry_eq]
  generalize (lg_sl ([.ref (ad 387)]) ++ List.replicate (3 - (lg_sl ([.ref (ad 387)])).length) Slot.unset).toArray = ls at hl ⊢
  have hl : lv_has ls 3 [(0, .ref (ad 387))] := hl
  have hS : va_S (AA ad) s.heap s.heap [] := va_S.rf
  have hF : Fr L_X12_isName σ0 σ0 := Fr.rf
  have hFL : FrL LL_X12_isName τ0 τ0 := FrL.rf
  have hA := A_X12_isName p l e s m _ below meth c D cA ad σ0 τ0 C  166
  have K16 := hA
  clear hA
  obtain ⟨hx, hb, _, hown, hts, _, hk, hr, _, _⟩ := C
  refine lv_aload_n hx hb dX12_isName_0 rfl (lv_at hl 0 rfl) ?_
  refine fg_12_11 (k := 387) hx hb hts in_X12_isName_12 hown hK hP (by decide) (by decide) (hts _ lk_X12_isName_159) dX12_isName_1 ?_
  refine r_iconst hx hb dX12_isName_4 (by decide) (fun z1 ez1 => ?_)
  refine r_icmp_ne (tgt := 12) hx hb dX12_isName_5 (by decide) (fun c2 => ?_) (fun c2 => ?_)
  · refine r_iconst hx hb dX12_isName_12 (by decide) (fun z3 ez3 => ?_)
    refine lv_istore_n (lv' := [(1, .int z3), (0, .ref (ad 387))]) hx hb dX12_isName_13 rfl hl (by decide) rfl (fun ls hl => ?_)
    refine r_iconst hx hb dX12_isName_14 (by decide) (fun z4 ez4 => ?_)
    refine lv_istore_n (lv' := [(2, .int z4), (1, .int z3), (0, .ref (ad 387))]) hx hb dX12_isName_15 rfl hl (by decide) rfl (fun ls hl => ?_)
    exact K16 σ0 τ0 s.heap [] z3 z4 ls hR hF hFL hP hS (by omega) (by omega) (lv_sub hl [2, 1, 0] rfl) (by omega)
  · refine r_iconst hx hb dX12_isName_8 (by decide) (fun z5 ez5 => ?_)
    refine lv_goto (tgt := 13) hx hb dX12_isName_9 (by decide) ?_
    refine lv_istore_n (lv' := [(1, .int z5), (0, .ref (ad 387))]) hx hb dX12_isName_13 rfl hl (by decide) rfl (fun ls hl => ?_)
    refine r_iconst hx hb dX12_isName_14 (by decide) (fun z6 ez6 => ?_)
    refine lv_istore_n (lv' := [(2, .int z6), (1, .int z5), (0, .ref (ad 387))]) hx hb dX12_isName_15 rfl hl (by decide) rfl (fun ls hl => ?_)
    exact K16 σ0 τ0 s.heap [] z5 z6 ls hR hF hFL hP hS (by omega) (by omega) (lv_sub hl [2, 1, 0] rfl) (by omega)
abbrev L_X12_looksAt : List Rc := [(387, 387, 15, 16), (387, 387, 18, 18)]
abbrev LL_X12_looksAt : List Rc := []
def P_X12_looksAt (σ0 : Nat → Nat → Int32) (τ0 : Nat → Nat → Int64) (a1 : Int32) (a2 : Int32) (r : Int32) (σ : Nat → Nat → Int32) (τ : Nat → Nat → Int64) : Prop := Rg σ ∧ Fr L_X12_looksAt σ0 σ ∧ FrL LL_X12_looksAt τ0 τ ∧ (0 ≤ r.toInt ∧ r.toInt ≤ 1) ∧ (r.toInt = 0 ∨ (0 ≤ (σ 387 18).toInt ∧ (σ 387 18).toInt ≤ 7)) ∧ (r.toInt = 0 ∨ 1 ≤ a2.toInt)
set_option maxHeartbeats 4000000 in
theorem c_X12_looksAt (l : Launch) (D : va_G) (cA : Nat → ClassId) (ad : Nat → Nat) (hI : Inj ad) (σ0 : Nat → Nat → Int32) (τ0 : Nat → Nat → Int64) (hR : Rg σ0) (a1 : Int32) (a2 : Int32) (ha1 : 0 ≤ a1.toInt ∧ a1.toInt ≤ 8) (ha2 : 0 ≤ a2.toInt ∧ a2.toInt ≤ 8) : Met l yX12_looksAt wsX12_looksAt ({ frames := 1, cells := 0, slots := 0, locals := 23 } : Room) (WQc D cA ad [.ref (ad 387), .int a1, .int a2] σ0 τ0) (va_Qi (fun (r : Int32) (u : SS) => P_X12_looksAt σ0 τ0 a1 a2 r u.1 u.2) (WB D cA ad) (AA ad)) 0 0 (AA ad) := by
  refine Met.ofW (cc := cX12_looksAt) (maxL := 3) (ret := (some .boolean)) (by decide) rfl ?_
  intro p e s m args below meth c s₁ B hml hv
  obtain ⟨rfl, hP, hK, hN⟩ := hv
  have C : Cy p s m _ meth c cX12_looksAt 3 wsX12_looksAt RX12 D cA ad (some .boolean) := ⟨B.exec, B.bytes, hml, findClass_of_methodNamed B.named, atoms_spec (ws := wsX12_looksAt) B.pre, hK, B.notSynchronized, B.returns, hI, hN⟩
  have hl := lv_entry ([.ref (ad 387), .int a1, .int a2]) (n := 3) (Nat.le_of_ble_eq_true rfl)
  rw [lg_entry_eq]
  generalize (lg_sl ([.ref (ad 387), .int a1, .int a2]) ++ List.replicate (3 - (lg_sl ([.ref (ad 387), .int a1, .int a2])).length) Slot.unset).toArray = ls at hl ⊢
  have hl : lv_has ls 3 [(0, .ref (ad 387)), (1, .int a1), (2, .int a2)] := hl
  have hS : va_S (AA ad) s.heap s.heap [] := va_S.rf
  have hF : Fr L_X12_looksAt σ0 σ0 := Fr.rf
  have hFL : FrL LL_X12_looksAt τ0 τ0 := FrL.rf
  obtain ⟨hx, hb, _, hown, hts, _, hk, hr, _, _⟩ := C
  refine lv_aload_n hx hb dX12_looksAt_0 rfl (lv_at hl 0 rfl) ?_
  refine r_cVi (k := 387) (As := []) (rest := []) ⟨hx, hb, hml, hown, hts⟩ hK hP hN hS (c_X12_isName l D cA ad hI σ0 τ0 hR) (cwV 0 hts gX12_looksAt_X12_isName rfl rfl rfl (by decide +kernel) ⟨by decide, by decide⟩) (rv_M hK hP (by decide) (by decide)) rfl hl.1 rfl (Nat.le_of_ble_eq_true rfl) dX12_looksAt_1 (Nat.zero_le _) (Nat.zero_le _) (fun r1 u1 H1 locs1 hp1 hP hS => ?_)
  obtain ⟨σ1, τ1⟩ := u1
  obtain ⟨hR, f1, fL1, hq1⟩ : P_X12_isName σ0 τ0 r1 σ1 τ1 := hp1
  have hP : va_P D vwCl (gw cA ad σ1 τ1) H1 := hP
  obtain rfl := FrL.nil fL1
  obtain rfl := Fr.nil f1
  refine r_if_ne (tgt := 13) hx hb dX12_looksAt_4 (by decide) (fun c2 => ?_) (fun c2 => ?_)
  · refine lv_aload_n hx hb dX12_looksAt_13 rfl (lv_at hl 0 rfl) ?_
    refine lv_aload_n hx hb dX12_looksAt_14 rfl (lv_at hl 0 rfl) ?_
    refine lv_iload_n hx hb dX12_looksAt_15 rfl (lv_at hl 1 rfl) ?_
    refine lv_iload_n hx hb dX12_looksAt_16 rfl (lv_at hl 2 rfl) ?_
    refine r_cVi (k := 387) (As := [.int a1, .int a2]) (rest := [.ref (ad 387)]) ⟨hx, hb, hml, hown, hts⟩ hK hP hN hS (c_X12_find l D cA ad hI σ0 τ0 hR a1 a2 (by omega) (by omega)) (cwV 2 hts gX12_looksAt_X12_find rfl rfl rfl (by decide +kernel) ⟨by decide, by decide⟩) (rv_M hK hP (by decide) (by decide)) rfl hl.1 rfl (Nat.le_of_ble_eq_true rfl) dX12_looksAt_17 (Nat.zero_le _) (Nat.zero_le _) (fun r3 u3 H3 locs3 hp3 hP hS => ?_)
    obtain ⟨σ3, τ3⟩ := u3
    obtain ⟨hR, f3, fL3, hq3, hp3_0⟩ : P_X12_find σ0 τ0 a1 a2 r3 σ3 τ3 := hp3
    have hP : va_P D vwCl (gw cA ad σ3 τ3) H3 := hP
    obtain rfl := FrL.nil fL3
    obtain rfl := Fr.nil f3
    refine fp_12_18 (k := 387) hx hb hts in_X12_looksAt_12 hown hK hP (by decide) (by decide) (hts _ lk_X12_looksAt_195) hI hR hS dX12_looksAt_20 (fun σ4 H4 locs4 u4 v4 hR hP hS => ?_)
    have hF := hF.puts u4 1 rfl (by decide) (by decide) (by decide) (by decide)
    refine lv_aload_n hx hb dX12_looksAt_23 rfl (lv_at hl 0 rfl) ?_
    refine fg_12_18 (k := 387) hx hb hts in_X12_looksAt_12 hown hK hP (by decide) (by decide) (hts _ lk_X12_looksAt_195) dX12_looksAt_24 ?_
    refine r_if_ge (tgt := 38) hx hb dX12_looksAt_27 (by decide) (fun c5 => ?_) (fun c5 => ?_)
    · refine r_iconst hx hb dX12_looksAt_38 (by decide) (fun z6 ez6 => ?_)
      refine lv_goto (tgt := 43) hx hb dX12_looksAt_39 (by decide) ?_
      exact r_zret hx hb hr hK hP hS hk (by omega) dX12_looksAt_43 (show P_X12_looksAt σ0 τ0 a1 a2 z6 σ4 τ0 from ⟨hR, hF, hFL, by omega, by omega, by omega⟩)
    · refine lv_aload_n hx hb dX12_looksAt_30 rfl (lv_at hl 0 rfl) ?_
      refine r_iconst hx hb dX12_looksAt_31 (by decide) (fun z7 ez7 => ?_)
      refine r_cVi (k := 387) (As := [.int z7]) (rest := []) ⟨hx, hb, hml, hown, hts⟩ hK hP hN hS (c_X12_bad l D cA ad hI σ4 τ0 hR z7 (by omega)) (cwV 1 hts gX12_looksAt_X12_bad rfl rfl rfl (by decide +kernel) ⟨by decide, by decide⟩) (rv_M hK hP (by decide) (by decide)) rfl hl.1 rfl (Nat.le_of_ble_eq_true rfl) dX12_looksAt_32 (Nat.zero_le _) (Nat.zero_le _) (fun r8 u8 H8 locs8 hp8 hP hS => ?_)
      obtain ⟨σ8, τ8⟩ := u8
      obtain ⟨hR, f8, fL8, hq8⟩ : P_X12_bad σ4 τ0 z7 r8 σ8 τ8 := hp8
      have hP : va_P D vwCl (gw cA ad σ8 τ8) H8 := hP
      obtain rfl := FrL.nil fL8
      have hF := hF.step f8 (by decide)
      have t9 : (σ8 387 18).toInt = (σ4 387 18).toInt := congrArg Int32.toInt (f8.at 387 18 (by decide))
      refine r_if_eq (tgt := 42) hx hb dX12_looksAt_35 (by decide) (fun c10 => ?_) (fun c10 => ?_)
      · refine r_iconst hx hb dX12_looksAt_42 (by decide) (fun z11 ez11 => ?_)
        exact r_zret hx hb hr hK hP hS hk (by omega) dX12_looksAt_43 (show P_X12_looksAt σ0 τ0 a1 a2 z11 σ8 τ0 from ⟨hR, hF, hFL, by omega, by omega, by omega⟩)
      · exfalso; omega
  · refine lv_aload_n hx hb dX12_looksAt_7 rfl (lv_at hl 0 rfl) ?_
    refine r_iconst hx hb dX12_looksAt_8 (by decide) (fun z12 ez12 => ?_)
    refine r_cVi (k := 387) (As := [.int z12]) (rest := []) ⟨hx, hb, hml, hown, hts⟩ hK hP hN hS (c_X12_bad l D cA ad hI σ0 τ0 hR z12 (by omega)) (cwV 1 hts gX12_looksAt_X12_bad rfl rfl rfl (by decide +kernel) ⟨by decide, by decide⟩) (rv_M hK hP (by decide) (by decide)) rfl hl.1 rfl (Nat.le_of_ble_eq_true rfl) dX12_looksAt_9 (Nat.zero_le _) (Nat.zero_le _) (fun r13 u13 H13 locs13 hp13 hP hS => ?_)
    obtain ⟨σ13, τ13⟩ := u13
    obtain ⟨hR, f13, fL13, hq13⟩ : P_X12_bad σ0 τ0 z12 r13 σ13 τ13 := hp13
    have hP : va_P D vwCl (gw cA ad σ13 τ13) H13 := hP
    obtain rfl := FrL.nil fL13
    have hF := hF.step f13 (by decide)
    have t14 : (σ13 387 18).toInt = (σ0 387 18).toInt := congrArg Int32.toInt (f13.at 387 18 (by decide))
    exact r_zret hx hb hr hK hP hS hk (by omega) dX12_looksAt_12 (show P_X12_looksAt σ0 τ0 a1 a2 r13 σ13 τ0 from ⟨hR, hF, hFL, by omega, by omega, by omega⟩)
abbrev L_X12_takes : List Rc := [(387, 387, 18, 18), (387, 387, 4, 4), (387, 387, 11, 16)]
abbrev LL_X12_takes : List Rc := [(387, 387, 17, 17)]
def P_X12_takes (σ0 : Nat → Nat → Int32) (τ0 : Nat → Nat → Int64) (a1 : Int32) (a2 : Int32) (r : Int32) (σ : Nat → Nat → Int32) (τ : Nat → Nat → Int64) : Prop := Rg σ ∧ Fr L_X12_takes σ0 σ ∧ FrL LL_X12_takes τ0 τ ∧ (0 ≤ r.toInt ∧ r.toInt ≤ 1) ∧ ((σ0 387 4).toInt ≤ (σ 387 4).toInt) ∧ (r.toInt = 0 ∨ (σ 387 11).toInt ≠ 3 ∨ (σ0 387 4).toInt < (σ 387 4).toInt) ∧ (r.toInt = 0 ∨ (a1.toInt ≤ (σ 387 18).toInt ∧ (σ 387 18).toInt ≤ a2.toInt))
set_option maxHeartbeats 4000000 in
theorem c_X12_takes (l : Launch) (D : va_G) (cA : Nat → ClassId) (ad : Nat → Nat) (hI : Inj ad) (σ0 : Nat → Nat → Int32) (τ0 : Nat → Nat → Int64) (hR : Rg σ0) (a1 : Int32) (a2 : Int32) (ha1 : 0 ≤ a1.toInt ∧ a1.toInt ≤ 1) (ha2 : 3 ≤ a2.toInt ∧ a2.toInt ≤ 99) : Met l yX12_takes wsX12_takes ({ frames := 2, cells := 0, slots := 0, locals := 43 } : Room) (WQc D cA ad [.ref (ad 387), .int a1, .int a2] σ0 τ0) (va_Qi (fun (r : Int32) (u : SS) => P_X12_takes σ0 τ0 a1 a2 r u.1 u.2) (WB D cA ad) (AA ad)) 0 0 (AA ad) := by
  refine Met.ofW (cc := cX12_takes) (maxL := 3) (ret := (some .boolean)) (by decide) rfl ?_
  intro p e s m args below meth c s₁ B hml hv
  obtain ⟨rfl, hP, hK, hN⟩ := hv
  have C : Cy p s m _ meth c cX12_takes 3 wsX12_takes RX12 D cA ad (some .boolean) := ⟨B.exec, B.bytes, hml, findClass_of_methodNamed B.named, atoms_spec (ws := wsX12_takes) B.pre, hK, B.notSynchronized, B.returns, hI, hN⟩
  have hl := lv_entry ([.ref (ad 387), .int a1, .int a2]) (n := 3) (Nat.le_of_ble_eq_true rfl)
  rw [lg_entry_eq]
  generalize (lg_sl ([.ref (ad 387), .int a1, .int a2]) ++ List.replicate (3 - (lg_sl ([.ref (ad 387), .int a1, .int a2])).length) Slot.unset).toArray = ls at hl ⊢
  have hl : lv_has ls 3 [(0, .ref (ad 387)), (1, .int a1), (2, .int a2)] := hl
  have hS : va_S (AA ad) s.heap s.heap [] := va_S.rf
  have hF : Fr L_X12_takes σ0 σ0 := Fr.rf
  have hFL : FrL LL_X12_takes τ0 τ0 := FrL.rf
  obtain ⟨hx, hb, _, hown, hts, _, hk, hr, _, _⟩ := C
  have hrt4 := rg_12_4 hR (k := 387) (by decide) (by decide)
  have hrt3 := rg_12_3 hR (k := 387) (by decide) (by decide)
  refine lv_aload_n hx hb dX12_takes_0 rfl (lv_at hl 0 rfl) ?_
  refine fg_12_11 (k := 387) hx hb hts in_X12_takes_12 hown hK hP (by decide) (by decide) (hts _ lk_X12_takes_159) dX12_takes_1 ?_
  refine r_iconst hx hb dX12_takes_4 (by decide) (fun z1 ez1 => ?_)
  refine r_icmp_eq (tgt := 14) hx hb dX12_takes_5 (by decide) (fun c2 => ?_) (fun c2 => ?_)
  · refine lv_aload_n hx hb dX12_takes_14 rfl (lv_at hl 0 rfl) ?_
    refine fg_12_14 (k := 387) hx hb hts in_X12_takes_12 hown hK hP (by decide) (by decide) (hts _ lk_X12_takes_169) dX12_takes_15 ?_
    refine lv_iload_n hx hb dX12_takes_18 rfl (lv_at hl 1 rfl) ?_
    refine lv_iload_n hx hb dX12_takes_19 rfl (lv_at hl 2 rfl) ?_
    refine r_cSi (As := [.int (σ0 387 14), .int a1, .int a2]) (rest := []) ⟨hx, hb, hml, hown, hts⟩ hK hP hN hS (c_X12_isIn l D cA ad hI σ0 τ0 hR (σ0 387 14) a1 a2) (va_cwS 3 hts gX12_takes_X12_isIn rfl rfl rfl (by decide +kernel) ⟨by decide, by decide⟩) rfl hl.1 rfl (Nat.le_of_ble_eq_true rfl) dX12_takes_20 (Nat.zero_le _) (Nat.zero_le _) (fun r3 u3 H3 locs3 hp3 hP hS => ?_)
    obtain ⟨σ3, τ3⟩ := u3
    obtain ⟨hR, f3, fL3, hq3, hp3_0, hp3_1⟩ : P_X12_isIn σ0 τ0 (σ0 387 14) a1 a2 r3 σ3 τ3 := hp3
    have hP : va_P D vwCl (gw cA ad σ3 τ3) H3 := hP
    obtain rfl := FrL.nil fL3
    obtain rfl := Fr.nil f3
    refine r_if_ne (tgt := 32) hx hb dX12_takes_23 (by decide) (fun c4 => ?_) (fun c4 => ?_)
    · replace hp3_0 := hp3_0.resolve_left (by omega)
      refine lv_aload_n hx hb dX12_takes_32 rfl (lv_at hl 0 rfl) ?_
      refine lv_aload_n hx hb dX12_takes_33 rfl (lv_at hl 0 rfl) ?_
      refine fg_12_14 (k := 387) hx hb hts in_X12_takes_12 hown hK hP (by decide) (by decide) (hts _ lk_X12_takes_169) dX12_takes_34 ?_
      refine fp_12_18 (k := 387) hx hb hts in_X12_takes_12 hown hK hP (by decide) (by decide) (hts _ lk_X12_takes_195) hI hR hS dX12_takes_37 (fun σ5 H5 locs5 u5 v5 hR hP hS => ?_)
      have hF := hF.puts u5 0 rfl (by decide) (by decide) (by decide) (by decide)
      have t6 : (σ5 387 4).toInt = (σ0 387 4).toInt := congrArg Int32.toInt (u5 387 4 (by omega))
      have t7 : (σ5 387 3).toInt = (σ0 387 3).toInt := congrArg Int32.toInt (u5 387 3 (by omega))
      have t8 : (σ5 387 11).toInt = (σ0 387 11).toInt := congrArg Int32.toInt (u5 387 11 (by omega))
      have t9 : (σ5 387 14).toInt = (σ0 387 14).toInt := congrArg Int32.toInt (u5 387 14 (by omega))
      refine lv_aload_n hx hb dX12_takes_40 rfl (lv_at hl 0 rfl) ?_
      refine r_cVv (k := 387) (As := []) (rest := []) ⟨hx, hb, hml, hown, hts⟩ hK hP hN hS (c_X12_next l D cA ad hI σ5 τ0 hR) (cwV 0 hts gX12_takes_X12_next rfl rfl rfl (by decide +kernel) ⟨by decide, by decide⟩) (rv_M hK hP (by decide) (by decide)) rfl hl.1 rfl (Nat.le_of_ble_eq_true rfl) dX12_takes_41 (Nat.zero_le _) (Nat.zero_le _) (fun u10 H10 locs10 hp10 hP hS => ?_)
      obtain ⟨σ10, τ10⟩ := u10
      obtain ⟨hR, f10, fL10, hp10_0, hp10_1, hp10_2⟩ : P_X12_next σ5 τ0 σ10 τ10 := hp10
      have hP : va_P D vwCl (gw cA ad σ10 τ10) H10 := hP
      have hFL := hFL.step fL10 (by decide)
      have hF := hF.step f10 (by decide)
      have t11 : (σ10 387 3).toInt = (σ5 387 3).toInt := congrArg Int32.toInt (f10.at 387 3 (by decide))
      have t12 : (σ10 387 18).toInt = (σ5 387 18).toInt := congrArg Int32.toInt (f10.at 387 18 (by decide))
      have hr13 := rg_12_4 hR (k := 387) (by decide) (by decide)
      refine r_iconst hx hb dX12_takes_44 (by decide) (fun z14 ez14 => ?_)
      exact r_zret hx hb hr hK hP hS hk (by omega) dX12_takes_45 (show P_X12_takes σ0 τ0 a1 a2 z14 σ10 τ10 from ⟨hR, hF, hFL, by omega, by omega, by omega, by omega⟩)
    · clear hp3_0
      refine lv_aload_n hx hb dX12_takes_26 rfl (lv_at hl 0 rfl) ?_
      refine r_iconst hx hb dX12_takes_27 (by decide) (fun z15 ez15 => ?_)
      refine r_cVi (k := 387) (As := [.int z15]) (rest := []) ⟨hx, hb, hml, hown, hts⟩ hK hP hN hS (c_X12_bad l D cA ad hI σ0 τ0 hR z15 (by omega)) (cwV 1 hts gX12_takes_X12_bad rfl rfl rfl (by decide +kernel) ⟨by decide, by decide⟩) (rv_M hK hP (by decide) (by decide)) rfl hl.1 rfl (Nat.le_of_ble_eq_true rfl) dX12_takes_28 (Nat.zero_le _) (Nat.zero_le _) (fun r16 u16 H16 locs16 hp16 hP hS => ?_)
      obtain ⟨σ16, τ16⟩ := u16
      obtain ⟨hR, f16, fL16, hq16⟩ : P_X12_bad σ0 τ0 z15 r16 σ16 τ16 := hp16
      have hP : va_P D vwCl (gw cA ad σ16 τ16) H16 := hP
      obtain rfl := FrL.nil fL16
      have hF := hF.step f16 (by decide)
      have t17 : (σ16 387 4).toInt = (σ0 387 4).toInt := congrArg Int32.toInt (f16.at 387 4 (by decide))
      have t18 : (σ16 387 3).toInt = (σ0 387 3).toInt := congrArg Int32.toInt (f16.at 387 3 (by decide))
      have t19 : (σ16 387 11).toInt = (σ0 387 11).toInt := congrArg Int32.toInt (f16.at 387 11 (by decide))
      have t20 : (σ16 387 18).toInt = (σ0 387 18).toInt := congrArg Int32.toInt (f16.at 387 18 (by decide))
      have t21 : (σ16 387 14).toInt = (σ0 387 14).toInt := congrArg Int32.toInt (f16.at 387 14 (by decide))
      exact r_zret hx hb hr hK hP hS hk (by omega) dX12_takes_31 (show P_X12_takes σ0 τ0 a1 a2 r16 σ16 τ0 from ⟨hR, hF, hFL, by omega, by omega, by omega, by omega⟩)
  · refine lv_aload_n hx hb dX12_takes_8 rfl (lv_at hl 0 rfl) ?_
    refine r_iconst hx hb dX12_takes_9 (by decide) (fun z22 ez22 => ?_)
    refine r_cVi (k := 387) (As := [.int z22]) (rest := []) ⟨hx, hb, hml, hown, hts⟩ hK hP hN hS (c_X12_bad l D cA ad hI σ0 τ0 hR z22 (by omega)) (cwV 1 hts gX12_takes_X12_bad rfl rfl rfl (by decide +kernel) ⟨by decide, by decide⟩) (rv_M hK hP (by decide) (by decide)) rfl hl.1 rfl (Nat.le_of_ble_eq_true rfl) dX12_takes_10 (Nat.zero_le _) (Nat.zero_le _) (fun r23 u23 H23 locs23 hp23 hP hS => ?_)
    obtain ⟨σ23, τ23⟩ := u23
    obtain ⟨hR, f23, fL23, hq23⟩ : P_X12_bad σ0 τ0 z22 r23 σ23 τ23 := hp23
    have hP : va_P D vwCl (gw cA ad σ23 τ23) H23 := hP
    obtain rfl := FrL.nil fL23
    have hF := hF.step f23 (by decide)
    have t24 : (σ23 387 4).toInt = (σ0 387 4).toInt := congrArg Int32.toInt (f23.at 387 4 (by decide))
    have t25 : (σ23 387 3).toInt = (σ0 387 3).toInt := congrArg Int32.toInt (f23.at 387 3 (by decide))
    have t26 : (σ23 387 11).toInt = (σ0 387 11).toInt := congrArg Int32.toInt (f23.at 387 11 (by decide))
    have t27 : (σ23 387 18).toInt = (σ0 387 18).toInt := congrArg Int32.toInt (f23.at 387 18 (by decide))
    exact r_zret hx hb hr hK hP hS hk (by omega) dX12_takes_13 (show P_X12_takes σ0 τ0 a1 a2 r23 σ23 τ0 from ⟨hR, hF, hFL, by omega, by omega, by omega, by omega⟩)
abbrev L_X12_takesName : List Rc := [(387, 387, 18, 18), (387, 387, 4, 4), (387, 387, 11, 16)]
abbrev LL_X12_takesName : List Rc := [(387, 387, 17, 17)]
def P_X12_takesName (σ0 : Nat → Nat → Int32) (τ0 : Nat → Nat → Int64) (a1 : Int32) (a2 : Int32) (r : Int32) (σ : Nat → Nat → Int32) (τ : Nat → Nat → Int64) : Prop := Rg σ ∧ Fr L_X12_takesName σ0 σ ∧ FrL LL_X12_takesName τ0 τ ∧ (0 ≤ r.toInt ∧ r.toInt ≤ 1) ∧ ((σ0 387 4).toInt ≤ (σ 387 4).toInt) ∧ (r.toInt = 0 ∨ (σ 387 11).toInt ≠ 3 ∨ (σ0 387 4).toInt < (σ 387 4).toInt) ∧ (r.toInt = 0 ∨ (0 ≤ (σ 387 18).toInt ∧ (σ 387 18).toInt ≤ 7)) ∧ (r.toInt = 0 ∨ 1 ≤ a2.toInt)
set_option maxHeartbeats 4000000 in
theorem c_X12_takesName (l : Launch) (D : va_G) (cA : Nat → ClassId) (ad : Nat → Nat) (hI : Inj ad) (σ0 : Nat → Nat → Int32) (τ0 : Nat → Nat → Int64) (hR : Rg σ0) (a1 : Int32) (a2 : Int32) (ha1 : 0 ≤ a1.toInt ∧ a1.toInt ≤ 8) (ha2 : 0 ≤ a2.toInt ∧ a2.toInt ≤ 8) : Met l yX12_takesName wsX12_takesName ({ frames := 2, cells := 0, slots := 0, locals := 45 } : Room) (WQc D cA ad [.ref (ad 387), .int a1, .int a2] σ0 τ0) (va_Qi (fun (r : Int32) (u : SS) => P_X12_takesName σ0 τ0 a1 a2 r u.1 u.2) (WB D cA ad) (AA ad)) 0 0 (AA ad) := by
  refine Met.ofW (cc := cX12_takesName) (maxL := 3) (ret := (some .boolean)) (by decide) rfl ?_
  intro p e s m args below meth c s₁ B hml hv
  obtain ⟨rfl, hP, hK, hN⟩ := hv
  have C : Cy p s m _ meth c cX12_takesName 3 wsX12_takesName RX12 D cA ad (some .boolean) := ⟨B.exec, B.bytes, hml, findClass_of_methodNamed B.named, atoms_spec (ws := wsX12_takesName) B.pre, hK, B.notSynchronized, B.returns, hI, hN⟩
  have hl := lv_entry ([.ref (ad 387), .int a1, .int a2]) (n := 3) (Nat.le_of_ble_eq_true rfl)
  rw [lg_entry_eq]
  generalize (lg_sl ([.ref (ad 387), .int a1, .int a2]) ++ List.replicate (3 - (lg_sl ([.ref (ad 387), .int a1, .int a2])).length) Slot.unset).toArray = ls at hl ⊢
  have hl : lv_has ls 3 [(0, .ref (ad 387)), (1, .int a1), (2, .int a2)] := hl
  have hS : va_S (AA ad) s.heap s.heap [] := va_S.rf
  have hF : Fr L_X12_takesName σ0 σ0 := Fr.rf
  have hFL : FrL LL_X12_takesName τ0 τ0 := FrL.rf
  obtain ⟨hx, hb, _, hown, hts, _, hk, hr, _, _⟩ := C
  have hrt4 := rg_12_4 hR (k := 387) (by decide) (by decide)
  have hrt3 := rg_12_3 hR (k := 387) (by decide) (by decide)
  refine lv_aload_n hx hb dX12_takesName_0 rfl (lv_at hl 0 rfl) ?_
  refine lv_iload_n hx hb dX12_takesName_1 rfl (lv_at hl 1 rfl) ?_
  refine lv_iload_n hx hb dX12_takesName_2 rfl (lv_at hl 2 rfl) ?_
  refine r_cVi (k := 387) (As := [.int a1, .int a2]) (rest := []) ⟨hx, hb, hml, hown, hts⟩ hK hP hN hS (c_X12_looksAt l D cA ad hI σ0 τ0 hR a1 a2 (by omega) (by omega)) (cwV 2 hts gX12_takesName_X12_looksAt rfl rfl rfl (by decide +kernel) ⟨by decide, by decide⟩) (rv_M hK hP (by decide) (by decide)) rfl hl.1 rfl (Nat.le_of_ble_eq_true rfl) dX12_takesName_3 (Nat.zero_le _) (Nat.zero_le _) (fun r1 u1 H1 locs1 hp1 hP hS => ?_)
  obtain ⟨σ1, τ1⟩ := u1
  obtain ⟨hR, f1, fL1, hq1, hp1_0, hp1_1⟩ : P_X12_looksAt σ0 τ0 a1 a2 r1 σ1 τ1 := hp1
  have hP : va_P D vwCl (gw cA ad σ1 τ1) H1 := hP
  obtain rfl := FrL.nil fL1
  have hF := hF.step f1 (by decide)
  have t2 : (σ1 387 4).toInt = (σ0 387 4).toInt := congrArg Int32.toInt (f1.at 387 4 (by decide))
  have t3 : (σ1 387 3).toInt = (σ0 387 3).toInt := congrArg Int32.toInt (f1.at 387 3 (by decide))
  have t4 : (σ1 387 11).toInt = (σ0 387 11).toInt := congrArg Int32.toInt (f1.at 387 11 (by decide))
  refine r_if_ne (tgt := 11) hx hb dX12_takesName_6 (by decide) (fun c5 => ?_) (fun c5 => ?_)
  · replace hp1_0 := hp1_0.resolve_left (by omega)
    replace hp1_1 := hp1_1.resolve_left (by omega)
    refine lv_aload_n hx hb dX12_takesName_11 rfl (lv_at hl 0 rfl) ?_
    refine r_cVv (k := 387) (As := []) (rest := []) ⟨hx, hb, hml, hown, hts⟩ hK hP hN hS (c_X12_next l D cA ad hI σ1 τ0 hR) (cwV 0 hts gX12_takesName_X12_next rfl rfl rfl (by decide +kernel) ⟨by decide, by decide⟩) (rv_M hK hP (by decide) (by decide)) rfl hl.1 rfl (Nat.le_of_ble_eq_true rfl) dX12_takesName_12 (Nat.zero_le _) (Nat.zero_le _) (fun u6 H6 locs6 hp6 hP hS => ?_)
    obtain ⟨σ6, τ6⟩ := u6
    obtain ⟨hR, f6, fL6, hp6_0, hp6_1, hp6_2⟩ : P_X12_next σ1 τ0 σ6 τ6 := hp6
    have hP : va_P D vwCl (gw cA ad σ6 τ6) H6 := hP
    have hFL := hFL.step fL6 (by decide)
    have hF := hF.step f6 (by decide)
    have t7 : (σ6 387 3).toInt = (σ1 387 3).toInt := congrArg Int32.toInt (f6.at 387 3 (by decide))
    have t8 : (σ6 387 18).toInt = (σ1 387 18).toInt := congrArg Int32.toInt (f6.at 387 18 (by decide))
    have hr9 := rg_12_4 hR (k := 387) (by decide) (by decide)
    refine r_iconst hx hb dX12_takesName_15 (by decide) (fun z10 ez10 => ?_)
    exact r_zret hx hb hr hK hP hS hk (by omega) dX12_takesName_16 (show P_X12_takesName σ0 τ0 a1 a2 z10 σ6 τ6 from ⟨hR, hF, hFL, by omega, by omega, by omega, by omega, by omega⟩)
  · clear hp1_0 hp1_1
    refine r_iconst hx hb dX12_takesName_9 (by decide) (fun z11 ez11 => ?_)
    exact r_zret hx hb hr hK hP hS hk (by omega) dX12_takesName_10 (show P_X12_takesName σ0 τ0 a1 a2 z11 σ1 τ0 from ⟨hR, hF, hFL, by omega, by omega, by omega, by omega, by omega⟩)
theorem in_X12_rollLine_12 : ∀ w ∈ u_ws RX12 TX12 47, w ∈ wsX12_rollLine := by decide +kernel
theorem lk_X12_rollLine_115 : Cond.constantLong RX12 115 (427071202675) ∈ wsX12_rollLine := by decide +kernel
theorem lk_X12_rollLine_117 : Cond.constantLong RX12 117 (1752135026) ∈ wsX12_rollLine := by decide +kernel
theorem lk_X12_rollLine_119 : Cond.constantLong RX12 119 (470021465459) ∈ wsX12_rollLine := by decide +kernel
theorem lk_X12_rollLine_121 : Cond.constantLong RX12 121 (126956639187571) ∈ wsX12_rollLine := by decide +kernel
theorem lk_X12_rollLine_123 : Cond.constantLong RX12 123 (426836257907) ∈ wsX12_rollLine := by decide +kernel
theorem lk_X12_rollLine_125 : Cond.constantLong RX12 125 (126892148680051) ∈ wsX12_rollLine := by decide +kernel
theorem lk_X12_rollLine_195 : Cond.fieldLink RX12 195 "CuckooSharesModel" "got" "I" ∈ wsX12_rollLine := by decide +kernel
theorem lk_X12_rollLine_33 : Cond.fieldLink RX12 33 "CuckooSharesModel" "s" "[I" ∈ wsX12_rollLine := by decide +kernel
theorem lk_X12_rollLine_40 : Cond.fieldLink RX12 40 "CuckooSharesModel" "read" "[I" ∈ wsX12_rollLine := by decide +kernel
theorem lk_X12_rollLine_416 : Cond.fieldLink RX12 416 "CuckooSharesModel" "told" "I" ∈ wsX12_rollLine := by decide +kernel
abbrev L_X12_rollLine : List Rc := [(387, 387, 4, 4), (387, 387, 18, 18), (387, 387, 11, 16), (391, 391, 0, 122)]
abbrev LL_X12_rollLine : List Rc := [(387, 387, 17, 17)]
def P_X12_rollLine (σ0 : Nat → Nat → Int32) (τ0 : Nat → Nat → Int64)  (r : Int32) (σ : Nat → Nat → Int32) (τ : Nat → Nat → Int64) : Prop := Rg σ ∧ Fr L_X12_rollLine σ0 σ ∧ FrL LL_X12_rollLine τ0 τ ∧ (0 ≤ r.toInt ∧ r.toInt ≤ 1) ∧ ((σ0 387 4).toInt ≤ (σ 387 4).toInt) ∧ (r.toInt = 0 ∨ (σ 387 11).toInt ≠ 3 ∨ (σ0 387 4).toInt < (σ 387 4).toInt) ∧ (r.toInt = 0 ∨ ((σ0 387 34).toInt ≤ 39 ∧ RLs σ0 σ))
set_option maxHeartbeats 4000000 in
theorem c_X12_rollLine (l : Launch) (D : va_G) (cA : Nat → ClassId) (ad : Nat → Nat) (hI : Inj ad) (σ0 : Nat → Nat → Int32) (τ0 : Nat → Nat → Int64) (hR : Rg σ0)   : Met l yX12_rollLine wsX12_rollLine ({ frames := 3, cells := 0, slots := 0, locals := 67 } : Room) (WQc D cA ad [.ref (ad 387)] σ0 τ0) (va_Qi (fun (r : Int32) (u : SS) => P_X12_rollLine σ0 τ0 r u.1 u.2) (WB D cA ad) (AA ad)) 0 0 (AA ad) := by
  refine Met.ofW (cc := cX12_rollLine) (maxL := 4) (ret := (some .boolean)) (by decide) rfl ?_
  intro p e s m args below meth c s₁ B hml hv
  obtain ⟨rfl, hP, hK, hN⟩ := hv
  have C : Cy p s m _ meth c cX12_rollLine 4 wsX12_rollLine RX12 D cA ad (some .boolean) := ⟨B.exec, B.bytes, hml, findClass_of_methodNamed B.named, atoms_spec (ws := wsX12_rollLine) B.pre, hK, B.notSynchronized, B.returns, hI, hN⟩
  have hl := lv_entry ([.ref (ad 387)]) (n := 4) (Nat.le_of_ble_eq_true rfl)
  rw [lg_entry_eq]
  generalize (lg_sl ([.ref (ad 387)]) ++ List.replicate (4 - (lg_sl ([.ref (ad 387)])).length) Slot.unset).toArray = ls at hl ⊢
  have hl : lv_has ls 4 [(0, .ref (ad 387))] := hl
  have hS : va_S (AA ad) s.heap s.heap [] := va_S.rf
  have hF : Fr L_X12_rollLine σ0 σ0 := Fr.rf
  have hFL : FrL LL_X12_rollLine τ0 τ0 := FrL.rf
  obtain ⟨hx, hb, _, hown, hts, _, hk, hr, _, _⟩ := C
  have hrt4 := rg_12_4 hR (k := 387) (by decide) (by decide)
  have hrt3 := rg_12_3 hR (k := 387) (by decide) (by decide)
  have hrt34 := rg_12_34 hR (k := 387) (by decide) (by decide)
  have gRXp : RXp σ0 σ0 := fun _ _ => rfl
  have hr34 := rg_12_34 hR (k := 387) (by decide) (by decide)
  refine r_iconst hx hb dX12_rollLine_0 (by decide) (fun z1 ez1 => ?_)
  refine lv_aload_n hx hb dX12_rollLine_1 rfl (lv_at hl 0 rfl) ?_
  refine fg_12_34 (k := 387) hx hb hts in_X12_rollLine_12 hown hK hP (by decide) (by decide) (hts _ lk_X12_rollLine_416) dX12_rollLine_2 ?_
  refine r_imulL (n := 3) hx hb dX12_rollLine_5 (by omega) (by omega) (fun z2 ez2 => ?_)
  refine lv_istore_n (lv' := [(1, .int z2), (0, .ref (ad 387))]) hx hb dX12_rollLine_6 rfl hl (by decide) rfl (fun ls hl => ?_)
  refine lv_aload_n hx hb dX12_rollLine_7 rfl (lv_at hl 1 rfl) ?_
  refine lv_ldc2 (v := 427071202675) hx hb hown (hts _ lk_X12_rollLine_115) dX12_rollLine_8 ?_
  refine r_cVi (k := 387) (As := [.long (427071202675)]) (rest := []) ⟨hx, hb, hml, hown, hts⟩ hK hP hN hS (c_X12_isWord l D cA ad hI σ0 τ0 hR (427071202675)) (cwV 1 hts gX12_rollLine_X12_isWord rfl rfl rfl (by decide +kernel) ⟨by decide, by decide⟩) (rv_M hK hP (by decide) (by decide)) rfl hl.1 rfl (Nat.le_of_ble_eq_true rfl) dX12_rollLine_11 (Nat.zero_le _) (Nat.zero_le _) (fun r3 u3 H3 locs3 hp3 hP hS => ?_)
  obtain ⟨σ3, τ3⟩ := u3
  obtain ⟨hR, f3, fL3, hq3, hp3_0⟩ : P_X12_isWord σ0 τ0 (427071202675) r3 σ3 τ3 := hp3
  have hP : va_P D vwCl (gw cA ad σ3 τ3) H3 := hP
  obtain rfl := FrL.nil fL3
  obtain rfl := Fr.nil f3
  refine r_if_eq (tgt := 21) hx hb dX12_rollLine_14 (by decide) (fun c4 => ?_) (fun c4 => ?_)
  · clear hp3_0
    refine lv_aload_n hx hb dX12_rollLine_21 rfl (lv_at hl 1 rfl) ?_
    refine lv_ldc2 (v := 126892148680051) hx hb hown (hts _ lk_X12_rollLine_125) dX12_rollLine_22 ?_
    refine r_cVi (k := 387) (As := [.long (126892148680051)]) (rest := []) ⟨hx, hb, hml, hown, hts⟩ hK hP hN hS (c_X12_isWord l D cA ad hI σ0 τ0 hR (126892148680051)) (cwV 1 hts gX12_rollLine_X12_isWord rfl rfl rfl (by decide +kernel) ⟨by decide, by decide⟩) (rv_M hK hP (by decide) (by decide)) rfl hl.1 rfl (Nat.le_of_ble_eq_true rfl) dX12_rollLine_25 (Nat.zero_le _) (Nat.zero_le _) (fun r5 u5 H5 locs5 hp5 hP hS => ?_)
    obtain ⟨σ5, τ5⟩ := u5
    obtain ⟨hR, f5, fL5, hq5, hp5_0⟩ : P_X12_isWord σ0 τ0 (126892148680051) r5 σ5 τ5 := hp5
    have hP : va_P D vwCl (gw cA ad σ5 τ5) H5 := hP
    obtain rfl := FrL.nil fL5
    obtain rfl := Fr.nil f5
    refine r_if_eq (tgt := 35) hx hb dX12_rollLine_28 (by decide) (fun c6 => ?_) (fun c6 => ?_)
    · clear hp5_0
      refine lv_aload_n hx hb dX12_rollLine_35 rfl (lv_at hl 1 rfl) ?_
      refine lv_ldc2 (v := 1752135026) hx hb hown (hts _ lk_X12_rollLine_117) dX12_rollLine_36 ?_
      refine r_cVi (k := 387) (As := [.long (1752135026)]) (rest := []) ⟨hx, hb, hml, hown, hts⟩ hK hP hN hS (c_X12_isWord l D cA ad hI σ0 τ0 hR (1752135026)) (cwV 1 hts gX12_rollLine_X12_isWord rfl rfl rfl (by decide +kernel) ⟨by decide, by decide⟩) (rv_M hK hP (by decide) (by decide)) rfl hl.1 rfl (Nat.le_of_ble_eq_true rfl) dX12_rollLine_39 (Nat.zero_le _) (Nat.zero_le _) (fun r7 u7 H7 locs7 hp7 hP hS => ?_)
      obtain ⟨σ7, τ7⟩ := u7
      obtain ⟨hR, f7, fL7, hq7, hp7_0⟩ : P_X12_isWord σ0 τ0 (1752135026) r7 σ7 τ7 := hp7
      have hP : va_P D vwCl (gw cA ad σ7 τ7) H7 := hP
      obtain rfl := FrL.nil fL7
      obtain rfl := Fr.nil f7
      refine r_if_eq (tgt := 49) hx hb dX12_rollLine_42 (by decide) (fun c8 => ?_) (fun c8 => ?_)
      · clear hp7_0
        refine r_iconst hx hb dX12_rollLine_49 (by decide) (fun z9 ez9 => ?_)
        refine lv_istore_n (lv' := [(2, .int z9), (1, .int z2), (0, .ref (ad 387))]) hx hb dX12_rollLine_50 rfl hl (by decide) rfl (fun ls hl => ?_)
        refine lv_iload_n hx hb dX12_rollLine_51 rfl (lv_at hl 0 rfl) ?_
        refine r_if_lt (tgt := 130) hx hb dX12_rollLine_52 (by decide) (fun c10 => ?_) (fun c10 => ?_)
        · refine lv_aload_n hx hb dX12_rollLine_130 rfl (lv_at hl 2 rfl) ?_
          refine r_bipush hx hb dX12_rollLine_131 (by decide) (fun z11 ez11 => ?_)
          refine lv_aload_n hx hb dX12_rollLine_133 rfl (lv_at hl 2 rfl) ?_
          refine fg_12_6 (k := 387) hx hb hts in_X12_rollLine_12 hown hK hP (by decide) (by decide) (hts _ lk_X12_rollLine_33) dX12_rollLine_134 ?_
          refine r_iconst hx hb dX12_rollLine_137 (by decide) (fun z12 ez12 => ?_)
          refine ad_ms (k := 389) (j := 1) hx hb hK hP (by decide) (by decide) (by omega) (by omega) dX12_rollLine_138 ?_
          have hr13 := ra_ms_0 hR (k := 389) (j := 1) (by decide) (by decide) (by decide) (by decide)
          refine r_cVi (k := 387) (As := [.int z11, .int (σ0 389 1)]) (rest := []) ⟨hx, hb, hml, hown, hts⟩ hK hP hN hS (c_X12_looksAt l D cA ad hI σ0 τ0 hR z11 (σ0 389 1) (by omega) (by omega)) (cwV 2 hts gX12_rollLine_X12_looksAt rfl rfl rfl (by decide +kernel) ⟨by decide, by decide⟩) (rv_M hK hP (by decide) (by decide)) rfl hl.1 rfl (Nat.le_of_ble_eq_true rfl) dX12_rollLine_139 (Nat.zero_le _) (Nat.zero_le _) (fun r14 u14 H14 locs14 hp14 hP hS => ?_)
          obtain ⟨σ14, τ14⟩ := u14
          obtain ⟨hR, f14, fL14, hq14, hp14_0, hp14_1⟩ : P_X12_looksAt σ0 τ0 z11 (σ0 389 1) r14 σ14 τ14 := hp14
          have hP : va_P D vwCl (gw cA ad σ14 τ14) H14 := hP
          obtain rfl := FrL.nil fL14
          have hF := hF.step f14 (by decide)
          have gRXp := RXp.fr gRXp (by omega) f14 (by decide)
          have t15 : (σ14 387 4).toInt = (σ0 387 4).toInt := congrArg Int32.toInt (f14.at 387 4 (by decide))
          have t16 : (σ14 387 3).toInt = (σ0 387 3).toInt := congrArg Int32.toInt (f14.at 387 3 (by decide))
          have t17 : (σ14 387 11).toInt = (σ0 387 11).toInt := congrArg Int32.toInt (f14.at 387 11 (by decide))
          have t18 : (σ14 387 34).toInt = (σ0 387 34).toInt := congrArg Int32.toInt (f14.at 387 34 (by decide))
          have t19 : (σ14 389 1).toInt = (σ0 389 1).toInt := congrArg Int32.toInt (f14.at 389 1 (by decide))
          refine r_if_ne (tgt := 147) hx hb dX12_rollLine_142 (by decide) (fun c20 => ?_) (fun c20 => ?_)
          · replace hp14_0 := hp14_0.resolve_left (by omega)
            replace hp14_1 := hp14_1.resolve_left (by omega)
            refine lv_aload_n hx hb dX12_rollLine_147 rfl (lv_at hl 2 rfl) ?_
            refine fg_12_34 (k := 387) hx hb hts in_X12_rollLine_12 hown hK hP (by decide) (by decide) (hts _ lk_X12_rollLine_416) dX12_rollLine_148 ?_
            refine r_bipush hx hb dX12_rollLine_151 (by decide) (fun z21 ez21 => ?_)
            refine r_icmp_ne (tgt := 162) hx hb dX12_rollLine_153 (by decide) (fun c22 => ?_) (fun c22 => ?_)
            · refine lv_aload_n hx hb dX12_rollLine_162 rfl (lv_at hl 2 rfl) ?_
              refine fg_12_8 (k := 387) hx hb hts in_X12_rollLine_12 hown hK hP (by decide) (by decide) (hts _ lk_X12_rollLine_40) dX12_rollLine_163 ?_
              refine lv_iload_n hx hb dX12_rollLine_166 rfl (lv_at hl 1 rfl) ?_
              refine r_iconst hx hb dX12_rollLine_167 (by decide) (fun z23 ez23 => ?_)
              refine r_iadd hx hb dX12_rollLine_168 (by omega) (fun z24 ez24 => ?_)
              refine lv_aload_n hx hb dX12_rollLine_169 rfl (lv_at hl 2 rfl) ?_
              refine fg_12_18 (k := 387) hx hb hts in_X12_rollLine_12 hown hK hP (by decide) (by decide) (hts _ lk_X12_rollLine_195) dX12_rollLine_170 ?_
              obtain ⟨j25, ej25⟩ : ∃ j : Nat, z24.toInt = (j : Int) := ⟨_, ti_nat (by omega)⟩
              refine as_mread (k := 391) (j := j25) hx hb hK hP hI hR hS (by decide) (by decide) ej25 (by omega) dX12_rollLine_173 (fun σ26 H26 locs26 u26 v26 hR hP hS => ?_)
              have hF := hF.puts u26 3 rfl (by decide) (by decide) (by omega) (by omega)
              have gRXp := RXp.st gRXp u26 (by omega)
              have t27 : (σ26 387 4).toInt = (σ14 387 4).toInt := congrArg Int32.toInt (u26 387 4 (by omega))
              have t28 : (σ26 387 3).toInt = (σ14 387 3).toInt := congrArg Int32.toInt (u26 387 3 (by omega))
              have t29 : (σ26 387 11).toInt = (σ14 387 11).toInt := congrArg Int32.toInt (u26 387 11 (by omega))
              have t30 : (σ26 387 34).toInt = (σ14 387 34).toInt := congrArg Int32.toInt (u26 387 34 (by omega))
              have t31 : (σ26 389 1).toInt = (σ14 389 1).toInt := congrArg Int32.toInt (u26 389 1 (by omega))
              have t32 : (σ26 387 18).toInt = (σ14 387 18).toInt := congrArg Int32.toInt (u26 387 18 (by omega))
              refine lv_aload_n hx hb dX12_rollLine_174 rfl (lv_at hl 2 rfl) ?_
              refine r_cVv (k := 387) (As := []) (rest := []) ⟨hx, hb, hml, hown, hts⟩ hK hP hN hS (c_X12_next l D cA ad hI σ26 τ0 hR) (cwV 0 hts gX12_rollLine_X12_next rfl rfl rfl (by decide +kernel) ⟨by decide, by decide⟩) (rv_M hK hP (by decide) (by decide)) rfl hl.1 rfl (Nat.le_of_ble_eq_true rfl) dX12_rollLine_175 (Nat.zero_le _) (Nat.zero_le _) (fun u33 H33 locs33 hp33 hP hS => ?_)
              obtain ⟨σ33, τ33⟩ := u33
              obtain ⟨hR, f33, fL33, hp33_0, hp33_1, hp33_2⟩ : P_X12_next σ26 τ0 σ33 τ33 := hp33
              have hP : va_P D vwCl (gw cA ad σ33 τ33) H33 := hP
              have hFL := hFL.step fL33 (by decide)
              have hF := hF.step f33 (by decide)
              have gRXp := RXp.fr gRXp (by omega) f33 (by decide)
              have t34 : (σ33 387 3).toInt = (σ26 387 3).toInt := congrArg Int32.toInt (f33.at 387 3 (by decide))
              have t35 : (σ33 387 34).toInt = (σ26 387 34).toInt := congrArg Int32.toInt (f33.at 387 34 (by decide))
              have t36 : (σ33 389 1).toInt = (σ26 389 1).toInt := congrArg Int32.toInt (f33.at 389 1 (by decide))
              have t37 : (σ33 387 18).toInt = (σ26 387 18).toInt := congrArg Int32.toInt (f33.at 387 18 (by decide))
              have t38 : (σ33 391 j25).toInt = (σ26 391 j25).toInt := congrArg Int32.toInt (f33.atV 391 j25 (by intro q hq; simp only [L_X12_next, List.mem_cons, List.not_mem_nil, or_false] at hq; rcases hq with rfl | rfl <;> dsimp only <;> omega))
              have hr39 := rg_12_4 hR (k := 387) (by decide) (by decide)
              refine lv_aload_n hx hb dX12_rollLine_178 rfl (lv_at hl 2 rfl) ?_
              refine lv_ldc2 (v := 470021465459) hx hb hown (hts _ lk_X12_rollLine_119) dX12_rollLine_179 ?_
              refine r_cVi (k := 387) (As := [.long (470021465459)]) (rest := []) ⟨hx, hb, hml, hown, hts⟩ hK hP hN hS (c_X12_isWord l D cA ad hI σ33 τ33 hR (470021465459)) (cwV 1 hts gX12_rollLine_X12_isWord rfl rfl rfl (by decide +kernel) ⟨by decide, by decide⟩) (rv_M hK hP (by decide) (by decide)) rfl hl.1 rfl (Nat.le_of_ble_eq_true rfl) dX12_rollLine_182 (Nat.zero_le _) (Nat.zero_le _) (fun r40 u40 H40 locs40 hp40 hP hS => ?_)
              obtain ⟨σ40, τ40⟩ := u40
              obtain ⟨hR, f40, fL40, hq40, hp40_0⟩ : P_X12_isWord σ33 τ33 (470021465459) r40 σ40 τ40 := hp40
              have hP : va_P D vwCl (gw cA ad σ40 τ40) H40 := hP
              obtain rfl := FrL.nil fL40
              obtain rfl := Fr.nil f40
              refine r_if_eq (tgt := 192) hx hb dX12_rollLine_185 (by decide) (fun c41 => ?_) (fun c41 => ?_)
              · clear hp40_0
                refine lv_aload_n hx hb dX12_rollLine_192 rfl (lv_at hl 2 rfl) ?_
                refine lv_ldc2 (v := 126956639187571) hx hb hown (hts _ lk_X12_rollLine_121) dX12_rollLine_193 ?_
                refine r_cVi (k := 387) (As := [.long (126956639187571)]) (rest := []) ⟨hx, hb, hml, hown, hts⟩ hK hP hN hS (c_X12_isWord l D cA ad hI σ33 τ33 hR (126956639187571)) (cwV 1 hts gX12_rollLine_X12_isWord rfl rfl rfl (by decide +kernel) ⟨by decide, by decide⟩) (rv_M hK hP (by decide) (by decide)) rfl hl.1 rfl (Nat.le_of_ble_eq_true rfl) dX12_rollLine_196 (Nat.zero_le _) (Nat.zero_le _) (fun r42 u42 H42 locs42 hp42 hP hS => ?_)
                obtain ⟨σ42, τ42⟩ := u42
                obtain ⟨hR, f42, fL42, hq42, hp42_0⟩ : P_X12_isWord σ33 τ33 (126956639187571) r42 σ42 τ42 := hp42
                have hP : va_P D vwCl (gw cA ad σ42 τ42) H42 := hP
                obtain rfl := FrL.nil fL42
                obtain rfl := Fr.nil f42
                refine r_if_eq (tgt := 206) hx hb dX12_rollLine_199 (by decide) (fun c43 => ?_) (fun c43 => ?_)
                · clear hp42_0
                  refine lv_aload_n hx hb dX12_rollLine_206 rfl (lv_at hl 2 rfl) ?_
                  refine lv_ldc2 (v := 426836257907) hx hb hown (hts _ lk_X12_rollLine_123) dX12_rollLine_207 ?_
                  refine r_cVi (k := 387) (As := [.long (426836257907)]) (rest := []) ⟨hx, hb, hml, hown, hts⟩ hK hP hN hS (c_X12_isWord l D cA ad hI σ33 τ33 hR (426836257907)) (cwV 1 hts gX12_rollLine_X12_isWord rfl rfl rfl (by decide +kernel) ⟨by decide, by decide⟩) (rv_M hK hP (by decide) (by decide)) rfl hl.1 rfl (Nat.le_of_ble_eq_true rfl) dX12_rollLine_210 (Nat.zero_le _) (Nat.zero_le _) (fun r44 u44 H44 locs44 hp44 hP hS => ?_)
                  obtain ⟨σ44, τ44⟩ := u44
                  obtain ⟨hR, f44, fL44, hq44, hp44_0⟩ : P_X12_isWord σ33 τ33 (426836257907) r44 σ44 τ44 := hp44
                  have hP : va_P D vwCl (gw cA ad σ44 τ44) H44 := hP
                  obtain rfl := FrL.nil fL44
                  obtain rfl := Fr.nil f44
                  refine r_if_eq (tgt := 220) hx hb dX12_rollLine_213 (by decide) (fun c45 => ?_) (fun c45 => ?_)
                  · clear hp44_0
                    refine r_iconst hx hb dX12_rollLine_220 (by decide) (fun z46 ez46 => ?_)
                    refine lv_istore_n (lv' := [(3, .int z46), (2, .int z9), (1, .int z2), (0, .ref (ad 387))]) hx hb dX12_rollLine_221 rfl hl (by decide) rfl (fun ls hl => ?_)
                    refine lv_iload_n hx hb dX12_rollLine_222 rfl (lv_at hl 0 rfl) ?_
                    refine r_if_ge (tgt := 232) hx hb dX12_rollLine_223 (by decide) (fun c47 => ?_) (fun c47 => ?_)
                    · exfalso; omega
                    · refine lv_aload_n hx hb dX12_rollLine_226 rfl (lv_at hl 3 rfl) ?_
                      refine r_iconst hx hb dX12_rollLine_227 (by decide) (fun z48 ez48 => ?_)
                      refine r_cVi (k := 387) (As := [.int z48]) (rest := []) ⟨hx, hb, hml, hown, hts⟩ hK hP hN hS (c_X12_bad l D cA ad hI σ33 τ33 hR z48 (by omega)) (cwV 1 hts gX12_rollLine_X12_bad rfl rfl rfl (by decide +kernel) ⟨by decide, by decide⟩) (rv_M hK hP (by decide) (by decide)) rfl hl.1 rfl (Nat.le_of_ble_eq_true rfl) dX12_rollLine_228 (Nat.zero_le _) (Nat.zero_le _) (fun r49 u49 H49 locs49 hp49 hP hS => ?_)
                      obtain ⟨σ49, τ49⟩ := u49
                      obtain ⟨hR, f49, fL49, hq49⟩ : P_X12_bad σ33 τ33 z48 r49 σ49 τ49 := hp49
                      have hP : va_P D vwCl (gw cA ad σ49 τ49) H49 := hP
                      obtain rfl := FrL.nil fL49
                      have hF := hF.step f49 (by decide)
                      have gRXp := RXp.fr gRXp (by omega) f49 (by decide)
                      have t50 : (σ49 387 3).toInt = (σ33 387 3).toInt := congrArg Int32.toInt (f49.at 387 3 (by decide))
                      have t51 : (σ49 387 34).toInt = (σ33 387 34).toInt := congrArg Int32.toInt (f49.at 387 34 (by decide))
                      have t52 : (σ49 389 1).toInt = (σ33 389 1).toInt := congrArg Int32.toInt (f49.at 389 1 (by decide))
                      have t53 : (σ49 387 18).toInt = (σ33 387 18).toInt := congrArg Int32.toInt (f49.at 387 18 (by decide))
                      have t54 : (σ49 391 j25).toInt = (σ33 391 j25).toInt := congrArg Int32.toInt (f49.atV 391 j25 (by intro q hq; simp only [L_X12_bad, List.mem_cons, List.not_mem_nil, or_false] at hq; rcases hq with rfl <;> dsimp only <;> omega))
                      have t55 : (σ49 387 4).toInt = (σ33 387 4).toInt := congrArg Int32.toInt (f49.at 387 4 (by decide))
                      have t56 : (σ49 387 11).toInt = (σ33 387 11).toInt := congrArg Int32.toInt (f49.at 387 11 (by decide))
                      exact r_zret hx hb hr hK hP hS hk (by omega) dX12_rollLine_231 (show P_X12_rollLine σ0 τ0 r49 σ49 τ33 from ⟨hR, hF, hFL, by omega, by omega, by omega, by first | exact Or.inl (by omega) | exact Or.inr ⟨by omega, gRXp, fun t ht => OKL.of_w (j := 0) (by omega) (by omega)⟩ | exact Or.inr ⟨by omega, gRXp, fun t ht => OKL.of3 (j1 := 0) (j2 := j25) (j3 := 0) (by omega) (by omega) (by omega) (by omega) (by omega) (by omega)⟩⟩)
                  · replace hp44_0 := hp44_0.resolve_left (by omega)
                    refine r_iconst hx hb dX12_rollLine_216 (by decide) (fun z57 ez57 => ?_)
                    refine lv_goto (tgt := 221) hx hb dX12_rollLine_217 (by decide) ?_
                    refine lv_istore_n (lv' := [(3, .int z57), (2, .int z9), (1, .int z2), (0, .ref (ad 387))]) hx hb dX12_rollLine_221 rfl hl (by decide) rfl (fun ls hl => ?_)
                    refine lv_iload_n hx hb dX12_rollLine_222 rfl (lv_at hl 0 rfl) ?_
                    refine r_if_ge (tgt := 232) hx hb dX12_rollLine_223 (by decide) (fun c58 => ?_) (fun c58 => ?_)
                    · refine lv_aload_n hx hb dX12_rollLine_232 rfl (lv_at hl 3 rfl) ?_
                      refine fg_12_8 (k := 387) hx hb hts in_X12_rollLine_12 hown hK hP (by decide) (by decide) (hts _ lk_X12_rollLine_40) dX12_rollLine_233 ?_
                      refine lv_iload_n hx hb dX12_rollLine_236 rfl (lv_at hl 2 rfl) ?_
                      refine lv_iload_n hx hb dX12_rollLine_237 rfl (lv_at hl 0 rfl) ?_
                      obtain ⟨j59, ej59⟩ : ∃ j : Nat, z2.toInt = (j : Int) := ⟨_, ti_nat (by omega)⟩
                      refine as_mread (k := 391) (j := j59) hx hb hK hP hI hR hS (by decide) (by decide) ej59 (by omega) dX12_rollLine_238 (fun σ60 H60 locs60 u60 v60 hR hP hS => ?_)
                      have hF := hF.puts u60 3 rfl (by decide) (by decide) (by omega) (by omega)
                      have gRXp := RXp.st gRXp u60 (by omega)
                      have t61 : (σ60 387 3).toInt = (σ33 387 3).toInt := congrArg Int32.toInt (u60 387 3 (by omega))
                      have t62 : (σ60 387 34).toInt = (σ33 387 34).toInt := congrArg Int32.toInt (u60 387 34 (by omega))
                      have t63 : (σ60 389 1).toInt = (σ33 389 1).toInt := congrArg Int32.toInt (u60 389 1 (by omega))
                      have t64 : (σ60 387 18).toInt = (σ33 387 18).toInt := congrArg Int32.toInt (u60 387 18 (by omega))
                      have t65 : (σ60 391 j25).toInt = (σ33 391 j25).toInt := congrArg Int32.toInt (u60 391 j25 (by omega))
                      have t66 : (σ60 387 4).toInt = (σ33 387 4).toInt := congrArg Int32.toInt (u60 387 4 (by omega))
                      have t67 : (σ60 387 11).toInt = (σ33 387 11).toInt := congrArg Int32.toInt (u60 387 11 (by omega))
                      refine lv_aload_n hx hb dX12_rollLine_239 rfl (lv_at hl 3 rfl) ?_
                      refine r_cVv (k := 387) (As := []) (rest := []) ⟨hx, hb, hml, hown, hts⟩ hK hP hN hS (c_X12_next l D cA ad hI σ60 τ33 hR) (cwV 0 hts gX12_rollLine_X12_next rfl rfl rfl (by decide +kernel) ⟨by decide, by decide⟩) (rv_M hK hP (by decide) (by decide)) rfl hl.1 rfl (Nat.le_of_ble_eq_true rfl) dX12_rollLine_240 (Nat.zero_le _) (Nat.zero_le _) (fun u68 H68 locs68 hp68 hP hS => ?_)
                      obtain ⟨σ68, τ68⟩ := u68
                      obtain ⟨hR, f68, fL68, hp68_0, hp68_1, hp68_2⟩ : P_X12_next σ60 τ33 σ68 τ68 := hp68
                      have hP : va_P D vwCl (gw cA ad σ68 τ68) H68 := hP
                      clear hp33_1
                      have hFL := hFL.step fL68 (by decide)
                      have hF := hF.step f68 (by decide)
                      have gRXp := RXp.fr gRXp (by omega) f68 (by decide)
                      have t69 : (σ68 387 3).toInt = (σ60 387 3).toInt := congrArg Int32.toInt (f68.at 387 3 (by decide))
                      have t70 : (σ68 387 34).toInt = (σ60 387 34).toInt := congrArg Int32.toInt (f68.at 387 34 (by decide))
                      have t71 : (σ68 389 1).toInt = (σ60 389 1).toInt := congrArg Int32.toInt (f68.at 389 1 (by decide))
                      have t72 : (σ68 387 18).toInt = (σ60 387 18).toInt := congrArg Int32.toInt (f68.at 387 18 (by decide))
                      have t73 : (σ68 391 j25).toInt = (σ60 391 j25).toInt := congrArg Int32.toInt (f68.atV 391 j25 (by intro q hq; simp only [L_X12_next, List.mem_cons, List.not_mem_nil, or_false] at hq; rcases hq with rfl | rfl <;> dsimp only <;> omega))
                      have t74 : (σ68 391 j59).toInt = (σ60 391 j59).toInt := congrArg Int32.toInt (f68.atV 391 j59 (by intro q hq; simp only [L_X12_next, List.mem_cons, List.not_mem_nil, or_false] at hq; rcases hq with rfl | rfl <;> dsimp only <;> omega))
                      have hr75 := rg_12_4 hR (k := 387) (by decide) (by decide)
                      refine lv_iload_n hx hb dX12_rollLine_243 rfl (lv_at hl 0 rfl) ?_
                      refine r_iconst hx hb dX12_rollLine_244 (by decide) (fun z76 ez76 => ?_)
                      refine r_icmp_ne (tgt := 261) hx hb dX12_rollLine_245 (by decide) (fun c77 => ?_) (fun c77 => ?_)
                      · refine lv_aload_n hx hb dX12_rollLine_261 rfl (lv_at hl 3 rfl) ?_
                        refine lv_iload_n hx hb dX12_rollLine_262 rfl (lv_at hl 0 rfl) ?_
                        refine r_iconst hx hb dX12_rollLine_263 (by decide) (fun z78 ez78 => ?_)
                        refine r_icmp_ne (tgt := 271) hx hb dX12_rollLine_264 (by decide) (fun c79 => ?_) (fun c79 => ?_)
                        · refine r_bipush hx hb dX12_rollLine_271 (by decide) (fun z80 ez80 => ?_)
                          refine lv_aload_n hx hb dX12_rollLine_273 rfl (lv_at hl 3 rfl) ?_
                          refine fg_12_6 (k := 387) hx hb hts in_X12_rollLine_12 hown hK hP (by decide) (by decide) (hts _ lk_X12_rollLine_33) dX12_rollLine_274 ?_
                          refine lv_iload_n hx hb dX12_rollLine_277 rfl (lv_at hl 0 rfl) ?_
                          refine r_iconst hx hb dX12_rollLine_278 (by decide) (fun z81 ez81 => ?_)
                          refine r_icmp_ne (tgt := 286) hx hb dX12_rollLine_279 (by decide) (fun c82 => ?_) (fun c82 => ?_)
                          · refine r_iconst hx hb dX12_rollLine_286 (by decide) (fun z83 ez83 => ?_)
                            refine ad_ms (k := 389) (j := 1) hx hb hK hP (by decide) (by decide) (by omega) (by omega) dX12_rollLine_287 ?_
                            have hr84 := ra_ms_0 hR (k := 389) (j := 1) (by decide) (by decide) (by decide) (by decide)
                            refine r_cVi (k := 387) (As := [.int z80, .int (σ68 389 1)]) (rest := []) ⟨hx, hb, hml, hown, hts⟩ hK hP hN hS (c_X12_takesName l D cA ad hI σ68 τ68 hR z80 (σ68 389 1) (by omega) (by omega)) (cwV 2 hts gX12_rollLine_X12_takesName rfl rfl rfl (by decide +kernel) ⟨by decide, by decide⟩) (rv_M hK hP (by decide) (by decide)) rfl hl.1 rfl (Nat.le_of_ble_eq_true rfl) dX12_rollLine_288 (Nat.zero_le _) (Nat.zero_le _) (fun r85 u85 H85 locs85 hp85 hP hS => ?_)
                            obtain ⟨σ85, τ85⟩ := u85
                            obtain ⟨hR, f85, fL85, hq85, hp85_0, hp85_1, hp85_2, hp85_3⟩ : P_X12_takesName σ68 τ68 z80 (σ68 389 1) r85 σ85 τ85 := hp85
                            have hP : va_P D vwCl (gw cA ad σ85 τ85) H85 := hP
                            clear hp68_1
                            have hFL := hFL.step fL85 (by decide)
                            have hF := hF.step f85 (by decide)
                            have gRXp := RXp.fr gRXp (by omega) f85 (by decide)
                            have t86 : (σ85 387 3).toInt = (σ68 387 3).toInt := congrArg Int32.toInt (f85.at 387 3 (by decide))
                            have t87 : (σ85 387 34).toInt = (σ68 387 34).toInt := congrArg Int32.toInt (f85.at 387 34 (by decide))
                            have t88 : (σ85 389 1).toInt = (σ68 389 1).toInt := congrArg Int32.toInt (f85.at 389 1 (by decide))
                            have t89 : (σ85 391 j25).toInt = (σ68 391 j25).toInt := congrArg Int32.toInt (f85.atV 391 j25 (by intro q hq; simp only [L_X12_takesName, List.mem_cons, List.not_mem_nil, or_false] at hq; rcases hq with rfl | rfl | rfl <;> dsimp only <;> omega))
                            have t90 : (σ85 391 j59).toInt = (σ68 391 j59).toInt := congrArg Int32.toInt (f85.atV 391 j59 (by intro q hq; simp only [L_X12_takesName, List.mem_cons, List.not_mem_nil, or_false] at hq; rcases hq with rfl | rfl | rfl <;> dsimp only <;> omega))
                            have hr91 := rg_12_4 hR (k := 387) (by decide) (by decide)
                            refine r_if_ne (tgt := 296) hx hb dX12_rollLine_291 (by decide) (fun c92 => ?_) (fun c92 => ?_)
                            · replace hp85_1 := hp85_1.resolve_left (by omega)
                              replace hp85_2 := hp85_2.resolve_left (by omega)
                              replace hp85_3 := hp85_3.resolve_left (by omega)
                              refine lv_aload_n hx hb dX12_rollLine_296 rfl (lv_at hl 3 rfl) ?_
                              refine fg_12_8 (k := 387) hx hb hts in_X12_rollLine_12 hown hK hP (by decide) (by decide) (hts _ lk_X12_rollLine_40) dX12_rollLine_297 ?_
                              refine lv_iload_n hx hb dX12_rollLine_300 rfl (lv_at hl 2 rfl) ?_
                              refine r_iconst hx hb dX12_rollLine_301 (by decide) (fun z93 ez93 => ?_)
                              refine r_iadd hx hb dX12_rollLine_302 (by omega) (fun z94 ez94 => ?_)
                              refine lv_aload_n hx hb dX12_rollLine_303 rfl (lv_at hl 3 rfl) ?_
                              refine fg_12_18 (k := 387) hx hb hts in_X12_rollLine_12 hown hK hP (by decide) (by decide) (hts _ lk_X12_rollLine_195) dX12_rollLine_304 ?_
                              obtain ⟨j95, ej95⟩ : ∃ j : Nat, z94.toInt = (j : Int) := ⟨_, ti_nat (by omega)⟩
                              refine as_mread (k := 391) (j := j95) hx hb hK hP hI hR hS (by decide) (by decide) ej95 (by omega) dX12_rollLine_307 (fun σ96 H96 locs96 u96 v96 hR hP hS => ?_)
                              have hF := hF.puts u96 3 rfl (by decide) (by decide) (by omega) (by omega)
                              have gRXp := RXp.st gRXp u96 (by omega)
                              have t97 : (σ96 387 3).toInt = (σ85 387 3).toInt := congrArg Int32.toInt (u96 387 3 (by omega))
                              have t98 : (σ96 387 34).toInt = (σ85 387 34).toInt := congrArg Int32.toInt (u96 387 34 (by omega))
                              have t99 : (σ96 389 1).toInt = (σ85 389 1).toInt := congrArg Int32.toInt (u96 389 1 (by omega))
                              have t100 : (σ96 391 j25).toInt = (σ85 391 j25).toInt := congrArg Int32.toInt (u96 391 j25 (by omega))
                              have t101 : (σ96 391 j59).toInt = (σ85 391 j59).toInt := congrArg Int32.toInt (u96 391 j59 (by omega))
                              have t102 : (σ96 387 4).toInt = (σ85 387 4).toInt := congrArg Int32.toInt (u96 387 4 (by omega))
                              have t103 : (σ96 387 11).toInt = (σ85 387 11).toInt := congrArg Int32.toInt (u96 387 11 (by omega))
                              have t104 : (σ96 387 18).toInt = (σ85 387 18).toInt := congrArg Int32.toInt (u96 387 18 (by omega))
                              refine r_iconst hx hb dX12_rollLine_308 (by decide) (fun z105 ez105 => ?_)
                              exact r_zret hx hb hr hK hP hS hk (by omega) dX12_rollLine_309 (show P_X12_rollLine σ0 τ0 z105 σ96 τ85 from ⟨hR, hF, hFL, by omega, by omega, by omega, by first | exact Or.inl (by omega) | exact Or.inr ⟨by omega, gRXp, fun t ht => OKL.of_w (j := j59) (by omega) (by omega)⟩ | exact Or.inr ⟨by omega, gRXp, fun t ht => OKL.of3 (j1 := j59) (j2 := j25) (j3 := j95) (by omega) (by omega) (by omega) (by omega) (by omega) (by omega)⟩⟩)
                            · clear hp85_1 hp85_2 hp85_3
                              refine r_iconst hx hb dX12_rollLine_294 (by decide) (fun z106 ez106 => ?_)
                              exact r_zret hx hb hr hK hP hS hk (by omega) dX12_rollLine_295 (show P_X12_rollLine σ0 τ0 z106 σ85 τ85 from ⟨hR, hF, hFL, by omega, by omega, by omega, by first | exact Or.inl (by omega) | exact Or.inr ⟨by omega, gRXp, fun t ht => OKL.of_w (j := j59) (by omega) (by omega)⟩ | exact Or.inr ⟨by omega, gRXp, fun t ht => OKL.of3 (j1 := j59) (j2 := j25) (j3 := 0) (by omega) (by omega) (by omega) (by omega) (by omega) (by omega)⟩⟩)
                          · exfalso; omega
                        · exfalso; omega
                      · exfalso; omega
                    · exfalso; omega
                · replace hp42_0 := hp42_0.resolve_left (by omega)
                  refine r_iconst hx hb dX12_rollLine_202 (by decide) (fun z107 ez107 => ?_)
                  refine lv_goto (tgt := 221) hx hb dX12_rollLine_203 (by decide) ?_
                  refine lv_istore_n (lv' := [(3, .int z107), (2, .int z9), (1, .int z2), (0, .ref (ad 387))]) hx hb dX12_rollLine_221 rfl hl (by decide) rfl (fun ls hl => ?_)
                  refine lv_iload_n hx hb dX12_rollLine_222 rfl (lv_at hl 0 rfl) ?_
                  refine r_if_ge (tgt := 232) hx hb dX12_rollLine_223 (by decide) (fun c108 => ?_) (fun c108 => ?_)
                  · refine lv_aload_n hx hb dX12_rollLine_232 rfl (lv_at hl 3 rfl) ?_
                    refine fg_12_8 (k := 387) hx hb hts in_X12_rollLine_12 hown hK hP (by decide) (by decide) (hts _ lk_X12_rollLine_40) dX12_rollLine_233 ?_
                    refine lv_iload_n hx hb dX12_rollLine_236 rfl (lv_at hl 2 rfl) ?_
                    refine lv_iload_n hx hb dX12_rollLine_237 rfl (lv_at hl 0 rfl) ?_
                    obtain ⟨j109, ej109⟩ : ∃ j : Nat, z2.toInt = (j : Int) := ⟨_, ti_nat (by omega)⟩
                    refine as_mread (k := 391) (j := j109) hx hb hK hP hI hR hS (by decide) (by decide) ej109 (by omega) dX12_rollLine_238 (fun σ110 H110 locs110 u110 v110 hR hP hS => ?_)
                    have hF := hF.puts u110 3 rfl (by decide) (by decide) (by omega) (by omega)
                    have gRXp := RXp.st gRXp u110 (by omega)
                    have t111 : (σ110 387 3).toInt = (σ33 387 3).toInt := congrArg Int32.toInt (u110 387 3 (by omega))
                    have t112 : (σ110 387 34).toInt = (σ33 387 34).toInt := congrArg Int32.toInt (u110 387 34 (by omega))
                    have t113 : (σ110 389 1).toInt = (σ33 389 1).toInt := congrArg Int32.toInt (u110 389 1 (by omega))
                    have t114 : (σ110 387 18).toInt = (σ33 387 18).toInt := congrArg Int32.toInt (u110 387 18 (by omega))
                    have t115 : (σ110 391 j25).toInt = (σ33 391 j25).toInt := congrArg Int32.toInt (u110 391 j25 (by omega))
                    have t116 : (σ110 387 4).toInt = (σ33 387 4).toInt := congrArg Int32.toInt (u110 387 4 (by omega))
                    have t117 : (σ110 387 11).toInt = (σ33 387 11).toInt := congrArg Int32.toInt (u110 387 11 (by omega))
                    refine lv_aload_n hx hb dX12_rollLine_239 rfl (lv_at hl 3 rfl) ?_
                    refine r_cVv (k := 387) (As := []) (rest := []) ⟨hx, hb, hml, hown, hts⟩ hK hP hN hS (c_X12_next l D cA ad hI σ110 τ33 hR) (cwV 0 hts gX12_rollLine_X12_next rfl rfl rfl (by decide +kernel) ⟨by decide, by decide⟩) (rv_M hK hP (by decide) (by decide)) rfl hl.1 rfl (Nat.le_of_ble_eq_true rfl) dX12_rollLine_240 (Nat.zero_le _) (Nat.zero_le _) (fun u118 H118 locs118 hp118 hP hS => ?_)
                    obtain ⟨σ118, τ118⟩ := u118
                    obtain ⟨hR, f118, fL118, hp118_0, hp118_1, hp118_2⟩ : P_X12_next σ110 τ33 σ118 τ118 := hp118
                    have hP : va_P D vwCl (gw cA ad σ118 τ118) H118 := hP
                    clear hp33_1
                    have hFL := hFL.step fL118 (by decide)
                    have hF := hF.step f118 (by decide)
                    have gRXp := RXp.fr gRXp (by omega) f118 (by decide)
                    have t119 : (σ118 387 3).toInt = (σ110 387 3).toInt := congrArg Int32.toInt (f118.at 387 3 (by decide))
                    have t120 : (σ118 387 34).toInt = (σ110 387 34).toInt := congrArg Int32.toInt (f118.at 387 34 (by decide))
                    have t121 : (σ118 389 1).toInt = (σ110 389 1).toInt := congrArg Int32.toInt (f118.at 389 1 (by decide))
                    have t122 : (σ118 387 18).toInt = (σ110 387 18).toInt := congrArg Int32.toInt (f118.at 387 18 (by decide))
                    have t123 : (σ118 391 j25).toInt = (σ110 391 j25).toInt := congrArg Int32.toInt (f118.atV 391 j25 (by intro q hq; simp only [L_X12_next, List.mem_cons, List.not_mem_nil, or_false] at hq; rcases hq with rfl | rfl <;> dsimp only <;> omega))
                    have t124 : (σ118 391 j109).toInt = (σ110 391 j109).toInt := congrArg Int32.toInt (f118.atV 391 j109 (by intro q hq; simp only [L_X12_next, List.mem_cons, List.not_mem_nil, or_false] at hq; rcases hq with rfl | rfl <;> dsimp only <;> omega))
                    have hr125 := rg_12_4 hR (k := 387) (by decide) (by decide)
                    refine lv_iload_n hx hb dX12_rollLine_243 rfl (lv_at hl 0 rfl) ?_
                    refine r_iconst hx hb dX12_rollLine_244 (by decide) (fun z126 ez126 => ?_)
                    refine r_icmp_ne (tgt := 261) hx hb dX12_rollLine_245 (by decide) (fun c127 => ?_) (fun c127 => ?_)
                    · exfalso; omega
                    · refine lv_aload_n hx hb dX12_rollLine_248 rfl (lv_at hl 3 rfl) ?_
                      refine r_iconst hx hb dX12_rollLine_249 (by decide) (fun z128 ez128 => ?_)
                      refine r_bipush hx hb dX12_rollLine_250 (by decide) (fun z129 ez129 => ?_)
                      refine r_cVi (k := 387) (As := [.int z128, .int z129]) (rest := []) ⟨hx, hb, hml, hown, hts⟩ hK hP hN hS (c_X12_takes l D cA ad hI σ118 τ118 hR z128 z129 (by omega) (by omega)) (cwV 2 hts gX12_rollLine_X12_takes rfl rfl rfl (by decide +kernel) ⟨by decide, by decide⟩) (rv_M hK hP (by decide) (by decide)) rfl hl.1 rfl (Nat.le_of_ble_eq_true rfl) dX12_rollLine_252 (Nat.zero_le _) (Nat.zero_le _) (fun r130 u130 H130 locs130 hp130 hP hS => ?_)
                      obtain ⟨σ130, τ130⟩ := u130
                      obtain ⟨hR, f130, fL130, hq130, hp130_0, hp130_1, hp130_2⟩ : P_X12_takes σ118 τ118 z128 z129 r130 σ130 τ130 := hp130
                      have hP : va_P D vwCl (gw cA ad σ130 τ130) H130 := hP
                      clear hp118_1
                      have hFL := hFL.step fL130 (by decide)
                      have hF := hF.step f130 (by decide)
                      have gRXp := RXp.fr gRXp (by omega) f130 (by decide)
                      have t131 : (σ130 387 3).toInt = (σ118 387 3).toInt := congrArg Int32.toInt (f130.at 387 3 (by decide))
                      have t132 : (σ130 387 34).toInt = (σ118 387 34).toInt := congrArg Int32.toInt (f130.at 387 34 (by decide))
                      have t133 : (σ130 389 1).toInt = (σ118 389 1).toInt := congrArg Int32.toInt (f130.at 389 1 (by decide))
                      have t134 : (σ130 391 j25).toInt = (σ118 391 j25).toInt := congrArg Int32.toInt (f130.atV 391 j25 (by intro q hq; simp only [L_X12_takes, List.mem_cons, List.not_mem_nil, or_false] at hq; rcases hq with rfl | rfl | rfl <;> dsimp only <;> omega))
                      have t135 : (σ130 391 j109).toInt = (σ118 391 j109).toInt := congrArg Int32.toInt (f130.atV 391 j109 (by intro q hq; simp only [L_X12_takes, List.mem_cons, List.not_mem_nil, or_false] at hq; rcases hq with rfl | rfl | rfl <;> dsimp only <;> omega))
                      have hr136 := rg_12_4 hR (k := 387) (by decide) (by decide)
                      refine r_if_ne (tgt := 296) hx hb dX12_rollLine_255 (by decide) (fun c137 => ?_) (fun c137 => ?_)
                      · replace hp130_1 := hp130_1.resolve_left (by omega)
                        replace hp130_2 := hp130_2.resolve_left (by omega)
                        refine lv_aload_n hx hb dX12_rollLine_296 rfl (lv_at hl 3 rfl) ?_
                        refine fg_12_8 (k := 387) hx hb hts in_X12_rollLine_12 hown hK hP (by decide) (by decide) (hts _ lk_X12_rollLine_40) dX12_rollLine_297 ?_
                        refine lv_iload_n hx hb dX12_rollLine_300 rfl (lv_at hl 2 rfl) ?_
                        refine r_iconst hx hb dX12_rollLine_301 (by decide) (fun z138 ez138 => ?_)
                        refine r_iadd hx hb dX12_rollLine_302 (by omega) (fun z139 ez139 => ?_)
                        refine lv_aload_n hx hb dX12_rollLine_303 rfl (lv_at hl 3 rfl) ?_
                        refine fg_12_18 (k := 387) hx hb hts in_X12_rollLine_12 hown hK hP (by decide) (by decide) (hts _ lk_X12_rollLine_195) dX12_rollLine_304 ?_
                        obtain ⟨j140, ej140⟩ : ∃ j : Nat, z139.toInt = (j : Int) := ⟨_, ti_nat (by omega)⟩
                        refine as_mread (k := 391) (j := j140) hx hb hK hP hI hR hS (by decide) (by decide) ej140 (by omega) dX12_rollLine_307 (fun σ141 H141 locs141 u141 v141 hR hP hS => ?_)
                        have hF := hF.puts u141 3 rfl (by decide) (by decide) (by omega) (by omega)
                        have gRXp := RXp.st gRXp u141 (by omega)
                        have t142 : (σ141 387 3).toInt = (σ130 387 3).toInt := congrArg Int32.toInt (u141 387 3 (by omega))
                        have t143 : (σ141 387 34).toInt = (σ130 387 34).toInt := congrArg Int32.toInt (u141 387 34 (by omega))
                        have t144 : (σ141 389 1).toInt = (σ130 389 1).toInt := congrArg Int32.toInt (u141 389 1 (by omega))
                        have t145 : (σ141 391 j25).toInt = (σ130 391 j25).toInt := congrArg Int32.toInt (u141 391 j25 (by omega))
                        have t146 : (σ141 391 j109).toInt = (σ130 391 j109).toInt := congrArg Int32.toInt (u141 391 j109 (by omega))
                        have t147 : (σ141 387 4).toInt = (σ130 387 4).toInt := congrArg Int32.toInt (u141 387 4 (by omega))
                        have t148 : (σ141 387 11).toInt = (σ130 387 11).toInt := congrArg Int32.toInt (u141 387 11 (by omega))
                        have t149 : (σ141 387 18).toInt = (σ130 387 18).toInt := congrArg Int32.toInt (u141 387 18 (by omega))
                        refine r_iconst hx hb dX12_rollLine_308 (by decide) (fun z150 ez150 => ?_)
                        exact r_zret hx hb hr hK hP hS hk (by omega) dX12_rollLine_309 (show P_X12_rollLine σ0 τ0 z150 σ141 τ130 from ⟨hR, hF, hFL, by omega, by omega, by omega, by first | exact Or.inl (by omega) | exact Or.inr ⟨by omega, gRXp, fun t ht => OKL.of_w (j := j109) (by omega) (by omega)⟩ | exact Or.inr ⟨by omega, gRXp, fun t ht => OKL.of3 (j1 := j109) (j2 := j25) (j3 := j140) (by omega) (by omega) (by omega) (by omega) (by omega) (by omega)⟩⟩)
                      · clear hp130_1 hp130_2
                        refine lv_goto (tgt := 294) hx hb dX12_rollLine_258 (by decide) ?_
                        refine r_iconst hx hb dX12_rollLine_294 (by decide) (fun z151 ez151 => ?_)
                        exact r_zret hx hb hr hK hP hS hk (by omega) dX12_rollLine_295 (show P_X12_rollLine σ0 τ0 z151 σ130 τ130 from ⟨hR, hF, hFL, by omega, by omega, by omega, by first | exact Or.inl (by omega) | exact Or.inr ⟨by omega, gRXp, fun t ht => OKL.of_w (j := j109) (by omega) (by omega)⟩ | exact Or.inr ⟨by omega, gRXp, fun t ht => OKL.of3 (j1 := j109) (j2 := j25) (j3 := 0) (by omega) (by omega) (by omega) (by omega) (by omega) (by omega)⟩⟩)
                  · exfalso; omega
              · replace hp40_0 := hp40_0.resolve_left (by omega)
                refine r_iconst hx hb dX12_rollLine_188 (by decide) (fun z152 ez152 => ?_)
                refine lv_goto (tgt := 221) hx hb dX12_rollLine_189 (by decide) ?_
                refine lv_istore_n (lv' := [(3, .int z152), (2, .int z9), (1, .int z2), (0, .ref (ad 387))]) hx hb dX12_rollLine_221 rfl hl (by decide) rfl (fun ls hl => ?_)
                refine lv_iload_n hx hb dX12_rollLine_222 rfl (lv_at hl 0 rfl) ?_
                refine r_if_ge (tgt := 232) hx hb dX12_rollLine_223 (by decide) (fun c153 => ?_) (fun c153 => ?_)
                · refine lv_aload_n hx hb dX12_rollLine_232 rfl (lv_at hl 3 rfl) ?_
                  refine fg_12_8 (k := 387) hx hb hts in_X12_rollLine_12 hown hK hP (by decide) (by decide) (hts _ lk_X12_rollLine_40) dX12_rollLine_233 ?_
                  refine lv_iload_n hx hb dX12_rollLine_236 rfl (lv_at hl 2 rfl) ?_
                  refine lv_iload_n hx hb dX12_rollLine_237 rfl (lv_at hl 0 rfl) ?_
                  obtain ⟨j154, ej154⟩ : ∃ j : Nat, z2.toInt = (j : Int) := ⟨_, ti_nat (by omega)⟩
                  refine as_mread (k := 391) (j := j154) hx hb hK hP hI hR hS (by decide) (by decide) ej154 (by omega) dX12_rollLine_238 (fun σ155 H155 locs155 u155 v155 hR hP hS => ?_)
                  have hF := hF.puts u155 3 rfl (by decide) (by decide) (by omega) (by omega)
                  have gRXp := RXp.st gRXp u155 (by omega)
                  have t156 : (σ155 387 3).toInt = (σ33 387 3).toInt := congrArg Int32.toInt (u155 387 3 (by omega))
                  have t157 : (σ155 387 34).toInt = (σ33 387 34).toInt := congrArg Int32.toInt (u155 387 34 (by omega))
                  have t158 : (σ155 389 1).toInt = (σ33 389 1).toInt := congrArg Int32.toInt (u155 389 1 (by omega))
                  have t159 : (σ155 387 18).toInt = (σ33 387 18).toInt := congrArg Int32.toInt (u155 387 18 (by omega))
                  have t160 : (σ155 391 j25).toInt = (σ33 391 j25).toInt := congrArg Int32.toInt (u155 391 j25 (by omega))
                  have t161 : (σ155 387 4).toInt = (σ33 387 4).toInt := congrArg Int32.toInt (u155 387 4 (by omega))
                  have t162 : (σ155 387 11).toInt = (σ33 387 11).toInt := congrArg Int32.toInt (u155 387 11 (by omega))
                  refine lv_aload_n hx hb dX12_rollLine_239 rfl (lv_at hl 3 rfl) ?_
                  refine r_cVv (k := 387) (As := []) (rest := []) ⟨hx, hb, hml, hown, hts⟩ hK hP hN hS (c_X12_next l D cA ad hI σ155 τ33 hR) (cwV 0 hts gX12_rollLine_X12_next rfl rfl rfl (by decide +kernel) ⟨by decide, by decide⟩) (rv_M hK hP (by decide) (by decide)) rfl hl.1 rfl (Nat.le_of_ble_eq_true rfl) dX12_rollLine_240 (Nat.zero_le _) (Nat.zero_le _) (fun u163 H163 locs163 hp163 hP hS => ?_)
                  obtain ⟨σ163, τ163⟩ := u163
                  obtain ⟨hR, f163, fL163, hp163_0, hp163_1, hp163_2⟩ : P_X12_next σ155 τ33 σ163 τ163 := hp163
                  have hP : va_P D vwCl (gw cA ad σ163 τ163) H163 := hP
                  clear hp33_1
                  have hFL := hFL.step fL163 (by decide)
                  have hF := hF.step f163 (by decide)
                  have gRXp := RXp.fr gRXp (by omega) f163 (by decide)
                  have t164 : (σ163 387 3).toInt = (σ155 387 3).toInt := congrArg Int32.toInt (f163.at 387 3 (by decide))
                  have t165 : (σ163 387 34).toInt = (σ155 387 34).toInt := congrArg Int32.toInt (f163.at 387 34 (by decide))
                  have t166 : (σ163 389 1).toInt = (σ155 389 1).toInt := congrArg Int32.toInt (f163.at 389 1 (by decide))
                  have t167 : (σ163 387 18).toInt = (σ155 387 18).toInt := congrArg Int32.toInt (f163.at 387 18 (by decide))
                  have t168 : (σ163 391 j25).toInt = (σ155 391 j25).toInt := congrArg Int32.toInt (f163.atV 391 j25 (by intro q hq; simp only [L_X12_next, List.mem_cons, List.not_mem_nil, or_false] at hq; rcases hq with rfl | rfl <;> dsimp only <;> omega))
                  have t169 : (σ163 391 j154).toInt = (σ155 391 j154).toInt := congrArg Int32.toInt (f163.atV 391 j154 (by intro q hq; simp only [L_X12_next, List.mem_cons, List.not_mem_nil, or_false] at hq; rcases hq with rfl | rfl <;> dsimp only <;> omega))
                  have hr170 := rg_12_4 hR (k := 387) (by decide) (by decide)
                  refine lv_iload_n hx hb dX12_rollLine_243 rfl (lv_at hl 0 rfl) ?_
                  refine r_iconst hx hb dX12_rollLine_244 (by decide) (fun z171 ez171 => ?_)
                  refine r_icmp_ne (tgt := 261) hx hb dX12_rollLine_245 (by decide) (fun c172 => ?_) (fun c172 => ?_)
                  · refine lv_aload_n hx hb dX12_rollLine_261 rfl (lv_at hl 3 rfl) ?_
                    refine lv_iload_n hx hb dX12_rollLine_262 rfl (lv_at hl 0 rfl) ?_
                    refine r_iconst hx hb dX12_rollLine_263 (by decide) (fun z173 ez173 => ?_)
                    refine r_icmp_ne (tgt := 271) hx hb dX12_rollLine_264 (by decide) (fun c174 => ?_) (fun c174 => ?_)
                    · exfalso; omega
                    · refine r_iconst hx hb dX12_rollLine_267 (by decide) (fun z175 ez175 => ?_)
                      refine lv_goto (tgt := 273) hx hb dX12_rollLine_268 (by decide) ?_
                      refine lv_aload_n hx hb dX12_rollLine_273 rfl (lv_at hl 3 rfl) ?_
                      refine fg_12_6 (k := 387) hx hb hts in_X12_rollLine_12 hown hK hP (by decide) (by decide) (hts _ lk_X12_rollLine_33) dX12_rollLine_274 ?_
                      refine lv_iload_n hx hb dX12_rollLine_277 rfl (lv_at hl 0 rfl) ?_
                      refine r_iconst hx hb dX12_rollLine_278 (by decide) (fun z176 ez176 => ?_)
                      refine r_icmp_ne (tgt := 286) hx hb dX12_rollLine_279 (by decide) (fun c177 => ?_) (fun c177 => ?_)
                      · exfalso; omega
                      · refine r_iconst hx hb dX12_rollLine_282 (by decide) (fun z178 ez178 => ?_)
                        refine lv_goto (tgt := 287) hx hb dX12_rollLine_283 (by decide) ?_
                        refine ad_ms (k := 389) (j := 0) hx hb hK hP (by decide) (by decide) (by omega) (by omega) dX12_rollLine_287 ?_
                        have hr179 := ra_ms_0 hR (k := 389) (j := 0) (by decide) (by decide) (by decide) (by decide)
                        refine r_cVi (k := 387) (As := [.int z175, .int (σ163 389 0)]) (rest := []) ⟨hx, hb, hml, hown, hts⟩ hK hP hN hS (c_X12_takesName l D cA ad hI σ163 τ163 hR z175 (σ163 389 0) (by omega) (by omega)) (cwV 2 hts gX12_rollLine_X12_takesName rfl rfl rfl (by decide +kernel) ⟨by decide, by decide⟩) (rv_M hK hP (by decide) (by decide)) rfl hl.1 rfl (Nat.le_of_ble_eq_true rfl) dX12_rollLine_288 (Nat.zero_le _) (Nat.zero_le _) (fun r180 u180 H180 locs180 hp180 hP hS => ?_)
                        obtain ⟨σ180, τ180⟩ := u180
                        obtain ⟨hR, f180, fL180, hq180, hp180_0, hp180_1, hp180_2, hp180_3⟩ : P_X12_takesName σ163 τ163 z175 (σ163 389 0) r180 σ180 τ180 := hp180
                        have hP : va_P D vwCl (gw cA ad σ180 τ180) H180 := hP
                        clear hp163_1
                        have hFL := hFL.step fL180 (by decide)
                        have hF := hF.step f180 (by decide)
                        have gRXp := RXp.fr gRXp (by omega) f180 (by decide)
                        have t181 : (σ180 387 3).toInt = (σ163 387 3).toInt := congrArg Int32.toInt (f180.at 387 3 (by decide))
                        have t182 : (σ180 387 34).toInt = (σ163 387 34).toInt := congrArg Int32.toInt (f180.at 387 34 (by decide))
                        have t183 : (σ180 389 1).toInt = (σ163 389 1).toInt := congrArg Int32.toInt (f180.at 389 1 (by decide))
                        have t184 : (σ180 391 j25).toInt = (σ163 391 j25).toInt := congrArg Int32.toInt (f180.atV 391 j25 (by intro q hq; simp only [L_X12_takesName, List.mem_cons, List.not_mem_nil, or_false] at hq; rcases hq with rfl | rfl | rfl <;> dsimp only <;> omega))
                        have t185 : (σ180 391 j154).toInt = (σ163 391 j154).toInt := congrArg Int32.toInt (f180.atV 391 j154 (by intro q hq; simp only [L_X12_takesName, List.mem_cons, List.not_mem_nil, or_false] at hq; rcases hq with rfl | rfl | rfl <;> dsimp only <;> omega))
                        have t186 : (σ180 389 0).toInt = (σ163 389 0).toInt := congrArg Int32.toInt (f180.at 389 0 (by decide))
                        have hr187 := rg_12_4 hR (k := 387) (by decide) (by decide)
                        refine r_if_ne (tgt := 296) hx hb dX12_rollLine_291 (by decide) (fun c188 => ?_) (fun c188 => ?_)
                        · replace hp180_1 := hp180_1.resolve_left (by omega)
                          replace hp180_2 := hp180_2.resolve_left (by omega)
                          replace hp180_3 := hp180_3.resolve_left (by omega)
                          refine lv_aload_n hx hb dX12_rollLine_296 rfl (lv_at hl 3 rfl) ?_
                          refine fg_12_8 (k := 387) hx hb hts in_X12_rollLine_12 hown hK hP (by decide) (by decide) (hts _ lk_X12_rollLine_40) dX12_rollLine_297 ?_
                          refine lv_iload_n hx hb dX12_rollLine_300 rfl (lv_at hl 2 rfl) ?_
                          refine r_iconst hx hb dX12_rollLine_301 (by decide) (fun z189 ez189 => ?_)
                          refine r_iadd hx hb dX12_rollLine_302 (by omega) (fun z190 ez190 => ?_)
                          refine lv_aload_n hx hb dX12_rollLine_303 rfl (lv_at hl 3 rfl) ?_
                          refine fg_12_18 (k := 387) hx hb hts in_X12_rollLine_12 hown hK hP (by decide) (by decide) (hts _ lk_X12_rollLine_195) dX12_rollLine_304 ?_
                          obtain ⟨j191, ej191⟩ : ∃ j : Nat, z190.toInt = (j : Int) := ⟨_, ti_nat (by omega)⟩
                          refine as_mread (k := 391) (j := j191) hx hb hK hP hI hR hS (by decide) (by decide) ej191 (by omega) dX12_rollLine_307 (fun σ192 H192 locs192 u192 v192 hR hP hS => ?_)
                          have hF := hF.puts u192 3 rfl (by decide) (by decide) (by omega) (by omega)
                          have gRXp := RXp.st gRXp u192 (by omega)
                          have t193 : (σ192 387 3).toInt = (σ180 387 3).toInt := congrArg Int32.toInt (u192 387 3 (by omega))
                          have t194 : (σ192 387 34).toInt = (σ180 387 34).toInt := congrArg Int32.toInt (u192 387 34 (by omega))
                          have t195 : (σ192 389 1).toInt = (σ180 389 1).toInt := congrArg Int32.toInt (u192 389 1 (by omega))
                          have t196 : (σ192 391 j25).toInt = (σ180 391 j25).toInt := congrArg Int32.toInt (u192 391 j25 (by omega))
                          have t197 : (σ192 391 j154).toInt = (σ180 391 j154).toInt := congrArg Int32.toInt (u192 391 j154 (by omega))
                          have t198 : (σ192 389 0).toInt = (σ180 389 0).toInt := congrArg Int32.toInt (u192 389 0 (by omega))
                          have t199 : (σ192 387 4).toInt = (σ180 387 4).toInt := congrArg Int32.toInt (u192 387 4 (by omega))
                          have t200 : (σ192 387 11).toInt = (σ180 387 11).toInt := congrArg Int32.toInt (u192 387 11 (by omega))
                          have t201 : (σ192 387 18).toInt = (σ180 387 18).toInt := congrArg Int32.toInt (u192 387 18 (by omega))
                          refine r_iconst hx hb dX12_rollLine_308 (by decide) (fun z202 ez202 => ?_)
                          exact r_zret hx hb hr hK hP hS hk (by omega) dX12_rollLine_309 (show P_X12_rollLine σ0 τ0 z202 σ192 τ180 from ⟨hR, hF, hFL, by omega, by omega, by omega, by first | exact Or.inl (by omega) | exact Or.inr ⟨by omega, gRXp, fun t ht => OKL.of_w (j := j154) (by omega) (by omega)⟩ | exact Or.inr ⟨by omega, gRXp, fun t ht => OKL.of3 (j1 := j154) (j2 := j25) (j3 := j191) (by omega) (by omega) (by omega) (by omega) (by omega) (by omega)⟩⟩)
                        · clear hp180_1 hp180_2 hp180_3
                          refine r_iconst hx hb dX12_rollLine_294 (by decide) (fun z203 ez203 => ?_)
                          exact r_zret hx hb hr hK hP hS hk (by omega) dX12_rollLine_295 (show P_X12_rollLine σ0 τ0 z203 σ180 τ180 from ⟨hR, hF, hFL, by omega, by omega, by omega, by first | exact Or.inl (by omega) | exact Or.inr ⟨by omega, gRXp, fun t ht => OKL.of_w (j := j154) (by omega) (by omega)⟩ | exact Or.inr ⟨by omega, gRXp, fun t ht => OKL.of3 (j1 := j154) (j2 := j25) (j3 := 0) (by omega) (by omega) (by omega) (by omega) (by omega) (by omega)⟩⟩)
                  · exfalso; omega
                · exfalso; omega
            · refine lv_aload_n hx hb dX12_rollLine_156 rfl (lv_at hl 2 rfl) ?_
              refine r_iconst hx hb dX12_rollLine_157 (by decide) (fun z204 ez204 => ?_)
              refine r_cVi (k := 387) (As := [.int z204]) (rest := []) ⟨hx, hb, hml, hown, hts⟩ hK hP hN hS (c_X12_bad l D cA ad hI σ14 τ0 hR z204 (by omega)) (cwV 1 hts gX12_rollLine_X12_bad rfl rfl rfl (by decide +kernel) ⟨by decide, by decide⟩) (rv_M hK hP (by decide) (by decide)) rfl hl.1 rfl (Nat.le_of_ble_eq_true rfl) dX12_rollLine_158 (Nat.zero_le _) (Nat.zero_le _) (fun r205 u205 H205 locs205 hp205 hP hS => ?_)
              obtain ⟨σ205, τ205⟩ := u205
              obtain ⟨hR, f205, fL205, hq205⟩ : P_X12_bad σ14 τ0 z204 r205 σ205 τ205 := hp205
              have hP : va_P D vwCl (gw cA ad σ205 τ205) H205 := hP
              obtain rfl := FrL.nil fL205
              have hF := hF.step f205 (by decide)
              have gRXp := RXp.fr gRXp (by omega) f205 (by decide)
              have t206 : (σ205 387 4).toInt = (σ14 387 4).toInt := congrArg Int32.toInt (f205.at 387 4 (by decide))
              have t207 : (σ205 387 3).toInt = (σ14 387 3).toInt := congrArg Int32.toInt (f205.at 387 3 (by decide))
              have t208 : (σ205 387 11).toInt = (σ14 387 11).toInt := congrArg Int32.toInt (f205.at 387 11 (by decide))
              have t209 : (σ205 387 34).toInt = (σ14 387 34).toInt := congrArg Int32.toInt (f205.at 387 34 (by decide))
              have t210 : (σ205 389 1).toInt = (σ14 389 1).toInt := congrArg Int32.toInt (f205.at 389 1 (by decide))
              have t211 : (σ205 387 18).toInt = (σ14 387 18).toInt := congrArg Int32.toInt (f205.at 387 18 (by decide))
              exact r_zret hx hb hr hK hP hS hk (by omega) dX12_rollLine_161 (show P_X12_rollLine σ0 τ0 r205 σ205 τ0 from ⟨hR, hF, hFL, by omega, by omega, by omega, by first | exact Or.inl (by omega) | exact Or.inr ⟨by omega, gRXp, fun t ht => OKL.of_w (j := 0) (by omega) (by omega)⟩ | exact Or.inr ⟨by omega, gRXp, fun t ht => OKL.of3 (j1 := 0) (j2 := 0) (j3 := 0) (by omega) (by omega) (by omega) (by omega) (by omega) (by omega)⟩⟩)
          · clear hp14_0 hp14_1
            refine r_iconst hx hb dX12_rollLine_145 (by decide) (fun z212 ez212 => ?_)
            exact r_zret hx hb hr hK hP hS hk (by omega) dX12_rollLine_146 (show P_X12_rollLine σ0 τ0 z212 σ14 τ0 from ⟨hR, hF, hFL, by omega, by omega, by omega, by first | exact Or.inl (by omega) | exact Or.inr ⟨by omega, gRXp, fun t ht => OKL.of_w (j := 0) (by omega) (by omega)⟩ | exact Or.inr ⟨by omega, gRXp, fun t ht => OKL.of3 (j1 := 0) (j2 := 0) (j3 := 0) (by omega) (by omega) (by omega) (by omega) (by omega) (by omega)⟩⟩)
        · exfalso; omega
      · replace hp7_0 := hp7_0.resolve_left (by omega)
        refine r_iconst hx hb dX12_rollLine_45 (by decide) (fun z213 ez213 => ?_)
        refine lv_goto (tgt := 50) hx hb dX12_rollLine_46 (by decide) ?_
        refine lv_istore_n (lv' := [(2, .int z213), (1, .int z2), (0, .ref (ad 387))]) hx hb dX12_rollLine_50 rfl hl (by decide) rfl (fun ls hl => ?_)
        refine lv_iload_n hx hb dX12_rollLine_51 rfl (lv_at hl 0 rfl) ?_
        refine r_if_lt (tgt := 130) hx hb dX12_rollLine_52 (by decide) (fun c214 => ?_) (fun c214 => ?_)
        · exfalso; omega
        · refine lv_aload_n hx hb dX12_rollLine_55 rfl (lv_at hl 2 rfl) ?_
          refine fg_12_34 (k := 387) hx hb hts in_X12_rollLine_12 hown hK hP (by decide) (by decide) (hts _ lk_X12_rollLine_416) dX12_rollLine_56 ?_
          refine r_bipush hx hb dX12_rollLine_59 (by decide) (fun z215 ez215 => ?_)
          refine r_icmp_ne (tgt := 70) hx hb dX12_rollLine_61 (by decide) (fun c216 => ?_) (fun c216 => ?_)
          · refine lv_aload_n hx hb dX12_rollLine_70 rfl (lv_at hl 2 rfl) ?_
            refine fg_12_8 (k := 387) hx hb hts in_X12_rollLine_12 hown hK hP (by decide) (by decide) (hts _ lk_X12_rollLine_40) dX12_rollLine_71 ?_
            refine lv_iload_n hx hb dX12_rollLine_74 rfl (lv_at hl 1 rfl) ?_
            refine lv_iload_n hx hb dX12_rollLine_75 rfl (lv_at hl 0 rfl) ?_
            obtain ⟨j217, ej217⟩ : ∃ j : Nat, z2.toInt = (j : Int) := ⟨_, ti_nat (by omega)⟩
            refine as_mread (k := 391) (j := j217) hx hb hK hP hI hR hS (by decide) (by decide) ej217 (by omega) dX12_rollLine_76 (fun σ218 H218 locs218 u218 v218 hR hP hS => ?_)
            have hF := hF.puts u218 3 rfl (by decide) (by decide) (by omega) (by omega)
            have gRXp := RXp.st gRXp u218 (by omega)
            have t219 : (σ218 387 4).toInt = (σ0 387 4).toInt := congrArg Int32.toInt (u218 387 4 (by omega))
            have t220 : (σ218 387 3).toInt = (σ0 387 3).toInt := congrArg Int32.toInt (u218 387 3 (by omega))
            have t221 : (σ218 387 11).toInt = (σ0 387 11).toInt := congrArg Int32.toInt (u218 387 11 (by omega))
            have t222 : (σ218 387 18).toInt = (σ0 387 18).toInt := congrArg Int32.toInt (u218 387 18 (by omega))
            have t223 : (σ218 387 34).toInt = (σ0 387 34).toInt := congrArg Int32.toInt (u218 387 34 (by omega))
            refine lv_aload_n hx hb dX12_rollLine_77 rfl (lv_at hl 2 rfl) ?_
            refine r_cVv (k := 387) (As := []) (rest := []) ⟨hx, hb, hml, hown, hts⟩ hK hP hN hS (c_X12_next l D cA ad hI σ218 τ0 hR) (cwV 0 hts gX12_rollLine_X12_next rfl rfl rfl (by decide +kernel) ⟨by decide, by decide⟩) (rv_M hK hP (by decide) (by decide)) rfl hl.1 rfl (Nat.le_of_ble_eq_true rfl) dX12_rollLine_78 (Nat.zero_le _) (Nat.zero_le _) (fun u224 H224 locs224 hp224 hP hS => ?_)
            obtain ⟨σ224, τ224⟩ := u224
            obtain ⟨hR, f224, fL224, hp224_0, hp224_1, hp224_2⟩ : P_X12_next σ218 τ0 σ224 τ224 := hp224
            have hP : va_P D vwCl (gw cA ad σ224 τ224) H224 := hP
            have hFL := hFL.step fL224 (by decide)
            have hF := hF.step f224 (by decide)
            have gRXp := RXp.fr gRXp (by omega) f224 (by decide)
            have t225 : (σ224 387 3).toInt = (σ218 387 3).toInt := congrArg Int32.toInt (f224.at 387 3 (by decide))
            have t226 : (σ224 387 18).toInt = (σ218 387 18).toInt := congrArg Int32.toInt (f224.at 387 18 (by decide))
            have t227 : (σ224 387 34).toInt = (σ218 387 34).toInt := congrArg Int32.toInt (f224.at 387 34 (by decide))
            have t228 : (σ224 391 j217).toInt = (σ218 391 j217).toInt := congrArg Int32.toInt (f224.atV 391 j217 (by intro q hq; simp only [L_X12_next, List.mem_cons, List.not_mem_nil, or_false] at hq; rcases hq with rfl | rfl <;> dsimp only <;> omega))
            have hr229 := rg_12_4 hR (k := 387) (by decide) (by decide)
            refine lv_iload_n hx hb dX12_rollLine_81 rfl (lv_at hl 0 rfl) ?_
            refine r_iconst hx hb dX12_rollLine_82 (by decide) (fun z230 ez230 => ?_)
            refine r_icmp_ne (tgt := 88) hx hb dX12_rollLine_83 (by decide) (fun c231 => ?_) (fun c231 => ?_)
            · refine lv_aload_n hx hb dX12_rollLine_88 rfl (lv_at hl 2 rfl) ?_
              refine lv_iload_n hx hb dX12_rollLine_89 rfl (lv_at hl 0 rfl) ?_
              refine r_if_ne (tgt := 97) hx hb dX12_rollLine_90 (by decide) (fun c232 => ?_) (fun c232 => ?_)
              · refine r_iconst hx hb dX12_rollLine_97 (by decide) (fun z233 ez233 => ?_)
                refine lv_iload_n hx hb dX12_rollLine_98 rfl (lv_at hl 0 rfl) ?_
                refine r_if_ne (tgt := 106) hx hb dX12_rollLine_99 (by decide) (fun c234 => ?_) (fun c234 => ?_)
                · refine r_bipush hx hb dX12_rollLine_106 (by decide) (fun z235 ez235 => ?_)
                  refine r_cVi (k := 387) (As := [.int z233, .int z235]) (rest := []) ⟨hx, hb, hml, hown, hts⟩ hK hP hN hS (c_X12_takes l D cA ad hI σ224 τ224 hR z233 z235 (by omega) (by omega)) (cwV 2 hts gX12_rollLine_X12_takes rfl rfl rfl (by decide +kernel) ⟨by decide, by decide⟩) (rv_M hK hP (by decide) (by decide)) rfl hl.1 rfl (Nat.le_of_ble_eq_true rfl) dX12_rollLine_108 (Nat.zero_le _) (Nat.zero_le _) (fun r236 u236 H236 locs236 hp236 hP hS => ?_)
                  obtain ⟨σ236, τ236⟩ := u236
                  obtain ⟨hR, f236, fL236, hq236, hp236_0, hp236_1, hp236_2⟩ : P_X12_takes σ224 τ224 z233 z235 r236 σ236 τ236 := hp236
                  have hP : va_P D vwCl (gw cA ad σ236 τ236) H236 := hP
                  clear hp224_1
                  have hFL := hFL.step fL236 (by decide)
                  have hF := hF.step f236 (by decide)
                  have gRXp := RXp.fr gRXp (by omega) f236 (by decide)
                  have t237 : (σ236 387 3).toInt = (σ224 387 3).toInt := congrArg Int32.toInt (f236.at 387 3 (by decide))
                  have t238 : (σ236 387 34).toInt = (σ224 387 34).toInt := congrArg Int32.toInt (f236.at 387 34 (by decide))
                  have t239 : (σ236 391 j217).toInt = (σ224 391 j217).toInt := congrArg Int32.toInt (f236.atV 391 j217 (by intro q hq; simp only [L_X12_takes, List.mem_cons, List.not_mem_nil, or_false] at hq; rcases hq with rfl | rfl | rfl <;> dsimp only <;> omega))
                  have hr240 := rg_12_4 hR (k := 387) (by decide) (by decide)
                  refine r_if_ne (tgt := 116) hx hb dX12_rollLine_111 (by decide) (fun c241 => ?_) (fun c241 => ?_)
                  · replace hp236_1 := hp236_1.resolve_left (by omega)
                    replace hp236_2 := hp236_2.resolve_left (by omega)
                    refine lv_aload_n hx hb dX12_rollLine_116 rfl (lv_at hl 2 rfl) ?_
                    refine fg_12_8 (k := 387) hx hb hts in_X12_rollLine_12 hown hK hP (by decide) (by decide) (hts _ lk_X12_rollLine_40) dX12_rollLine_117 ?_
                    refine lv_iload_n hx hb dX12_rollLine_120 rfl (lv_at hl 1 rfl) ?_
                    refine r_iconst hx hb dX12_rollLine_121 (by decide) (fun z242 ez242 => ?_)
                    refine r_iadd hx hb dX12_rollLine_122 (by omega) (fun z243 ez243 => ?_)
                    refine lv_aload_n hx hb dX12_rollLine_123 rfl (lv_at hl 2 rfl) ?_
                    refine fg_12_18 (k := 387) hx hb hts in_X12_rollLine_12 hown hK hP (by decide) (by decide) (hts _ lk_X12_rollLine_195) dX12_rollLine_124 ?_
                    obtain ⟨j244, ej244⟩ : ∃ j : Nat, z243.toInt = (j : Int) := ⟨_, ti_nat (by omega)⟩
                    refine as_mread (k := 391) (j := j244) hx hb hK hP hI hR hS (by decide) (by decide) ej244 (by omega) dX12_rollLine_127 (fun σ245 H245 locs245 u245 v245 hR hP hS => ?_)
                    have hF := hF.puts u245 3 rfl (by decide) (by decide) (by omega) (by omega)
                    have gRXp := RXp.st gRXp u245 (by omega)
                    have t246 : (σ245 387 3).toInt = (σ236 387 3).toInt := congrArg Int32.toInt (u245 387 3 (by omega))
                    have t247 : (σ245 387 34).toInt = (σ236 387 34).toInt := congrArg Int32.toInt (u245 387 34 (by omega))
                    have t248 : (σ245 391 j217).toInt = (σ236 391 j217).toInt := congrArg Int32.toInt (u245 391 j217 (by omega))
                    have t249 : (σ245 387 4).toInt = (σ236 387 4).toInt := congrArg Int32.toInt (u245 387 4 (by omega))
                    have t250 : (σ245 387 11).toInt = (σ236 387 11).toInt := congrArg Int32.toInt (u245 387 11 (by omega))
                    have t251 : (σ245 387 18).toInt = (σ236 387 18).toInt := congrArg Int32.toInt (u245 387 18 (by omega))
                    refine r_iconst hx hb dX12_rollLine_128 (by decide) (fun z252 ez252 => ?_)
                    exact r_zret hx hb hr hK hP hS hk (by omega) dX12_rollLine_129 (show P_X12_rollLine σ0 τ0 z252 σ245 τ236 from ⟨hR, hF, hFL, by omega, by omega, by omega, by first | exact Or.inl (by omega) | exact Or.inr ⟨by omega, gRXp, fun t ht => OKL.of_w (j := j217) (by omega) (by omega)⟩ | exact Or.inr ⟨by omega, gRXp, fun t ht => OKL.of3 (j1 := j217) (j2 := j244) (j3 := 0) (by omega) (by omega) (by omega) (by omega) (by omega) (by omega)⟩⟩)
                  · clear hp236_1 hp236_2
                    refine r_iconst hx hb dX12_rollLine_114 (by decide) (fun z253 ez253 => ?_)
                    exact r_zret hx hb hr hK hP hS hk (by omega) dX12_rollLine_115 (show P_X12_rollLine σ0 τ0 z253 σ236 τ236 from ⟨hR, hF, hFL, by omega, by omega, by omega, by first | exact Or.inl (by omega) | exact Or.inr ⟨by omega, gRXp, fun t ht => OKL.of_w (j := j217) (by omega) (by omega)⟩ | exact Or.inr ⟨by omega, gRXp, fun t ht => OKL.of3 (j1 := j217) (j2 := 0) (j3 := 0) (by omega) (by omega) (by omega) (by omega) (by omega) (by omega)⟩⟩)
                · exfalso; omega
              · exfalso; omega
            · exfalso; omega
          · refine lv_aload_n hx hb dX12_rollLine_64 rfl (lv_at hl 2 rfl) ?_
            refine r_iconst hx hb dX12_rollLine_65 (by decide) (fun z254 ez254 => ?_)
            refine r_cVi (k := 387) (As := [.int z254]) (rest := []) ⟨hx, hb, hml, hown, hts⟩ hK hP hN hS (c_X12_bad l D cA ad hI σ0 τ0 hR z254 (by omega)) (cwV 1 hts gX12_rollLine_X12_bad rfl rfl rfl (by decide +kernel) ⟨by decide, by decide⟩) (rv_M hK hP (by decide) (by decide)) rfl hl.1 rfl (Nat.le_of_ble_eq_true rfl) dX12_rollLine_66 (Nat.zero_le _) (Nat.zero_le _) (fun r255 u255 H255 locs255 hp255 hP hS => ?_)
            obtain ⟨σ255, τ255⟩ := u255
            obtain ⟨hR, f255, fL255, hq255⟩ : P_X12_bad σ0 τ0 z254 r255 σ255 τ255 := hp255
            have hP : va_P D vwCl (gw cA ad σ255 τ255) H255 := hP
            obtain rfl := FrL.nil fL255
            have hF := hF.step f255 (by decide)
            have gRXp := RXp.fr gRXp (by omega) f255 (by decide)
            have t256 : (σ255 387 4).toInt = (σ0 387 4).toInt := congrArg Int32.toInt (f255.at 387 4 (by decide))
            have t257 : (σ255 387 3).toInt = (σ0 387 3).toInt := congrArg Int32.toInt (f255.at 387 3 (by decide))
            have t258 : (σ255 387 11).toInt = (σ0 387 11).toInt := congrArg Int32.toInt (f255.at 387 11 (by decide))
            have t259 : (σ255 387 18).toInt = (σ0 387 18).toInt := congrArg Int32.toInt (f255.at 387 18 (by decide))
            have t260 : (σ255 387 34).toInt = (σ0 387 34).toInt := congrArg Int32.toInt (f255.at 387 34 (by decide))
            exact r_zret hx hb hr hK hP hS hk (by omega) dX12_rollLine_69 (show P_X12_rollLine σ0 τ0 r255 σ255 τ0 from ⟨hR, hF, hFL, by omega, by omega, by omega, by first | exact Or.inl (by omega) | exact Or.inr ⟨by omega, gRXp, fun t ht => OKL.of_w (j := 0) (by omega) (by omega)⟩ | exact Or.inr ⟨by omega, gRXp, fun t ht => OKL.of3 (j1 := 0) (j2 := 0) (j3 := 0) (by omega) (by omega) (by omega) (by omega) (by omega) (by omega)⟩⟩)
    · replace hp5_0 := hp5_0.resolve_left (by omega)
      refine r_iconst hx hb dX12_rollLine_31 (by decide) (fun z261 ez261 => ?_)
      refine lv_goto (tgt := 50) hx hb dX12_rollLine_32 (by decide) ?_
      refine lv_istore_n (lv' := [(2, .int z261), (1, .int z2), (0, .ref (ad 387))]) hx hb dX12_rollLine_50 rfl hl (by decide) rfl (fun ls hl => ?_)
      refine lv_iload_n hx hb dX12_rollLine_51 rfl (lv_at hl 0 rfl) ?_
      refine r_if_lt (tgt := 130) hx hb dX12_rollLine_52 (by decide) (fun c262 => ?_) (fun c262 => ?_)
      · exfalso; omega
      · refine lv_aload_n hx hb dX12_rollLine_55 rfl (lv_at hl 2 rfl) ?_
        refine fg_12_34 (k := 387) hx hb hts in_X12_rollLine_12 hown hK hP (by decide) (by decide) (hts _ lk_X12_rollLine_416) dX12_rollLine_56 ?_
        refine r_bipush hx hb dX12_rollLine_59 (by decide) (fun z263 ez263 => ?_)
        refine r_icmp_ne (tgt := 70) hx hb dX12_rollLine_61 (by decide) (fun c264 => ?_) (fun c264 => ?_)
        · refine lv_aload_n hx hb dX12_rollLine_70 rfl (lv_at hl 2 rfl) ?_
          refine fg_12_8 (k := 387) hx hb hts in_X12_rollLine_12 hown hK hP (by decide) (by decide) (hts _ lk_X12_rollLine_40) dX12_rollLine_71 ?_
          refine lv_iload_n hx hb dX12_rollLine_74 rfl (lv_at hl 1 rfl) ?_
          refine lv_iload_n hx hb dX12_rollLine_75 rfl (lv_at hl 0 rfl) ?_
          obtain ⟨j265, ej265⟩ : ∃ j : Nat, z2.toInt = (j : Int) := ⟨_, ti_nat (by omega)⟩
          refine as_mread (k := 391) (j := j265) hx hb hK hP hI hR hS (by decide) (by decide) ej265 (by omega) dX12_rollLine_76 (fun σ266 H266 locs266 u266 v266 hR hP hS => ?_)
          have hF := hF.puts u266 3 rfl (by decide) (by decide) (by omega) (by omega)
          have gRXp := RXp.st gRXp u266 (by omega)
          have t267 : (σ266 387 4).toInt = (σ0 387 4).toInt := congrArg Int32.toInt (u266 387 4 (by omega))
          have t268 : (σ266 387 3).toInt = (σ0 387 3).toInt := congrArg Int32.toInt (u266 387 3 (by omega))
          have t269 : (σ266 387 11).toInt = (σ0 387 11).toInt := congrArg Int32.toInt (u266 387 11 (by omega))
          have t270 : (σ266 387 18).toInt = (σ0 387 18).toInt := congrArg Int32.toInt (u266 387 18 (by omega))
          have t271 : (σ266 387 34).toInt = (σ0 387 34).toInt := congrArg Int32.toInt (u266 387 34 (by omega))
          refine lv_aload_n hx hb dX12_rollLine_77 rfl (lv_at hl 2 rfl) ?_
          refine r_cVv (k := 387) (As := []) (rest := []) ⟨hx, hb, hml, hown, hts⟩ hK hP hN hS (c_X12_next l D cA ad hI σ266 τ0 hR) (cwV 0 hts gX12_rollLine_X12_next rfl rfl rfl (by decide +kernel) ⟨by decide, by decide⟩) (rv_M hK hP (by decide) (by decide)) rfl hl.1 rfl (Nat.le_of_ble_eq_true rfl) dX12_rollLine_78 (Nat.zero_le _) (Nat.zero_le _) (fun u272 H272 locs272 hp272 hP hS => ?_)
          obtain ⟨σ272, τ272⟩ := u272
          obtain ⟨hR, f272, fL272, hp272_0, hp272_1, hp272_2⟩ : P_X12_next σ266 τ0 σ272 τ272 := hp272
          have hP : va_P D vwCl (gw cA ad σ272 τ272) H272 := hP
          have hFL := hFL.step fL272 (by decide)
          have hF := hF.step f272 (by decide)
          have gRXp := RXp.fr gRXp (by omega) f272 (by decide)
          have t273 : (σ272 387 3).toInt = (σ266 387 3).toInt := congrArg Int32.toInt (f272.at 387 3 (by decide))
          have t274 : (σ272 387 18).toInt = (σ266 387 18).toInt := congrArg Int32.toInt (f272.at 387 18 (by decide))
          have t275 : (σ272 387 34).toInt = (σ266 387 34).toInt := congrArg Int32.toInt (f272.at 387 34 (by decide))
          have t276 : (σ272 391 j265).toInt = (σ266 391 j265).toInt := congrArg Int32.toInt (f272.atV 391 j265 (by intro q hq; simp only [L_X12_next, List.mem_cons, List.not_mem_nil, or_false] at hq; rcases hq with rfl | rfl <;> dsimp only <;> omega))
          have hr277 := rg_12_4 hR (k := 387) (by decide) (by decide)
          refine lv_iload_n hx hb dX12_rollLine_81 rfl (lv_at hl 0 rfl) ?_
          refine r_iconst hx hb dX12_rollLine_82 (by decide) (fun z278 ez278 => ?_)
          refine r_icmp_ne (tgt := 88) hx hb dX12_rollLine_83 (by decide) (fun c279 => ?_) (fun c279 => ?_)
          · exfalso; omega
          · refine r_iconst hx hb dX12_rollLine_86 (by decide) (fun z280 ez280 => ?_)
            exact r_zret hx hb hr hK hP hS hk (by omega) dX12_rollLine_87 (show P_X12_rollLine σ0 τ0 z280 σ272 τ272 from ⟨hR, hF, hFL, by omega, by omega, by omega, by first | exact Or.inl (by omega) | exact Or.inr ⟨by omega, gRXp, fun t ht => OKL.of_w (j := j265) (by omega) (by omega)⟩ | exact Or.inr ⟨by omega, gRXp, fun t ht => OKL.of3 (j1 := j265) (j2 := 0) (j3 := 0) (by omega) (by omega) (by omega) (by omega) (by omega) (by omega)⟩⟩)
        · refine lv_aload_n hx hb dX12_rollLine_64 rfl (lv_at hl 2 rfl) ?_
          refine r_iconst hx hb dX12_rollLine_65 (by decide) (fun z281 ez281 => ?_)
          refine r_cVi (k := 387) (As := [.int z281]) (rest := []) ⟨hx, hb, hml, hown, hts⟩ hK hP hN hS (c_X12_bad l D cA ad hI σ0 τ0 hR z281 (by omega)) (cwV 1 hts gX12_rollLine_X12_bad rfl rfl rfl (by decide +kernel) ⟨by decide, by decide⟩) (rv_M hK hP (by decide) (by decide)) rfl hl.1 rfl (Nat.le_of_ble_eq_true rfl) dX12_rollLine_66 (Nat.zero_le _) (Nat.zero_le _) (fun r282 u282 H282 locs282 hp282 hP hS => ?_)
          obtain ⟨σ282, τ282⟩ := u282
          obtain ⟨hR, f282, fL282, hq282⟩ : P_X12_bad σ0 τ0 z281 r282 σ282 τ282 := hp282
          have hP : va_P D vwCl (gw cA ad σ282 τ282) H282 := hP
          obtain rfl := FrL.nil fL282
          have hF := hF.step f282 (by decide)
          have gRXp := RXp.fr gRXp (by omega) f282 (by decide)
          have t283 : (σ282 387 4).toInt = (σ0 387 4).toInt := congrArg Int32.toInt (f282.at 387 4 (by decide))
          have t284 : (σ282 387 3).toInt = (σ0 387 3).toInt := congrArg Int32.toInt (f282.at 387 3 (by decide))
          have t285 : (σ282 387 11).toInt = (σ0 387 11).toInt := congrArg Int32.toInt (f282.at 387 11 (by decide))
          have t286 : (σ282 387 18).toInt = (σ0 387 18).toInt := congrArg Int32.toInt (f282.at 387 18 (by decide))
          have t287 : (σ282 387 34).toInt = (σ0 387 34).toInt := congrArg Int32.toInt (f282.at 387 34 (by decide))
          exact r_zret hx hb hr hK hP hS hk (by omega) dX12_rollLine_69 (show P_X12_rollLine σ0 τ0 r282 σ282 τ0 from ⟨hR, hF, hFL, by omega, by omega, by omega, by first | exact Or.inl (by omega) | exact Or.inr ⟨by omega, gRXp, fun t ht => OKL.of_w (j := 0) (by omega) (by omega)⟩ | exact Or.inr ⟨by omega, gRXp, fun t ht => OKL.of3 (j1 := 0) (j2 := 0) (j3 := 0) (by omega) (by omega) (by omega) (by omega) (by omega) (by omega)⟩⟩)
  · replace hp3_0 := hp3_0.resolve_left (by omega)
    refine r_iconst hx hb dX12_rollLine_17 (by decide) (fun z288 ez288 => ?_)
    refine lv_goto (tgt := 50) hx hb dX12_rollLine_18 (by decide) ?_
    refine lv_istore_n (lv' := [(2, .int z288), (1, .int z2), (0, .ref (ad 387))]) hx hb dX12_rollLine_50 rfl hl (by decide) rfl (fun ls hl => ?_)
    refine lv_iload_n hx hb dX12_rollLine_51 rfl (lv_at hl 0 rfl) ?_
    refine r_if_lt (tgt := 130) hx hb dX12_rollLine_52 (by decide) (fun c289 => ?_) (fun c289 => ?_)
    · exfalso; omega
    · refine lv_aload_n hx hb dX12_rollLine_55 rfl (lv_at hl 2 rfl) ?_
      refine fg_12_34 (k := 387) hx hb hts in_X12_rollLine_12 hown hK hP (by decide) (by decide) (hts _ lk_X12_rollLine_416) dX12_rollLine_56 ?_
      refine r_bipush hx hb dX12_rollLine_59 (by decide) (fun z290 ez290 => ?_)
      refine r_icmp_ne (tgt := 70) hx hb dX12_rollLine_61 (by decide) (fun c291 => ?_) (fun c291 => ?_)
      · refine lv_aload_n hx hb dX12_rollLine_70 rfl (lv_at hl 2 rfl) ?_
        refine fg_12_8 (k := 387) hx hb hts in_X12_rollLine_12 hown hK hP (by decide) (by decide) (hts _ lk_X12_rollLine_40) dX12_rollLine_71 ?_
        refine lv_iload_n hx hb dX12_rollLine_74 rfl (lv_at hl 1 rfl) ?_
        refine lv_iload_n hx hb dX12_rollLine_75 rfl (lv_at hl 0 rfl) ?_
        obtain ⟨j292, ej292⟩ : ∃ j : Nat, z2.toInt = (j : Int) := ⟨_, ti_nat (by omega)⟩
        refine as_mread (k := 391) (j := j292) hx hb hK hP hI hR hS (by decide) (by decide) ej292 (by omega) dX12_rollLine_76 (fun σ293 H293 locs293 u293 v293 hR hP hS => ?_)
        have hF := hF.puts u293 3 rfl (by decide) (by decide) (by omega) (by omega)
        have gRXp := RXp.st gRXp u293 (by omega)
        have t294 : (σ293 387 4).toInt = (σ0 387 4).toInt := congrArg Int32.toInt (u293 387 4 (by omega))
        have t295 : (σ293 387 3).toInt = (σ0 387 3).toInt := congrArg Int32.toInt (u293 387 3 (by omega))
        have t296 : (σ293 387 11).toInt = (σ0 387 11).toInt := congrArg Int32.toInt (u293 387 11 (by omega))
        have t297 : (σ293 387 18).toInt = (σ0 387 18).toInt := congrArg Int32.toInt (u293 387 18 (by omega))
        have t298 : (σ293 387 34).toInt = (σ0 387 34).toInt := congrArg Int32.toInt (u293 387 34 (by omega))
        refine lv_aload_n hx hb dX12_rollLine_77 rfl (lv_at hl 2 rfl) ?_
        refine r_cVv (k := 387) (As := []) (rest := []) ⟨hx, hb, hml, hown, hts⟩ hK hP hN hS (c_X12_next l D cA ad hI σ293 τ0 hR) (cwV 0 hts gX12_rollLine_X12_next rfl rfl rfl (by decide +kernel) ⟨by decide, by decide⟩) (rv_M hK hP (by decide) (by decide)) rfl hl.1 rfl (Nat.le_of_ble_eq_true rfl) dX12_rollLine_78 (Nat.zero_le _) (Nat.zero_le _) (fun u299 H299 locs299 hp299 hP hS => ?_)
        obtain ⟨σ299, τ299⟩ := u299
        obtain ⟨hR, f299, fL299, hp299_0, hp299_1, hp299_2⟩ : P_X12_next σ293 τ0 σ299 τ299 := hp299
        have hP : va_P D vwCl (gw cA ad σ299 τ299) H299 := hP
        have hFL := hFL.step fL299 (by decide)
        have hF := hF.step f299 (by decide)
        have gRXp := RXp.fr gRXp (by omega) f299 (by decide)
        have t300 : (σ299 387 3).toInt = (σ293 387 3).toInt := congrArg Int32.toInt (f299.at 387 3 (by decide))
        have t301 : (σ299 387 18).toInt = (σ293 387 18).toInt := congrArg Int32.toInt (f299.at 387 18 (by decide))
        have t302 : (σ299 387 34).toInt = (σ293 387 34).toInt := congrArg Int32.toInt (f299.at 387 34 (by decide))
        have t303 : (σ299 391 j292).toInt = (σ293 391 j292).toInt := congrArg Int32.toInt (f299.atV 391 j292 (by intro q hq; simp only [L_X12_next, List.mem_cons, List.not_mem_nil, or_false] at hq; rcases hq with rfl | rfl <;> dsimp only <;> omega))
        have hr304 := rg_12_4 hR (k := 387) (by decide) (by decide)
        refine lv_iload_n hx hb dX12_rollLine_81 rfl (lv_at hl 0 rfl) ?_
        refine r_iconst hx hb dX12_rollLine_82 (by decide) (fun z305 ez305 => ?_)
        refine r_icmp_ne (tgt := 88) hx hb dX12_rollLine_83 (by decide) (fun c306 => ?_) (fun c306 => ?_)
        · refine lv_aload_n hx hb dX12_rollLine_88 rfl (lv_at hl 2 rfl) ?_
          refine lv_iload_n hx hb dX12_rollLine_89 rfl (lv_at hl 0 rfl) ?_
          refine r_if_ne (tgt := 97) hx hb dX12_rollLine_90 (by decide) (fun c307 => ?_) (fun c307 => ?_)
          · exfalso; omega
          · refine r_iconst hx hb dX12_rollLine_93 (by decide) (fun z308 ez308 => ?_)
            refine lv_goto (tgt := 98) hx hb dX12_rollLine_94 (by decide) ?_
            refine lv_iload_n hx hb dX12_rollLine_98 rfl (lv_at hl 0 rfl) ?_
            refine r_if_ne (tgt := 106) hx hb dX12_rollLine_99 (by decide) (fun c309 => ?_) (fun c309 => ?_)
            · exfalso; omega
            · refine r_iconst hx hb dX12_rollLine_102 (by decide) (fun z310 ez310 => ?_)
              refine lv_goto (tgt := 108) hx hb dX12_rollLine_103 (by decide) ?_
              refine r_cVi (k := 387) (As := [.int z308, .int z310]) (rest := []) ⟨hx, hb, hml, hown, hts⟩ hK hP hN hS (c_X12_takes l D cA ad hI σ299 τ299 hR z308 z310 (by omega) (by omega)) (cwV 2 hts gX12_rollLine_X12_takes rfl rfl rfl (by decide +kernel) ⟨by decide, by decide⟩) (rv_M hK hP (by decide) (by decide)) rfl hl.1 rfl (Nat.le_of_ble_eq_true rfl) dX12_rollLine_108 (Nat.zero_le _) (Nat.zero_le _) (fun r311 u311 H311 locs311 hp311 hP hS => ?_)
              obtain ⟨σ311, τ311⟩ := u311
              obtain ⟨hR, f311, fL311, hq311, hp311_0, hp311_1, hp311_2⟩ : P_X12_takes σ299 τ299 z308 z310 r311 σ311 τ311 := hp311
              have hP : va_P D vwCl (gw cA ad σ311 τ311) H311 := hP
              clear hp299_1
              have hFL := hFL.step fL311 (by decide)
              have hF := hF.step f311 (by decide)
              have gRXp := RXp.fr gRXp (by omega) f311 (by decide)
              have t312 : (σ311 387 3).toInt = (σ299 387 3).toInt := congrArg Int32.toInt (f311.at 387 3 (by decide))
              have t313 : (σ311 387 34).toInt = (σ299 387 34).toInt := congrArg Int32.toInt (f311.at 387 34 (by decide))
              have t314 : (σ311 391 j292).toInt = (σ299 391 j292).toInt := congrArg Int32.toInt (f311.atV 391 j292 (by intro q hq; simp only [L_X12_takes, List.mem_cons, List.not_mem_nil, or_false] at hq; rcases hq with rfl | rfl | rfl <;> dsimp only <;> omega))
              have hr315 := rg_12_4 hR (k := 387) (by decide) (by decide)
              refine r_if_ne (tgt := 116) hx hb dX12_rollLine_111 (by decide) (fun c316 => ?_) (fun c316 => ?_)
              · replace hp311_1 := hp311_1.resolve_left (by omega)
                replace hp311_2 := hp311_2.resolve_left (by omega)
                refine lv_aload_n hx hb dX12_rollLine_116 rfl (lv_at hl 2 rfl) ?_
                refine fg_12_8 (k := 387) hx hb hts in_X12_rollLine_12 hown hK hP (by decide) (by decide) (hts _ lk_X12_rollLine_40) dX12_rollLine_117 ?_
                refine lv_iload_n hx hb dX12_rollLine_120 rfl (lv_at hl 1 rfl) ?_
                refine r_iconst hx hb dX12_rollLine_121 (by decide) (fun z317 ez317 => ?_)
                refine r_iadd hx hb dX12_rollLine_122 (by omega) (fun z318 ez318 => ?_)
                refine lv_aload_n hx hb dX12_rollLine_123 rfl (lv_at hl 2 rfl) ?_
                refine fg_12_18 (k := 387) hx hb hts in_X12_rollLine_12 hown hK hP (by decide) (by decide) (hts _ lk_X12_rollLine_195) dX12_rollLine_124 ?_
                obtain ⟨j319, ej319⟩ : ∃ j : Nat, z318.toInt = (j : Int) := ⟨_, ti_nat (by omega)⟩
                refine as_mread (k := 391) (j := j319) hx hb hK hP hI hR hS (by decide) (by decide) ej319 (by omega) dX12_rollLine_127 (fun σ320 H320 locs320 u320 v320 hR hP hS => ?_)
                have hF := hF.puts u320 3 rfl (by decide) (by decide) (by omega) (by omega)
                have gRXp := RXp.st gRXp u320 (by omega)
                have t321 : (σ320 387 3).toInt = (σ311 387 3).toInt := congrArg Int32.toInt (u320 387 3 (by omega))
                have t322 : (σ320 387 34).toInt = (σ311 387 34).toInt := congrArg Int32.toInt (u320 387 34 (by omega))
                have t323 : (σ320 391 j292).toInt = (σ311 391 j292).toInt := congrArg Int32.toInt (u320 391 j292 (by omega))
                have t324 : (σ320 387 4).toInt = (σ311 387 4).toInt := congrArg Int32.toInt (u320 387 4 (by omega))
                have t325 : (σ320 387 11).toInt = (σ311 387 11).toInt := congrArg Int32.toInt (u320 387 11 (by omega))
                have t326 : (σ320 387 18).toInt = (σ311 387 18).toInt := congrArg Int32.toInt (u320 387 18 (by omega))
                refine r_iconst hx hb dX12_rollLine_128 (by decide) (fun z327 ez327 => ?_)
                exact r_zret hx hb hr hK hP hS hk (by omega) dX12_rollLine_129 (show P_X12_rollLine σ0 τ0 z327 σ320 τ311 from ⟨hR, hF, hFL, by omega, by omega, by omega, by first | exact Or.inl (by omega) | exact Or.inr ⟨by omega, gRXp, fun t ht => OKL.of_w (j := j292) (by omega) (by omega)⟩ | exact Or.inr ⟨by omega, gRXp, fun t ht => OKL.of3 (j1 := j292) (j2 := j319) (j3 := 0) (by omega) (by omega) (by omega) (by omega) (by omega) (by omega)⟩⟩)
              · clear hp311_1 hp311_2
                refine r_iconst hx hb dX12_rollLine_114 (by decide) (fun z328 ez328 => ?_)
                exact r_zret hx hb hr hK hP hS hk (by omega) dX12_rollLine_115 (show P_X12_rollLine σ0 τ0 z328 σ311 τ311 from ⟨hR, hF, hFL, by omega, by omega, by omega, by first | exact Or.inl (by omega) | exact Or.inr ⟨by omega, gRXp, fun t ht => OKL.of_w (j := j292) (by omega) (by omega)⟩ | exact Or.inr ⟨by omega, gRXp, fun t ht => OKL.of3 (j1 := j292) (j2 := 0) (j3 := 0) (by omega) (by omega) (by omega) (by omega) (by omega) (by omega)⟩⟩)
        · exfalso; omega
      · refine lv_aload_n hx hb dX12_rollLine_64 rfl (lv_at hl 2 rfl) ?_
        refine r_iconst hx hb dX12_rollLine_65 (by decide) (fun z329 ez329 => ?_)
        refine r_cVi (k := 387) (As := [.int z329]) (rest := []) ⟨hx, hb, hml, hown, hts⟩ hK hP hN hS (c_X12_bad l D cA ad hI σ0 τ0 hR z329 (by omega)) (cwV 1 hts gX12_rollLine_X12_bad rfl rfl rfl (by decide +kernel) ⟨by decide, by decide⟩) (rv_M hK hP (by decide) (by decide)) rfl hl.1 rfl (Nat.le_of_ble_eq_true rfl) dX12_rollLine_66 (Nat.zero_le _) (Nat.zero_le _) (fun r330 u330 H330 locs330 hp330 hP hS => ?_)
        obtain ⟨σ330, τ330⟩ := u330
        obtain ⟨hR, f330, fL330, hq330⟩ : P_X12_bad σ0 τ0 z329 r330 σ330 τ330 := hp330
        have hP : va_P D vwCl (gw cA ad σ330 τ330) H330 := hP
        obtain rfl := FrL.nil fL330
        have hF := hF.step f330 (by decide)
        have gRXp := RXp.fr gRXp (by omega) f330 (by decide)
        have t331 : (σ330 387 4).toInt = (σ0 387 4).toInt := congrArg Int32.toInt (f330.at 387 4 (by decide))
        have t332 : (σ330 387 3).toInt = (σ0 387 3).toInt := congrArg Int32.toInt (f330.at 387 3 (by decide))
        have t333 : (σ330 387 11).toInt = (σ0 387 11).toInt := congrArg Int32.toInt (f330.at 387 11 (by decide))
        have t334 : (σ330 387 18).toInt = (σ0 387 18).toInt := congrArg Int32.toInt (f330.at 387 18 (by decide))
        have t335 : (σ330 387 34).toInt = (σ0 387 34).toInt := congrArg Int32.toInt (f330.at 387 34 (by decide))
        exact r_zret hx hb hr hK hP hS hk (by omega) dX12_rollLine_69 (show P_X12_rollLine σ0 τ0 r330 σ330 τ0 from ⟨hR, hF, hFL, by omega, by omega, by omega, by first | exact Or.inl (by omega) | exact Or.inr ⟨by omega, gRXp, fun t ht => OKL.of_w (j := 0) (by omega) (by omega)⟩ | exact Or.inr ⟨by omega, gRXp, fun t ht => OKL.of3 (j1 := 0) (j2 := 0) (j3 := 0) (by omega) (by omega) (by omega) (by omega) (by omega) (by omega)⟩⟩)
