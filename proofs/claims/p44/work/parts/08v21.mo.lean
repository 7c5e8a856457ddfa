theorem in_X12_said_12 : ∀ w ∈ u_ws RX12 TX12 47, w ∈ wsX12_said := by decide +kernel
theorem lk_X12_said_1 : Cond.fieldLink RX12 1 "CuckooSharesModel" "thrown" "I" ∈ wsX12_said := by decide +kernel
theorem lk_X12_said_33 : Cond.fieldLink RX12 33 "CuckooSharesModel" "s" "[I" ∈ wsX12_said := by decide +kernel
abbrev L_X12_said : List Rc := [(387, 387, 0, 0), (402, 402, 0, 39), (394, 394, 0, 7), (395, 395, 0, 7), (396, 396, 0, 7)]
abbrev LL_X12_said : List Rc := []
def P_X12_said (σ0 : Nat → Nat → Int32) (τ0 : Nat → Nat → Int64) (a1 : Int32) (r : Int32) (σ : Nat → Nat → Int32) (τ : Nat → Nat → Int64) : Prop := Rg σ ∧ Fr L_X12_said σ0 σ ∧ FrL LL_X12_said τ0 τ
def J_X12_said_27 (p : Program) (l : Launch) (e : Env) (s : State) (m : MethodId) (args : Array Value) (below : List Frame) (meth : Method) (c : Code) (D : va_G) (cA : Nat → ClassId) (ad : Nat → Nat) (σ0 : Nat → Nat → Int32) (τ0 : Nat → Nat → Int64) (a1 : Int32) (n : Nat) : Prop := ∀ (σ : Nat → Nat → Int32) (τ : Nat → Nat → Int64) (H : Heap) (locs : List Loc) (x2 : Int32) (x3 : Int32) (ls : Array Slot), Rg σ → Fr L_X12_said σ0 σ → FrL LL_X12_said τ0 τ → va_P D vwCl (gw cA ad σ τ) H → va_S (AA ad) s.heap H locs → (-1 ≤ a1.toInt) → (0 ≤ x3.toInt ∧ x3.toInt ≤ 8) → (1 ≤ (σ 389 246).toInt ∧ (σ 389 246).toInt ≤ 40) → (1 ≤ (σ 389 246).toInt) → (SI σ) → lv_has ls 4 [(0, .ref (ad 387)), (1, .int a1), (2, .int x2), (3, .int x3)] → 2 * (8 - x3.toInt) + 1 < (n : Int) → W p l e ({ frames := 6, cells := 0, slots := 0, locals := 141 } : Room) s m args below meth c H locs 0 0 (MQ below (va_Qi (fun (r : Int32) (u : SS) => P_X12_said σ0 τ0 a1 r u.1 u.2) (WB D cA ad) (AA ad)) args s 0 0 (AA ad)) (F0 m 27 ls [])
set_option maxHeartbeats 4000000 in
theorem B_X12_said_27 (p : Program) (l : Launch) (e : Env) (s : State) (m : MethodId) (args : Array Value) (below : List Frame) (meth : Method) (c : Code) (D : va_G) (cA : Nat → ClassId) (ad : Nat → Nat) (σ0 : Nat → Nat → Int32) (τ0 : Nat → Nat → Int64) (a1 : Int32) (n : Nat) (C : Cy p s m args meth c cX12_said 4 wsX12_said RX12 D cA ad (some .int)) (gSI0 : SI σ0) (K27 : J_X12_said_27 p l e s m args below meth c D cA ad σ0 τ0 a1 n) : J_X12_said_27 p l e s m args below meth c D cA ad σ0 τ0 a1 (n + 1) := by
  obtain ⟨hx, hb, hml, hown, hts, hK, hk, hr, hI, hN⟩ := C
  intro σ τ H locs x2 x3 ls hR hF hFL hP hS hc0 hc1 hc2 hi0 gSI hl hm
  obtain rfl := FrL.nil hFL
  refine lv_iload_n hx hb dX12_said_27 rfl (lv_at hl 3 rfl) ?_
  refine lv_aload_n hx hb dX12_said_28 rfl (lv_at hl 0 rfl) ?_
  refine fg_12_6 (k := 387) hx hb hts in_X12_said_12 hown hK hP (by decide) (by decide) (hts _ lk_X12_said_33) dX12_said_29 ?_
  refine r_iconst hx hb dX12_said_32 (by decide) (fun z1 ez1 => ?_)
  refine ad_ms (k := 389) (j := 1) hx hb hK hP (by decide) (by decide) (by omega) (by omega) dX12_said_33 ?_
  have hr2 := ra_ms_0 hR (k := 389) (j := 1) (by decide) (by decide) (by decide) (by decide)
  refine r_icmp_ge (tgt := 64) hx hb dX12_said_34 (by decide) (fun c3 => ?_) (fun c3 => ?_)
  · refine lv_iload_n hx hb dX12_said_64 rfl (lv_at hl 1 rfl) ?_
    refine r_iconst hx hb dX12_said_65 (by decide) (fun z4 ez4 => ?_)
    refine r_icmp_ne (tgt := 73) hx hb dX12_said_66 (by decide) (fun c5 => ?_) (fun c5 => ?_)
    · refine r_iconst hx hb dX12_said_73 (by decide) (fun z6 ez6 => ?_)
      exact r_iret hx hb hr hK hP hS hk dX12_said_74 (show P_X12_said σ0 τ0 a1 z6 σ τ0 from ⟨hR, hF, hFL⟩)
    · refine lv_iload_n hx hb dX12_said_69 rfl (lv_at hl 2 rfl) ?_
      refine lv_goto (tgt := 74) hx hb dX12_said_70 (by decide) ?_
      exact r_iret hx hb hr hK hP hS hk dX12_said_74 (show P_X12_said σ0 τ0 a1 x2 σ τ0 from ⟨hR, hF, hFL⟩)
  · refine lv_aload_n hx hb dX12_said_37 rfl (lv_at hl 0 rfl) ?_
    refine lv_iload_n hx hb dX12_said_38 rfl (lv_at hl 3 rfl) ?_
    refine r_cVi (k := 387) (As := [.int x3]) (rest := []) ⟨hx, hb, hml, hown, hts⟩ hK hP hN hS (c_X12_isSaid l D cA ad hI σ τ0 hR x3 (by omega) (by omega) gSI) (cwV 1 hts gX12_said_X12_isSaid rfl rfl rfl (by decide +kernel) ⟨by decide, by decide⟩) (rv_M hK hP (by decide) (by decide)) rfl hl.1 rfl (Nat.le_of_ble_eq_true rfl) dX12_said_39 (Nat.zero_le _) (Nat.zero_le _) (fun r7 u7 H7 locs7 hp7 hP hS => ?_)
    obtain ⟨σ7, τ7⟩ := u7
    obtain ⟨hR, f7, fL7, hq7⟩ : P_X12_isSaid σ τ0 x3 r7 σ7 τ7 := hp7
    have hP : va_P D vwCl (gw cA ad σ7 τ7) H7 := hP
    obtain rfl := FrL.nil fL7
    have hF := hF.step f7 (by decide)
    have gSI := SI.fr gSI hR f7 (by decide)
    have t8 : (σ7 389 246).toInt = (σ 389 246).toInt := congrArg Int32.toInt (f7.at 389 246 (by decide))
    have t9 : (σ7 389 1).toInt = (σ 389 1).toInt := congrArg Int32.toInt (f7.at 389 1 (by decide))
    refine r_if_ne (tgt := 48) hx hb dX12_said_42 (by decide) (fun c10 => ?_) (fun c10 => ?_)
    · refine lv_iload_n hx hb dX12_said_48 rfl (lv_at hl 2 rfl) ?_
      refine lv_iload_n hx hb dX12_said_49 rfl (lv_at hl 1 rfl) ?_
      refine r_icmp_ne (tgt := 55) hx hb dX12_said_50 (by decide) (fun c11 => ?_) (fun c11 => ?_)
      · refine r_iincU (k := 2) (lv1 := fun z12 => [(2, .int z12), (0, .ref (ad 387)), (1, .int a1), (3, .int x3)]) hx hb dX12_said_55 hl rfl (by decide) (fun _ => rfl) (fun z12 ls hl => ?_)
        refine r_iinc (k := 3) (lv1 := fun z13 => [(3, .int z13), (2, .int z12), (0, .ref (ad 387)), (1, .int a1)]) hx hb dX12_said_58 hl rfl (by decide) (fun _ => rfl) (by decide) (by omega) (fun z13 ls ez13 hl => ?_)
        refine lv_goto (tgt := 27) hx hb dX12_said_61 (by decide) ?_
        exact K27 σ7 τ0 H7 locs7 z12 z13 ls hR hF hFL hP hS (by omega) (by omega) (by omega) (by omega) gSI (lv_sub hl [2, 3, 1, 0] rfl) (by omega)
      · refine lv_iload_n hx hb dX12_said_53 rfl (lv_at hl 3 rfl) ?_
        exact r_iret hx hb hr hK hP hS hk dX12_said_54 (show P_X12_said σ0 τ0 a1 x3 σ7 τ0 from ⟨hR, hF, hFL⟩)
    · refine lv_goto (tgt := 58) hx hb dX12_said_45 (by decide) ?_
      refine r_iinc (k := 3) (lv1 := fun z14 => [(3, .int z14), (0, .ref (ad 387)), (1, .int a1), (2, .int x2)]) hx hb dX12_said_58 hl rfl (by decide) (fun _ => rfl) (by decide) (by omega) (fun z14 ls ez14 hl => ?_)
      refine lv_goto (tgt := 27) hx hb dX12_said_61 (by decide) ?_
      exact K27 σ7 τ0 H7 locs7 x2 z14 ls hR hF hFL hP hS (by omega) (by omega) (by omega) (by omega) gSI (lv_sub hl [1, 2, 3, 0] rfl) (by omega)
theorem A_X12_said (p : Program) (l : Launch) (e : Env) (s : State) (m : MethodId) (args : Array Value) (below : List Frame) (meth : Method) (c : Code) (D : va_G) (cA : Nat → ClassId) (ad : Nat → Nat) (σ0 : Nat → Nat → Int32) (τ0 : Nat → Nat → Int64) (a1 : Int32) (C : Cy p s m args meth c cX12_said 4 wsX12_said RX12 D cA ad (some .int)) (gSI0 : SI σ0) : ∀ n : Nat, J_X12_said_27 p l e s m args below meth c D cA ad σ0 τ0 a1 n := by
  intro n
  induction n with
  | zero =>
    exact (by intro σ τ H locs x2 x3 ls hR hF hFL hP hS hc0 hc1 hc2 hi0 gSI hl hm; exfalso; omega)
  | succ n ih =>
    exact B_X12_said_27 p l e s m args below meth c D cA ad σ0 τ0 a1 n C gSI0 ih
set_option maxHeartbeats 4000000 in
theorem c_X12_said (l : Launch) (D : va_G) (cA : Nat → ClassId) (ad : Nat → Nat) (hI : Inj ad) (σ0 : Nat → Nat → Int32) (τ0 : Nat → Nat → Int64) (hR : Rg σ0) (a1 : Int32) (gSI0 : SI σ0) : Met l yX12_said wsX12_said ({ frames := 6, cells := 0, slots := 0, locals := 141 } : Room) (WQc D cA ad [.ref (ad 387), .int a1] σ0 τ0) (va_Qi (fun (r : Int32) (u : SS) => P_X12_said σ0 τ0 a1 r u.1 u.2) (WB D cA ad) (AA ad)) 0 0 (AA ad) := by
  refine Met.ofW (cc := cX12_said) (maxL := 4) (ret := (some .int)) (by decide) rfl ?_
  intro p e s m args below meth c s₁ B hml hv
  obtain ⟨rfl, hP, hK, hN⟩ := hv
  have C : Cy p s m _ meth c cX12_said 4 wsX12_said RX12 D cA ad (some .int) := ⟨B.exec, B.bytes, hml, findClass_of_methodNamed B.named, atoms_spec (ws := wsX12_said) B.pre, hK, B.notSynchronized, B.returns, hI, hN⟩
  have hl := lv_entry ([.ref (ad 387), .int a1]) (n := 4) (Nat.le_of_ble_eq_true rfl)
  rw [lg_entry_eq]
  generalize (lg_sl ([.ref (ad 387), .int a1]) ++ List.replicate (4 - (lg_sl ([.ref (ad 387), .int a1])).length) Slot.unset).toArray = ls at hl ⊢
  have hl : lv_has ls 4 [(0, .ref (ad 387)), (1, .int a1)] := hl
  have hS : va_S (AA ad) s.heap s.heap [] := va_S.rf
  have hF : Fr L_X12_said σ0 σ0 := Fr.rf
  have hFL : FrL LL_X12_said τ0 τ0 := FrL.rf
  have gSI := gSI0
  have hA := A_X12_said p l e s m _ below meth c D cA ad σ0 τ0 a1 C gSI0 42
  have K27 := hA
  clear hA
  obtain ⟨hx, hb, _, hown, hts, _, hk, hr, _, _⟩ := C
  refine lv_aload_n hx hb dX12_said_0 rfl (lv_at hl 0 rfl) ?_
  refine r_iconst hx hb dX12_said_1 (by decide) (fun z1 ez1 => ?_)
  refine fp_12_0 (k := 387) hx hb hts in_X12_said_12 hown hK hP (by decide) (by decide) (hts _ lk_X12_said_1) hI hR hS (by omega) dX12_said_2 (fun σ2 H2 locs2 u2 v2 hR hP hS => ?_)
  have hF := hF.puts u2 0 rfl (by decide) (by decide) (by decide) (by decide)
  have gSI := SI.put gSI hR u2 (by decide)
  refine lv_aload_n hx hb dX12_said_5 rfl (lv_at hl 0 rfl) ?_
  refine fg_12_6 (k := 387) hx hb hts in_X12_said_12 hown hK hP (by decide) (by decide) (hts _ lk_X12_said_33) dX12_said_6 ?_
  refine r_sipush hx hb dX12_said_9 (by decide) (fun z3 ez3 => ?_)
  refine ad_ms (k := 389) (j := 246) hx hb hK hP (by decide) (by decide) (by omega) (by omega) dX12_said_12 ?_
  have hr4 := ra_ms_8 hR (k := 389) (j := 246) (by decide) (by decide) (by decide) (by decide)
  refine r_if_eq (tgt := 21) hx hb dX12_said_13 (by decide) (fun c5 => ?_) (fun c5 => ?_)
  · refine r_iconst hx hb dX12_said_21 (by decide) (fun z6 ez6 => ?_)
    exact r_iret hx hb hr hK hP hS hk dX12_said_22 (show P_X12_said σ0 τ0 a1 z6 σ2 τ0 from ⟨hR, hF, hFL⟩)
  · refine lv_iload_n hx hb dX12_said_16 rfl (lv_at hl 1 rfl) ?_
    refine r_iconst hx hb dX12_said_17 (by decide) (fun z7 ez7 => ?_)
    refine r_icmp_ge (tgt := 23) hx hb dX12_said_18 (by decide) (fun c8 => ?_) (fun c8 => ?_)
    · refine r_iconst hx hb dX12_said_23 (by decide) (fun z9 ez9 => ?_)
      refine lv_istore_n (lv' := [(2, .int z9), (0, .ref (ad 387)), (1, .int a1)]) hx hb dX12_said_24 rfl hl (by decide) rfl (fun ls hl => ?_)
      refine r_iconst hx hb dX12_said_25 (by decide) (fun z10 ez10 => ?_)
      refine lv_istore_n (lv' := [(3, .int z10), (2, .int z9), (0, .ref (ad 387)), (1, .int a1)]) hx hb dX12_said_26 rfl hl (by decide) rfl (fun ls hl => ?_)
      exact K27 σ2 τ0 H2 locs2 z9 z10 ls hR hF hFL hP hS (by omega) (by omega) (by omega) (by omega) gSI (lv_sub hl [2, 3, 1, 0] rfl) (by omega)
    · refine r_iconst hx hb dX12_said_21 (by decide) (fun z11 ez11 => ?_)
      exact r_iret hx hb hr hK hP hS hk dX12_said_22 (show P_X12_said σ0 τ0 a1 z11 σ2 τ0 from ⟨hR, hF, hFL⟩)
theorem in_X12_image_12 : ∀ w ∈ u_ws RX12 TX12 47, w ∈ wsX12_image := by decide +kernel
theorem lk_X12_image_1 : Cond.fieldLink RX12 1 "CuckooSharesModel" "thrown" "I" ∈ wsX12_image := by decide +kernel
theorem lk_X12_image_33 : Cond.fieldLink RX12 33 "CuckooSharesModel" "s" "[I" ∈ wsX12_image := by decide +kernel
theorem lk_X12_image_43 : Cond.fieldLink RX12 43 "CuckooSharesModel" "names" "[J" ∈ wsX12_image := by decide +kernel
theorem lk_X12_image_78 : Cond.fieldLink RX12 78 "CuckooSharesModel" "kept" "[I" ∈ wsX12_image := by decide +kernel
theorem lk_X12_image_81 : Cond.fieldLink RX12 81 "CuckooSharesModel" "namesKept" "[J" ∈ wsX12_image := by decide +kernel
theorem lk_X12_image_84 : Cond.fieldLink RX12 84 "CuckooSharesModel" "areKept" "[Z" ∈ wsX12_image := by decide +kernel
abbrev L_X12_image : List Rc := [(387, 387, 0, 0), (403, 403, 0, 853), (405, 405, 0, 1)]
abbrev LL_X12_image : List Rc := [(404, 404, 0, 31)]
def P_X12_image (σ0 : Nat → Nat → Int32) (τ0 : Nat → Nat → Int64) (a1 : Int32) (r : Int32) (σ : Nat → Nat → Int32) (τ : Nat → Nat → Int64) : Prop := Rg σ ∧ Fr L_X12_image σ0 σ ∧ FrL LL_X12_image τ0 τ ∧ (0 ≤ r.toInt ∧ r.toInt ≤ 1) ∧ (IMm σ0 σ a1) ∧ SI σ ∧ SIK σ
def J_X12_image_18 (p : Program) (l : Launch) (e : Env) (s : State) (m : MethodId) (args : Array Value) (below : List Frame) (meth : Method) (c : Code) (D : va_G) (cA : Nat → ClassId) (ad : Nat → Nat) (σ0 : Nat → Nat → Int32) (τ0 : Nat → Nat → Int64) (a1 : Int32) (n : Nat) : Prop := ∀ (σ : Nat → Nat → Int32) (τ : Nat → Nat → Int64) (H : Heap) (locs : List Loc) (x2 : Int32) (ls : Array Slot), Rg σ → Fr L_X12_image σ0 σ → FrL LL_X12_image τ0 τ → va_P D vwCl (gw cA ad σ τ) H → va_S (AA ad) s.heap H locs → (0 ≤ a1.toInt ∧ a1.toInt ≤ 1) → (0 ≤ x2.toInt ∧ x2.toInt ≤ 441) → (∀ i j : Nat, a1.toInt = (i : Int) → (j : Int) < x2.toInt → σ 403 (427 * i + j) = σ 389 j) → (∀ k j : Nat, k < 2 → j < 427 → a1.toInt ≠ (k : Int) → σ 403 (427 * k + j) = σ0 403 (427 * k + j)) → (∀ k : Nat, k < 2 → σ 405 k = σ0 405 k) → (SI σ) → lv_has ls 3 [(0, .ref (ad 387)), (1, .int a1), (2, .int x2)] → 43 * (441 - x2.toInt) + 42 < (n : Int) → W p l e ({ frames := 1, cells := 0, slots := 0, locals := 22 } : Room) s m args below meth c H locs 0 0 (MQ below (va_Qi (fun (r : Int32) (u : SS) => P_X12_image σ0 τ0 a1 r u.1 u.2) (WB D cA ad) (AA ad)) args s 0 0 (AA ad)) (F0 m 18 ls [])
def J_X12_image_51 (p : Program) (l : Launch) (e : Env) (s : State) (m : MethodId) (args : Array Value) (below : List Frame) (meth : Method) (c : Code) (D : va_G) (cA : Nat → ClassId) (ad : Nat → Nat) (σ0 : Nat → Nat → Int32) (τ0 : Nat → Nat → Int64) (a1 : Int32) (n : Nat) : Prop := ∀ (σ : Nat → Nat → Int32) (τ : Nat → Nat → Int64) (H : Heap) (locs : List Loc) (x2 : Int32) (ls : Array Slot), Rg σ → Fr L_X12_image σ0 σ → FrL LL_X12_image τ0 τ → va_P D vwCl (gw cA ad σ τ) H → va_S (AA ad) s.heap H locs → (0 ≤ a1.toInt ∧ a1.toInt ≤ 1) → (0 ≤ x2.toInt ∧ x2.toInt ≤ 19) → (∀ i j : Nat, a1.toInt = (i : Int) → j < 427 → σ 403 (427 * i + j) = σ 389 j) → (∀ k j : Nat, k < 2 → j < 427 → a1.toInt ≠ (k : Int) → σ 403 (427 * k + j) = σ0 403 (427 * k + j)) → (∀ k : Nat, k < 2 → σ 405 k = σ0 405 k) → (SI σ) → lv_has ls 3 [(0, .ref (ad 387)), (1, .int a1), (2, .int x2)] → 2 * (19 - x2.toInt) + 1 < (n : Int) → W p l e ({ frames := 1, cells := 0, slots := 0, locals := 22 } : Room) s m args below meth c H locs 0 0 (MQ below (va_Qi (fun (r : Int32) (u : SS) => P_X12_image σ0 τ0 a1 r u.1 u.2) (WB D cA ad) (AA ad)) args s 0 0 (AA ad)) (F0 m 51 ls [])
set_option maxHeartbeats 4000000 in
theorem B_X12_image_18 (p : Program) (l : Launch) (e : Env) (s : State) (m : MethodId) (args : Array Value) (below : List Frame) (meth : Method) (c : Code) (D : va_G) (cA : Nat → ClassId) (ad : Nat → Nat) (σ0 : Nat → Nat → Int32) (τ0 : Nat → Nat → Int64) (a1 : Int32) (n : Nat) (C : Cy p s m args meth c cX12_image 3 wsX12_image RX12 D cA ad (some .boolean)) (gSI0 : SI σ0) (gSIK0 : SIK σ0) (K18 : J_X12_image_18 p l e s m args below meth c D cA ad σ0 τ0 a1 n) (K51 : J_X12_image_51 p l e s m args below meth c D cA ad σ0 τ0 a1 n) : J_X12_image_18 p l e s m args below meth c D cA ad σ0 τ0 a1 (n + 1) := by
  obtain ⟨hx, hb, hml, hown, hts, hK, hk, hr, hI, hN⟩ := C
  intro σ τ H locs x2 ls hR hF hFL hP hS hc0 hc1 hi0 hi1 hi2 gSI hl hm
  refine lv_iload_n hx hb dX12_image_18 rfl (lv_at hl 2 rfl) ?_
  refine r_sipush hx hb dX12_image_19 (by decide) (fun z1 ez1 => ?_)
  refine r_icmp_ge (tgt := 49) hx hb dX12_image_22 (by decide) (fun c2 => ?_) (fun c2 => ?_)
  · refine r_iconst hx hb dX12_image_49 (by decide) (fun z3 ez3 => ?_)
    refine lv_istore_n (lv' := [(2, .int z3), (0, .ref (ad 387)), (1, .int a1)]) hx hb dX12_image_50 rfl hl (by decide) rfl (fun ls hl => ?_)
    exact K51 σ τ H locs z3 ls hR hF hFL hP hS (by omega) (by omega) (by first | exact hi0 | exact (fun i j h1 h2 => hi0 i j h1 (by omega))) (by exact hi1) (by exact hi2) gSI (lv_sub hl [1, 2, 0] rfl) (by omega)
  · refine lv_aload_n hx hb dX12_image_25 rfl (lv_at hl 0 rfl) ?_
    refine fg_12_44 (k := 387) hx hb hts in_X12_image_12 hown hK hP (by decide) (by decide) (hts _ lk_X12_image_78) dX12_image_26 ?_
    refine r_sipush hx hb dX12_image_29 (by decide) (fun z4 ez4 => ?_)
    refine lv_iload_n hx hb dX12_image_32 rfl (lv_at hl 1 rfl) ?_
    refine r_imulL (n := 427) hx hb dX12_image_33 (by omega) (by omega) (fun z5 ez5 => ?_)
    refine lv_iload_n hx hb dX12_image_34 rfl (lv_at hl 2 rfl) ?_
    refine r_iadd hx hb dX12_image_35 (by omega) (fun z6 ez6 => ?_)
    refine lv_aload_n hx hb dX12_image_36 rfl (lv_at hl 0 rfl) ?_
    refine fg_12_6 (k := 387) hx hb hts in_X12_image_12 hown hK hP (by decide) (by decide) (hts _ lk_X12_image_33) dX12_image_37 ?_
    refine lv_iload_n hx hb dX12_image_40 rfl (lv_at hl 2 rfl) ?_
    obtain ⟨j7, ej7⟩ : ∃ j : Nat, x2.toInt = (j : Int) := ⟨_, ti_nat (by omega)⟩
    refine ad_ms (k := 389) (j := j7) hx hb hK hP (by decide) (by decide) ej7 (by omega) dX12_image_41 ?_
    obtain ⟨j8, ej8⟩ : ∃ j : Nat, z6.toInt = (j : Int) := ⟨_, ti_nat (by omega)⟩
    refine as_mkept (k := 403) (j := j8) hx hb hK hP hI hR hS (by decide) (by decide) ej8 (by omega) (mc_ks hR (a1.toInt.toNat) (by omega) (by omega) (by omega)) dX12_image_42 (fun σ9 H9 locs9 u9 v9 hR hP hS => ?_)
    have us := u9
    have vs := v9
    have hF := hF.puts u9 1 rfl (by decide) (by decide) (by omega) (by omega)
    have gSI := SI.putV gSI hR u9 (by intro q hq; simp only [Gd_SI, List.mem_cons, List.not_mem_nil, or_false] at hq; rcases hq with rfl | rfl | rfl <;> dsimp only [inRc] <;> omega)
    refine r_iinc (k := 2) (lv1 := fun z10 => [(2, .int z10), (0, .ref (ad 387)), (1, .int a1)]) hx hb dX12_image_43 hl rfl (by decide) (fun _ => rfl) (by decide) (by omega) (fun z10 ls ez10 hl => ?_)
    refine lv_goto (tgt := 18) hx hb dX12_image_46 (by decide) ?_
    exact K18 σ9 τ H9 locs9 z10 ls hR hF hFL hP hS (by omega) (by omega) (by first | exact (fun i j _ hj => absurd hj (by omega)) | exact I1st hi0 us vs (by omega) (by omega) (by omega) (by omega) (by omega)) (by first | exact (fun k j _ _ _ => u0 403 _ (by omega)) | exact I2st (x := x2.toInt) hi1 us (by omega) (by omega) (by omega)) (by first | exact (fun k _ => u0 405 k (by omega)) | exact (fun k hk => (us 405 k (by omega)).trans (hi2 k hk))) gSI (lv_sub hl [1, 2, 0] rfl) (by omega)
set_option maxHeartbeats 4000000 in
theorem B_X12_image_51 (p : Program) (l : Launch) (e : Env) (s : State) (m : MethodId) (args : Array Value) (below : List Frame) (meth : Method) (c : Code) (D : va_G) (cA : Nat → ClassId) (ad : Nat → Nat) (σ0 : Nat → Nat → Int32) (τ0 : Nat → Nat → Int64) (a1 : Int32) (n : Nat) (C : Cy p s m args meth c cX12_image 3 wsX12_image RX12 D cA ad (some .boolean)) (gSI0 : SI σ0) (gSIK0 : SIK σ0) (K18 : J_X12_image_18 p l e s m args below meth c D cA ad σ0 τ0 a1 n) (K51 : J_X12_image_51 p l e s m args below meth c D cA ad σ0 τ0 a1 n) : J_X12_image_51 p l e s m args below meth c D cA ad σ0 τ0 a1 (n + 1) := by
  obtain ⟨hx, hb, hml, hown, hts, hK, hk, hr, hI, hN⟩ := C
  intro σ τ H locs x2 ls hR hF hFL hP hS hc0 hc1 hi0 hi1 hi2 gSI hl hm
  refine lv_iload_n hx hb dX12_image_51 rfl (lv_at hl 2 rfl) ?_
  refine r_bipush hx hb dX12_image_52 (by decide) (fun z1 ez1 => ?_)
  refine r_icmp_ge (tgt := 80) hx hb dX12_image_54 (by decide) (fun c2 => ?_) (fun c2 => ?_)
  · refine lv_aload_n hx hb dX12_image_80 rfl (lv_at hl 0 rfl) ?_
    refine fg_12_46 (k := 387) hx hb hts in_X12_image_12 hown hK hP (by decide) (by decide) (hts _ lk_X12_image_84) dX12_image_81 ?_
    refine lv_iload_n hx hb dX12_image_84 rfl (lv_at hl 1 rfl) ?_
    refine r_iconst hx hb dX12_image_85 (by decide) (fun z3 ez3 => ?_)
    obtain ⟨j4, ej4⟩ : ∃ j : Nat, a1.toInt = (j : Int) := ⟨_, ti_nat (by omega)⟩
    refine as_mareKept (k := 405) (j := j4) hx hb hK hP hI hR hS (by decide) (by decide) ej4 (by omega) (by omega) dX12_image_86 (fun σ5 H5 locs5 u5 v5 hR hP hS => ?_)
    have uk := u5
    have vk := v5
    have hF := hF.puts u5 2 rfl (by decide) (by decide) (by omega) (by omega)
    have gSI := SI.putV gSI hR u5 (by intro q hq; simp only [Gd_SI, List.mem_cons, List.not_mem_nil, or_false] at hq; rcases hq with rfl | rfl | rfl <;> dsimp only [inRc] <;> omega)
    refine r_iconst hx hb dX12_image_87 (by decide) (fun z6 ez6 => ?_)
    exact r_zret hx hb hr hK hP hS hk (by omega) dX12_image_88 (show P_X12_image σ0 τ0 a1 z6 σ5 τ from ⟨hR, hF, hFL, by omega, by first | exact IMm.no u0 (by omega) | exact IMm.of (i := j4) (by omega) (by omega) hF (by decide) hi0 hi1 hi2 uk (by omega), gSI, SIK.im gSIK0 gSI hR hi0 hi1 hi2 uk (by omega)⟩)
  · refine lv_aload_n hx hb dX12_image_57 rfl (lv_at hl 0 rfl) ?_
    refine fg_12_45 (k := 387) hx hb hts in_X12_image_12 hown hK hP (by decide) (by decide) (hts _ lk_X12_image_81) dX12_image_58 ?_
    refine r_bipush hx hb dX12_image_61 (by decide) (fun z7 ez7 => ?_)
    refine lv_iload_n hx hb dX12_image_63 rfl (lv_at hl 1 rfl) ?_
    refine r_imulL (n := 16) hx hb dX12_image_64 (by omega) (by omega) (fun z8 ez8 => ?_)
    refine lv_iload_n hx hb dX12_image_65 rfl (lv_at hl 2 rfl) ?_
    refine r_iadd hx hb dX12_image_66 (by omega) (fun z9 ez9 => ?_)
    refine lv_aload_n hx hb dX12_image_67 rfl (lv_at hl 0 rfl) ?_
    refine fg_12_9 (k := 387) hx hb hts in_X12_image_12 hown hK hP (by decide) (by decide) (hts _ lk_X12_image_43) dX12_image_68 ?_
    refine lv_iload_n hx hb dX12_image_71 rfl (lv_at hl 2 rfl) ?_
    obtain ⟨j10, ej10⟩ : ∃ j : Nat, x2.toInt = (j : Int) := ⟨_, ti_nat (by omega)⟩
    refine adL_mnames (k := 392) (j := j10) hx hb hK hP (by decide) (by decide) ej10 (by omega) dX12_image_72 ?_
    obtain ⟨j11, ej11⟩ : ∃ j : Nat, z9.toInt = (j : Int) := ⟨_, ti_nat (by omega)⟩
    refine asL_mnamesKept (k := 404) (j := j11) hx hb hK hP hI hS (by decide) (by decide) ej11 (by omega) dX12_image_73 (fun τ12 H12 locs12 uL12 vL12 hP hS => ?_)
    have hFL := hFL.puts uL12 0 rfl (by decide) (by decide) (by omega) (by omega)
    refine r_iinc (k := 2) (lv1 := fun z13 => [(2, .int z13), (0, .ref (ad 387)), (1, .int a1)]) hx hb dX12_image_74 hl rfl (by decide) (fun _ => rfl) (by decide) (by omega) (fun z13 ls ez13 hl => ?_)
    refine lv_goto (tgt := 51) hx hb dX12_image_77 (by decide) ?_
    exact K51 σ τ12 H12 locs12 z13 ls hR hF hFL hP hS (by omega) (by omega) (by first | exact hi0 | exact (fun i j h1 h2 => hi0 i j h1 (by omega))) (by exact hi1) (by exact hi2) gSI (lv_sub hl [1, 2, 0] rfl) (by omega)
theorem A_X12_image (p : Program) (l : Launch) (e : Env) (s : State) (m : MethodId) (args : Array Value) (below : List Frame) (meth : Method) (c : Code) (D : va_G) (cA : Nat → ClassId) (ad : Nat → Nat) (σ0 : Nat → Nat → Int32) (τ0 : Nat → Nat → Int64) (a1 : Int32) (C : Cy p s m args meth c cX12_image 3 wsX12_image RX12 D cA ad (some .boolean)) (gSI0 : SI σ0) (gSIK0 : SIK σ0) : ∀ n : Nat, J_X12_image_18 p l e s m args below meth c D cA ad σ0 τ0 a1 n ∧ J_X12_image_51 p l e s m args below meth c D cA ad σ0 τ0 a1 n := by
  intro n
  induction n with
  | zero =>
    exact ⟨(by intro σ τ H locs x2 ls hR hF hFL hP hS hc0 hc1 hi0 hi1 hi2 gSI hl hm; exfalso; omega), (by intro σ τ H locs x2 ls hR hF hFL hP hS hc0 hc1 hi0 hi1 hi2 gSI hl hm; exfalso; omega)⟩
  | succ n ih =>
    exact ⟨B_X12_image_18 p l e s m args below meth c D cA ad σ0 τ0 a1 n C gSI0 gSIK0 ih.1 ih.2, B_X12_image_51 p l e s m args below meth c D cA ad σ0 τ0 a1 n C gSI0 gSIK0 ih.1 ih.2⟩
set_option maxHeartbeats 4000000 in
theorem c_X12_image (l : Launch) (D : va_G) (cA : Nat → ClassId) (ad : Nat → Nat) (hI : Inj ad) (σ0 : Nat → Nat → Int32) (τ0 : Nat → Nat → Int64) (hR : Rg σ0) (a1 : Int32) (gSI0 : SI σ0) (gSIK0 : SIK σ0) : Met l yX12_image wsX12_image ({ frames := 1, cells := 0, slots := 0, locals := 22 } : Room) (WQc D cA ad [.ref (ad 387), .int a1] σ0 τ0) (va_Qi (fun (r : Int32) (u : SS) => P_X12_image σ0 τ0 a1 r u.1 u.2) (WB D cA ad) (AA ad)) 0 0 (AA ad) := by
  refine Met.ofW (cc := cX12_image) (maxL := 3) (ret := (some .boolean)) (by decide) rfl ?_
  intro p e s m args below meth c s₁ B hml hv
  obtain ⟨rfl, hP, hK, hN⟩ := hv
  have C : Cy p s m _ meth c cX12_image 3 wsX12_image RX12 D cA ad (some .boolean) := ⟨B.exec, B.bytes, hml, findClass_of_methodNamed B.named, atoms_spec (ws := wsX12_image) B.pre, hK, B.notSynchronized, B.returns, hI, hN⟩
  have hl := lv_entry ([.ref (ad 387), .int a1]) (n := 3) (Nat.le_of_ble_eq_true rfl)
  rw [lg_entry_eq]
  generalize (lg_sl ([.ref (ad 387), .int a1]) ++ List.replicate (3 - (lg_sl ([.ref (ad 387), .int a1])).length) Slot.unset).toArray = ls at hl ⊢
  have hl : lv_has ls 3 [(0, .ref (ad 387)), (1, .int a1)] := hl
  have hS : va_S (AA ad) s.heap s.heap [] := va_S.rf
  have hF : Fr L_X12_image σ0 σ0 := Fr.rf
  have hFL : FrL LL_X12_image τ0 τ0 := FrL.rf
  have gSI := gSI0
  have gSIK := gSIK0
  have hA := A_X12_image p l e s m _ below meth c D cA ad σ0 τ0 a1 C gSI0 gSIK0 38099
  have K18 := hA.1
  have K51 := hA.2
  clear hA
  obtain ⟨hx, hb, _, hown, hts, _, hk, hr, _, _⟩ := C
  refine lv_aload_n hx hb dX12_image_0 rfl (lv_at hl 0 rfl) ?_
  refine r_iconst hx hb dX12_image_1 (by decide) (fun z1 ez1 => ?_)
  refine fp_12_0 (k := 387) hx hb hts in_X12_image_12 hown hK hP (by decide) (by decide) (hts _ lk_X12_image_1) hI hR hS (by omega) dX12_image_2 (fun σ2 H2 locs2 u2 v2 hR hP hS => ?_)
  have u0 := u2
  have v0 := v2
  have hF := hF.puts u2 0 rfl (by decide) (by decide) (by decide) (by decide)
  have gSI := SI.put gSI hR u2 (by decide)
  have gSIK := SIK.put gSIK hR u2 (by decide)
  refine lv_iload_n hx hb dX12_image_5 rfl (lv_at hl 1 rfl) ?_
  refine r_iconst hx hb dX12_image_6 (by decide) (fun z3 ez3 => ?_)
  refine r_iconst hx hb dX12_image_7 (by decide) (fun z4 ez4 => ?_)
  refine r_cSi (As := [.int a1, .int z3, .int z4]) (rest := []) ⟨hx, hb, hml, hown, hts⟩ hK hP hN hS (c_X12_isIn l D cA ad hI σ2 τ0 hR a1 z3 z4) (va_cwS 3 hts gX12_image_X12_isIn rfl rfl rfl (by decide +kernel) ⟨by decide, by decide⟩) rfl hl.1 rfl (Nat.le_of_ble_eq_true rfl) dX12_image_8 (Nat.zero_le _) (Nat.zero_le _) (fun r5 u5 H5 locs5 hp5 hP hS => ?_)
  obtain ⟨σ5, τ5⟩ := u5
  obtain ⟨hR, f5, fL5, hq5, hp5_0, hp5_1⟩ : P_X12_isIn σ2 τ0 a1 z3 z4 r5 σ5 τ5 := hp5
  have hP : va_P D vwCl (gw cA ad σ5 τ5) H5 := hP
  obtain rfl := FrL.nil fL5
  obtain rfl := Fr.nil f5
  refine r_if_ne (tgt := 16) hx hb dX12_image_11 (by decide) (fun c6 => ?_) (fun c6 => ?_)
  · replace hp5_0 := hp5_0.resolve_left (by omega)
    refine r_iconst hx hb dX12_image_16 (by decide) (fun z7 ez7 => ?_)
    refine lv_istore_n (lv' := [(2, .int z7), (0, .ref (ad 387)), (1, .int a1)]) hx hb dX12_image_17 rfl hl (by decide) rfl (fun ls hl => ?_)
    exact K18 σ2 τ0 H5 locs5 z7 ls hR hF hFL hP hS (by omega) (by omega) (by first | exact (fun i j _ hj => absurd hj (by omega)) | exact I1st hi0 us vs (by omega) (by omega) (by omega) (by omega) (by omega)) (by first | exact (fun k j _ _ _ => u0 403 _ (by omega)) | exact I2st (x := x2.toInt) hi1 us (by omega) (by omega) (by omega)) (by first | exact (fun k _ => u0 405 k (by omega)) | exact (fun k hk => (us 405 k (by omega)).trans (hi2 k hk))) gSI (lv_sub hl [1, 2, 0] rfl) (by omega)
  · clear hp5_0
    refine r_iconst hx hb dX12_image_14 (by decide) (fun z8 ez8 => ?_)
    exact r_zret hx hb hr hK hP hS hk (by omega) dX12_image_15 (show P_X12_image σ0 τ0 a1 z8 σ2 τ0 from ⟨hR, hF, hFL, by omega, by first | exact IMm.no u0 (by omega) | exact IMm.of (i := 0) (by omega) (by omega) hF (by decide) hi0 hi1 hi2 uk (by omega), gSI, gSIK⟩)
theorem in_X12_restore_12 : ∀ w ∈ u_ws RX12 TX12 47, w ∈ wsX12_restore := by decide +kernel
theorem lk_X12_restore_1 : Cond.fieldLink RX12 1 "CuckooSharesModel" "thrown" "I" ∈ wsX12_restore := by decide +kernel
theorem lk_X12_restore_256 : Cond.fieldLink RX12 256 "CuckooSharesModel" "undoMany" "I" ∈ wsX12_restore := by decide +kernel
theorem lk_X12_restore_33 : Cond.fieldLink RX12 33 "CuckooSharesModel" "s" "[I" ∈ wsX12_restore := by decide +kernel
theorem lk_X12_restore_43 : Cond.fieldLink RX12 43 "CuckooSharesModel" "names" "[J" ∈ wsX12_restore := by decide +kernel
theorem lk_X12_restore_78 : Cond.fieldLink RX12 78 "CuckooSharesModel" "kept" "[I" ∈ wsX12_restore := by decide +kernel
theorem lk_X12_restore_81 : Cond.fieldLink RX12 81 "CuckooSharesModel" "namesKept" "[J" ∈ wsX12_restore := by decide +kernel
theorem lk_X12_restore_84 : Cond.fieldLink RX12 84 "CuckooSharesModel" "areKept" "[Z" ∈ wsX12_restore := by decide +kernel
abbrev L_X12_restore : List Rc := [(387, 387, 0, 0), (389, 389, 0, 426), (387, 387, 29, 29)]
abbrev LL_X12_restore : List Rc := [(392, 392, 0, 15)]
def P_X12_restore (σ0 : Nat → Nat → Int32) (τ0 : Nat → Nat → Int64) (a1 : Int32) (r : Int32) (σ : Nat → Nat → Int32) (τ : Nat → Nat → Int64) : Prop := Rg σ ∧ Fr L_X12_restore σ0 σ ∧ FrL LL_X12_restore τ0 τ ∧ (0 ≤ r.toInt ∧ r.toInt ≤ 1) ∧ (RSm σ0 σ a1) ∧ SI σ ∧ SIK σ
def J_X12_restore_27 (p : Program) (l : Launch) (e : Env) (s : State) (m : MethodId) (args : Array Value) (below : List Frame) (meth : Method) (c : Code) (D : va_G) (cA : Nat → ClassId) (ad : Nat → Nat) (σ0 : Nat → Nat → Int32) (τ0 : Nat → Nat → Int64) (a1 : Int32) (n : Nat) : Prop := ∀ (σ : Nat → Nat → Int32) (τ : Nat → Nat → Int64) (H : Heap) (locs : List Loc) (x2 : Int32) (ls : Array Slot), Rg σ → Fr L_X12_restore σ0 σ → FrL LL_X12_restore τ0 τ → va_P D vwCl (gw cA ad σ τ) H → va_S (AA ad) s.heap H locs → (0 ≤ a1.toInt ∧ a1.toInt ≤ 1) → (0 ≤ x2.toInt ∧ x2.toInt ≤ 441) → (∀ i j : Nat, a1.toInt = (i : Int) → (j : Int) < x2.toInt → σ 389 j = σ 403 (427 * i + j)) → (∀ i : Nat, a1.toInt = (i : Int) → (σ 405 i).toInt ≠ 0) → (SIK σ) → lv_has ls 3 [(0, .ref (ad 387)), (1, .int a1), (2, .int x2)] → 43 * (441 - x2.toInt) + 42 < (n : Int) → W p l e ({ frames := 1, cells := 0, slots := 0, locals := 22 } : Room) s m args below meth c H locs 0 0 (MQ below (va_Qi (fun (r : Int32) (u : SS) => P_X12_restore σ0 τ0 a1 r u.1 u.2) (WB D cA ad) (AA ad)) args s 0 0 (AA ad)) (F0 m 27 ls [])
def J_X12_restore_60 (p : Program) (l : Launch) (e : Env) (s : State) (m : MethodId) (args : Array Value) (below : List Frame) (meth : Method) (c : Code) (D : va_G) (cA : Nat → ClassId) (ad : Nat → Nat) (σ0 : Nat → Nat → Int32) (τ0 : Nat → Nat → Int64) (a1 : Int32) (n : Nat) : Prop := ∀ (σ : Nat → Nat → Int32) (τ : Nat → Nat → Int64) (H : Heap) (locs : List Loc) (x2 : Int32) (ls : Array Slot), Rg σ → Fr L_X12_restore σ0 σ → FrL LL_X12_restore τ0 τ → va_P D vwCl (gw cA ad σ τ) H → va_S (AA ad) s.heap H locs → (0 ≤ a1.toInt ∧ a1.toInt ≤ 1) → (0 ≤ x2.toInt ∧ x2.toInt ≤ 19) → (SI σ) → (SIK σ) → (RT σ σ0 a1) → lv_has ls 3 [(0, .ref (ad 387)), (1, .int a1), (2, .int x2)] → 2 * (19 - x2.toInt) + 1 < (n : Int) → W p l e ({ frames := 1, cells := 0, slots := 0, locals := 22 } : Room) s m args below meth c H locs 0 0 (MQ below (va_Qi (fun (r : Int32) (u : SS) => P_X12_restore σ0 τ0 a1 r u.1 u.2) (WB D cA ad) (AA ad)) args s 0 0 (AA ad)) (F0 m 60 ls [])
set_option maxHeartbeats 4000000 in
theorem B_X12_restore_27 (p : Program) (l : Launch) (e : Env) (s : State) (m : MethodId) (args : Array Value) (below : List Frame) (meth : Method) (c : Code) (D : va_G) (cA : Nat → ClassId) (ad : Nat → Nat) (σ0 : Nat → Nat → Int32) (τ0 : Nat → Nat → Int64) (a1 : Int32) (n : Nat) (C : Cy p s m args meth c cX12_restore 3 wsX12_restore RX12 D cA ad (some .boolean)) (gSI0 : SI σ0) (gSIK0 : SIK σ0) (K27 : J_X12_restore_27 p l e s m args below meth c D cA ad σ0 τ0 a1 n) (K60 : J_X12_restore_60 p l e s m args below meth c D cA ad σ0 τ0 a1 n) : J_X12_restore_27 p l e s m args below meth c D cA ad σ0 τ0 a1 (n + 1) := by
  obtain ⟨hx, hb, hml, hown, hts, hK, hk, hr, hI, hN⟩ := C
  intro σ τ H locs x2 ls hR hF hFL hP hS hc0 hc1 hi0 hi1 gSIK hl hm
  refine lv_iload_n hx hb dX12_restore_27 rfl (lv_at hl 2 rfl) ?_
  refine r_sipush hx hb dX12_restore_28 (by decide) (fun z1 ez1 => ?_)
  refine r_icmp_ge (tgt := 58) hx hb dX12_restore_31 (by decide) (fun c2 => ?_) (fun c2 => ?_)
  · have gSI := SI.rest gSIK hR (fun i hi => hi1 i hi) (fun i j h1 h2 => hi0 i j h1 (by omega)) (by omega) (by omega)
    have gRT : RT σ σ0 a1 := RT.of hF (by decide) (by omega) (by omega) (fun i hi => hi1 i hi) (fun i j h1 h2 => hi0 i j h1 (by omega))
    refine r_iconst hx hb dX12_restore_58 (by decide) (fun z3 ez3 => ?_)
    refine lv_istore_n (lv' := [(2, .int z3), (0, .ref (ad 387)), (1, .int a1)]) hx hb dX12_restore_59 rfl hl (by decide) rfl (fun ls hl => ?_)
    exact K60 σ τ H locs z3 ls hR hF hFL hP hS (by omega) (by omega) gSI gSIK gRT (lv_sub hl [1, 2, 0] rfl) (by omega)
  · refine lv_aload_n hx hb dX12_restore_34 rfl (lv_at hl 0 rfl) ?_
    refine fg_12_6 (k := 387) hx hb hts in_X12_restore_12 hown hK hP (by decide) (by decide) (hts _ lk_X12_restore_33) dX12_restore_35 ?_
    refine lv_iload_n hx hb dX12_restore_38 rfl (lv_at hl 2 rfl) ?_
    refine lv_aload_n hx hb dX12_restore_39 rfl (lv_at hl 0 rfl) ?_
    refine fg_12_44 (k := 387) hx hb hts in_X12_restore_12 hown hK hP (by decide) (by decide) (hts _ lk_X12_restore_78) dX12_restore_40 ?_
    refine r_sipush hx hb dX12_restore_43 (by decide) (fun z4 ez4 => ?_)
    refine lv_iload_n hx hb dX12_restore_46 rfl (lv_at hl 1 rfl) ?_
    refine r_imulL (n := 427) hx hb dX12_restore_47 (by omega) (by omega) (fun z5 ez5 => ?_)
    refine lv_iload_n hx hb dX12_restore_48 rfl (lv_at hl 2 rfl) ?_
    refine r_iadd hx hb dX12_restore_49 (by omega) (fun z6 ez6 => ?_)
    obtain ⟨j7, ej7⟩ : ∃ j : Nat, z6.toInt = (j : Int) := ⟨_, ti_nat (by omega)⟩
    refine ad_mkept (k := 403) (j := j7) hx hb hK hP (by decide) (by decide) ej7 (by omega) dX12_restore_50 ?_
    obtain ⟨j8, ej8⟩ : ∃ j : Nat, x2.toInt = (j : Int) := ⟨_, ti_nat (by omega)⟩
    refine as_ms (k := 389) (j := j8) hx hb hK hP hI hR hS (by decide) (by decide) ej8 (by omega) (mc_sk hR (a1.toInt.toNat) (by omega) (by omega) (by omega)) dX12_restore_51 (fun σ9 H9 locs9 u9 v9 hR hP hS => ?_)
    have us := u9
    have vs := v9
    have hF := hF.puts u9 1 rfl (by decide) (by decide) (by omega) (by omega)
    have gSIK := SIK.putV gSIK hR u9 (by intro q hq; simp only [Gd_SIK, List.mem_cons, List.not_mem_nil, or_false] at hq; rcases hq with rfl | rfl <;> dsimp only [inRc] <;> omega)
    have t10 : (σ9 403 j7).toInt = (σ 403 j7).toInt := congrArg Int32.toInt (u9 403 j7 (by omega))
    refine r_iinc (k := 2) (lv1 := fun z11 => [(2, .int z11), (0, .ref (ad 387)), (1, .int a1)]) hx hb dX12_restore_52 hl rfl (by decide) (fun _ => rfl) (by decide) (by omega) (fun z11 ls ez11 hl => ?_)
    refine lv_goto (tgt := 27) hx hb dX12_restore_55 (by decide) ?_
    exact K27 σ9 τ H9 locs9 z11 ls hR hF hFL hP hS (by omega) (by omega) (by first | exact (fun i j _ hj => absurd hj (by omega)) | exact R1st hi0 us vs (by omega) (by omega) (by omega) (by omega) (by omega)) (by first | exact (fun i hi => by rw [us 405 i (by omega)]; exact hi1 i hi) | exact (fun i hi => by have ej : i = 0 := (by omega); subst ej; omega)) gSIK (lv_sub hl [1, 2, 0] rfl) (by omega)
set_option maxHeartbeats 4000000 in
theorem B_X12_restore_60 (p : Program) (l : Launch) (e : Env) (s : State) (m : MethodId) (args : Array Value) (below : List Frame) (meth : Method) (c : Code) (D : va_G) (cA : Nat → ClassId) (ad : Nat → Nat) (σ0 : Nat → Nat → Int32) (τ0 : Nat → Nat → Int64) (a1 : Int32) (n : Nat) (C : Cy p s m args meth c cX12_restore 3 wsX12_restore RX12 D cA ad (some .boolean)) (gSI0 : SI σ0) (gSIK0 : SIK σ0) (K27 : J_X12_restore_27 p l e s m args below meth c D cA ad σ0 τ0 a1 n) (K60 : J_X12_restore_60 p l e s m args below meth c D cA ad σ0 τ0 a1 n) : J_X12_restore_60 p l e s m args below meth c D cA ad σ0 τ0 a1 (n + 1) := by
  obtain ⟨hx, hb, hml, hown, hts, hK, hk, hr, hI, hN⟩ := C
  intro σ τ H locs x2 ls hR hF hFL hP hS hc0 hc1 gSI gSIK gRT hl hm
  refine lv_iload_n hx hb dX12_restore_60 rfl (lv_at hl 2 rfl) ?_
  refine r_bipush hx hb dX12_restore_61 (by decide) (fun z1 ez1 => ?_)
  refine r_icmp_ge (tgt := 89) hx hb dX12_restore_63 (by decide) (fun c2 => ?_) (fun c2 => ?_)
  · refine lv_aload_n hx hb dX12_restore_89 rfl (lv_at hl 0 rfl) ?_
    refine r_iconst hx hb dX12_restore_90 (by decide) (fun z3 ez3 => ?_)
    refine fp_12_29 (k := 387) hx hb hts in_X12_restore_12 hown hK hP (by decide) (by decide) (hts _ lk_X12_restore_256) hI hR hS (by omega) dX12_restore_91 (fun σ4 H4 locs4 u4 v4 hR hP hS => ?_)
    have hF := hF.puts u4 2 rfl (by decide) (by decide) (by decide) (by decide)
    have gRT := gRT.ag (Agr.put u4 (by decide))
    have gSI := SI.put gSI hR u4 (by decide)
    have gSIK := SIK.put gSIK hR u4 (by decide)
    refine r_iconst hx hb dX12_restore_94 (by decide) (fun z5 ez5 => ?_)
    exact r_zret hx hb hr hK hP hS hk (by omega) dX12_restore_95 (show P_X12_restore σ0 τ0 a1 z5 σ4 τ from ⟨hR, hF, hFL, by omega, by first | exact RSm.no u0 (by omega) | exact RSm.n0 (i := 0) u0 (by omega) (by omega) (by omega) | exact Or.inr ⟨by omega, by omega, gRT⟩, gSI, gSIK⟩)
  · refine lv_aload_n hx hb dX12_restore_66 rfl (lv_at hl 0 rfl) ?_
    refine fg_12_9 (k := 387) hx hb hts in_X12_restore_12 hown hK hP (by decide) (by decide) (hts _ lk_X12_restore_43) dX12_restore_67 ?_
    refine lv_iload_n hx hb dX12_restore_70 rfl (lv_at hl 2 rfl) ?_
    refine lv_aload_n hx hb dX12_restore_71 rfl (lv_at hl 0 rfl) ?_
    refine fg_12_45 (k := 387) hx hb hts in_X12_restore_12 hown hK hP (by decide) (by decide) (hts _ lk_X12_restore_81) dX12_restore_72 ?_
    refine r_bipush hx hb dX12_restore_75 (by decide) (fun z6 ez6 => ?_)
    refine lv_iload_n hx hb dX12_restore_77 rfl (lv_at hl 1 rfl) ?_
    refine r_imulL (n := 16) hx hb dX12_restore_78 (by omega) (by omega) (fun z7 ez7 => ?_)
    refine lv_iload_n hx hb dX12_restore_79 rfl (lv_at hl 2 rfl) ?_
    refine r_iadd hx hb dX12_restore_80 (by omega) (fun z8 ez8 => ?_)
    obtain ⟨j9, ej9⟩ : ∃ j : Nat, z8.toInt = (j : Int) := ⟨_, ti_nat (by omega)⟩
    refine adL_mnamesKept (k := 404) (j := j9) hx hb hK hP (by decide) (by decide) ej9 (by omega) dX12_restore_81 ?_
    obtain ⟨j10, ej10⟩ : ∃ j : Nat, x2.toInt = (j : Int) := ⟨_, ti_nat (by omega)⟩
    refine asL_mnames (k := 392) (j := j10) hx hb hK hP hI hS (by decide) (by decide) ej10 (by omega) dX12_restore_82 (fun τ11 H11 locs11 uL11 vL11 hP hS => ?_)
    have hFL := hFL.puts uL11 0 rfl (by decide) (by decide) (by omega) (by omega)
    refine r_iinc (k := 2) (lv1 := fun z12 => [(2, .int z12), (0, .ref (ad 387)), (1, .int a1)]) hx hb dX12_restore_83 hl rfl (by decide) (fun _ => rfl) (by decide) (by omega) (fun z12 ls ez12 hl => ?_)
    refine lv_goto (tgt := 60) hx hb dX12_restore_86 (by decide) ?_
    exact K60 σ τ11 H11 locs11 z12 ls hR hF hFL hP hS (by omega) (by omega) gSI gSIK gRT (lv_sub hl [1, 2, 0] rfl) (by omega)
theorem A_X12_restore (p : Program) (l : Launch) (e : Env) (s : State) (m : MethodId) (args : Array Value) (below : List Frame) (meth : Method) (c : Code) (D : va_G) (cA : Nat → ClassId) (ad : Nat → Nat) (σ0 : Nat → Nat → Int32) (τ0 : Nat → Nat → Int64) (a1 : Int32) (C : Cy p s m args meth c cX12_restore 3 wsX12_restore RX12 D cA ad (some .boolean)) (gSI0 : SI σ0) (gSIK0 : SIK σ0) : ∀ n : Nat, J_X12_restore_27 p l e s m args below meth c D cA ad σ0 τ0 a1 n ∧ J_X12_restore_60 p l e s m args below meth c D cA ad σ0 τ0 a1 n := by
  intro n
  induction n with
  | zero =>
    exact ⟨(by intro σ τ H locs x2 ls hR hF hFL hP hS hc0 hc1 hi0 hi1 gSIK hl hm; exfalso; omega), (by intro σ τ H locs x2 ls hR hF hFL hP hS hc0 hc1 gSI gSIK gRT hl hm; exfalso; omega)⟩
  | succ n ih =>
    exact ⟨B_X12_restore_27 p l e s m args below meth c D cA ad σ0 τ0 a1 n C gSI0 gSIK0 ih.1 ih.2, B_X12_restore_60 p l e s m args below meth c D cA ad σ0 τ0 a1 n C gSI0 gSIK0 ih.1 ih.2⟩
set_option maxHeartbeats 4000000 in
theorem c_X12_restore (l : Launch) (D : va_G) (cA : Nat → ClassId) (ad : Nat → Nat) (hI : Inj ad) (σ0 : Nat → Nat → Int32) (τ0 : Nat → Nat → Int64) (hR : Rg σ0) (a1 : Int32) (gSI0 : SI σ0) (gSIK0 : SIK σ0) : Met l yX12_restore wsX12_restore ({ frames := 1, cells := 0, slots := 0, locals := 22 } : Room) (WQc D cA ad [.ref (ad 387), .int a1] σ0 τ0) (va_Qi (fun (r : Int32) (u : SS) => P_X12_restore σ0 τ0 a1 r u.1 u.2) (WB D cA ad) (AA ad)) 0 0 (AA ad) := by
  refine Met.ofW (cc := cX12_restore) (maxL := 3) (ret := (some .boolean)) (by decide) rfl ?_
  intro p e s m args below meth c s₁ B hml hv
  obtain ⟨rfl, hP, hK, hN⟩ := hv
  have C : Cy p s m _ meth c cX12_restore 3 wsX12_restore RX12 D cA ad (some .boolean) := ⟨B.exec, B.bytes, hml, findClass_of_methodNamed B.named, atoms_spec (ws := wsX12_restore) B.pre, hK, B.notSynchronized, B.returns, hI, hN⟩
  have hl := lv_entry ([.ref (ad 387), .int a1]) (n := 3) (Nat.le_of_ble_eq_true rfl)
  rw [lg_entry_eq]
  generalize (lg_sl ([.ref (ad 387), .int a1]) ++ List.replicate (3 - (lg_sl ([.ref (ad 387), .int a1])).length) Slot.unset).toArray = ls at hl ⊢
  have hl : lv_has ls 3 [(0, .ref (ad 387)), (1, .int a1)] := hl
  have hS : va_S (AA ad) s.heap s.heap [] := va_S.rf
  have hF : Fr L_X12_restore σ0 σ0 := Fr.rf
  have hFL : FrL LL_X12_restore τ0 τ0 := FrL.rf
  have gSI := gSI0
  have gSIK := gSIK0
  have hA := A_X12_restore p l e s m _ below meth c D cA ad σ0 τ0 a1 C gSI0 gSIK0 38099
  have K27 := hA.1
  have K60 := hA.2
  clear hA
  obtain ⟨hx, hb, _, hown, hts, _, hk, hr, _, _⟩ := C
  refine lv_aload_n hx hb dX12_restore_0 rfl (lv_at hl 0 rfl) ?_
  refine r_iconst hx hb dX12_restore_1 (by decide) (fun z1 ez1 => ?_)
  refine fp_12_0 (k := 387) hx hb hts in_X12_restore_12 hown hK hP (by decide) (by decide) (hts _ lk_X12_restore_1) hI hR hS (by omega) dX12_restore_2 (fun σ2 H2 locs2 u2 v2 hR hP hS => ?_)
  have u0 := u2
  have v0 := v2
  have hF := hF.puts u2 0 rfl (by decide) (by decide) (by decide) (by decide)
  have gSI := SI.put gSI hR u2 (by decide)
  have gSIK := SIK.put gSIK hR u2 (by decide)
  refine lv_iload_n hx hb dX12_restore_5 rfl (lv_at hl 1 rfl) ?_
  refine r_iconst hx hb dX12_restore_6 (by decide) (fun z3 ez3 => ?_)
  refine r_iconst hx hb dX12_restore_7 (by decide) (fun z4 ez4 => ?_)
  refine r_cSi (As := [.int a1, .int z3, .int z4]) (rest := []) ⟨hx, hb, hml, hown, hts⟩ hK hP hN hS (c_X12_isIn l D cA ad hI σ2 τ0 hR a1 z3 z4) (va_cwS 3 hts gX12_restore_X12_isIn rfl rfl rfl (by decide +kernel) ⟨by decide, by decide⟩) rfl hl.1 rfl (Nat.le_of_ble_eq_true rfl) dX12_restore_8 (Nat.zero_le _) (Nat.zero_le _) (fun r5 u5 H5 locs5 hp5 hP hS => ?_)
  obtain ⟨σ5, τ5⟩ := u5
  obtain ⟨hR, f5, fL5, hq5, hp5_0, hp5_1⟩ : P_X12_isIn σ2 τ0 a1 z3 z4 r5 σ5 τ5 := hp5
  have hP : va_P D vwCl (gw cA ad σ5 τ5) H5 := hP
  obtain rfl := FrL.nil fL5
  obtain rfl := Fr.nil f5
  refine r_if_eq (tgt := 23) hx hb dX12_restore_11 (by decide) (fun c6 => ?_) (fun c6 => ?_)
  · clear hp5_0
    refine r_iconst hx hb dX12_restore_23 (by decide) (fun z7 ez7 => ?_)
    exact r_zret hx hb hr hK hP hS hk (by omega) dX12_restore_24 (show P_X12_restore σ0 τ0 a1 z7 σ2 τ0 from ⟨hR, hF, hFL, by omega, by first | exact RSm.no u0 (by omega) | exact RSm.n0 (i := 0) u0 (by omega) (by omega) (by omega) | exact Or.inr ⟨by omega, by omega, gRT⟩, gSI, gSIK⟩)
  · replace hp5_0 := hp5_0.resolve_left (by omega)
    refine lv_aload_n hx hb dX12_restore_14 rfl (lv_at hl 0 rfl) ?_
    refine fg_12_46 (k := 387) hx hb hts in_X12_restore_12 hown hK hP (by decide) (by decide) (hts _ lk_X12_restore_84) dX12_restore_15 ?_
    refine lv_iload_n hx hb dX12_restore_18 rfl (lv_at hl 1 rfl) ?_
    obtain ⟨j8, ej8⟩ : ∃ j : Nat, a1.toInt = (j : Int) := ⟨_, ti_nat (by omega)⟩
    refine ad_mareKept (k := 405) (j := j8) hx hb hK hP (by decide) (by decide) ej8 (by omega) dX12_restore_19 ?_
    refine r_if_ne (tgt := 25) hx hb dX12_restore_20 (by decide) (fun c9 => ?_) (fun c9 => ?_)
    · refine r_iconst hx hb dX12_restore_25 (by decide) (fun z10 ez10 => ?_)
      refine lv_istore_n (lv' := [(2, .int z10), (0, .ref (ad 387)), (1, .int a1)]) hx hb dX12_restore_26 rfl hl (by decide) rfl (fun ls hl => ?_)
      exact K27 σ2 τ0 H5 locs5 z10 ls hR hF hFL hP hS (by omega) (by omega) (by first | exact (fun i j _ hj => absurd hj (by omega)) | exact R1st hi0 us vs (by omega) (by omega) (by omega) (by omega) (by omega)) (by first | exact (fun i hi => by rw [us 405 i (by omega)]; exact hi1 i hi) | exact (fun i hi => by have ej : i = j8 := (by omega); subst ej; omega)) gSIK (lv_sub hl [1, 2, 0] rfl) (by omega)
    · refine r_iconst hx hb dX12_restore_23 (by decide) (fun z11 ez11 => ?_)
      exact r_zret hx hb hr hK hP hS hk (by omega) dX12_restore_24 (show P_X12_restore σ0 τ0 a1 z11 σ2 τ0 from ⟨hR, hF, hFL, by omega, by first | exact RSm.no u0 (by omega) | exact RSm.n0 (i := j8) u0 (by omega) (by omega) (by omega) | exact Or.inr ⟨by omega, by omega, gRT⟩, gSI, gSIK⟩)
theorem in_X12_count_12 : ∀ w ∈ u_ws RX12 TX12 47, w ∈ wsX12_count := by decide +kernel
theorem lk_X12_count_1 : Cond.fieldLink RX12 1 "CuckooSharesModel" "thrown" "I" ∈ wsX12_count := by decide +kernel
theorem lk_X12_count_33 : Cond.fieldLink RX12 33 "CuckooSharesModel" "s" "[I" ∈ wsX12_count := by decide +kernel
theorem lk_X12_count_7 : Cond.fieldLink RX12 7 "CuckooSharesModel" "length" "I" ∈ wsX12_count := by decide +kernel
abbrev L_X12_count : List Rc := [(387, 387, 0, 0)]
abbrev LL_X12_count : List Rc := []
def P_X12_count (σ0 : Nat → Nat → Int32) (τ0 : Nat → Nat → Int64) (a1 : Int32) (r : Int32) (σ : Nat → Nat → Int32) (τ : Nat → Nat → Int64) : Prop := Rg σ ∧ Fr L_X12_count σ0 σ ∧ FrL LL_X12_count τ0 τ ∧ (r.toInt = coH (fun j : Nat => (σ0 389 j).toInt) (σ0 387 2).toInt a1.toInt)
set_option maxHeartbeats 4000000 in
theorem c_X12_count (l : Launch) (D : va_G) (cA : Nat → ClassId) (ad : Nat → Nat) (hI : Inj ad) (σ0 : Nat → Nat → Int32) (τ0 : Nat → Nat → Int64) (hR : Rg σ0) (a1 : Int32) (gSI0 : SI σ0) : Met l yX12_count wsX12_count ({ frames := 1, cells := 0, slots := 0, locals := 22 } : Room) (WQc D cA ad [.ref (ad 387), .int a1] σ0 τ0) (va_Qi (fun (r : Int32) (u : SS) => P_X12_count σ0 τ0 a1 r u.1 u.2) (WB D cA ad) (AA ad)) 0 0 (AA ad) := by
  refine Met.ofW (cc := cX12_count) (maxL := 2) (ret := (some .int)) (by decide) rfl ?_
  intro p e s m args below meth c s₁ B hml hv
  obtain ⟨rfl, hP, hK, hN⟩ := hv
  have C : Cy p s m _ meth c cX12_count 2 wsX12_count RX12 D cA ad (some .int) := ⟨B.exec, B.bytes, hml, findClass_of_methodNamed B.named, atoms_spec (ws := wsX12_count) B.pre, hK, B.notSynchronized, B.returns, hI, hN⟩
  have hl := lv_entry ([.ref (ad 387), .int a1]) (n := 2) (Nat.le_of_ble_eq_true rfl)
  rw [lg_entry_eq]
  generalize (lg_sl ([.ref (ad 387), .int a1]) ++ List.replicate (2 - (lg_sl ([.ref (ad 387), .int a1])).length) Slot.unset).toArray = ls at hl ⊢
  have hl : lv_has ls 2 [(0, .ref (ad 387)), (1, .int a1)] := hl
  have hS : va_S (AA ad) s.heap s.heap [] := va_S.rf
  have hF : Fr L_X12_count σ0 σ0 := Fr.rf
  have hFL : FrL LL_X12_count τ0 τ0 := FrL.rf
  have gSI := gSI0
  obtain ⟨hx, hb, _, hown, hts, _, hk, hr, _, _⟩ := C
  refine lv_aload_n hx hb dX12_count_0 rfl (lv_at hl 0 rfl) ?_
  refine r_iconst hx hb dX12_count_1 (by decide) (fun z1 ez1 => ?_)
  refine fp_12_0 (k := 387) hx hb hts in_X12_count_12 hown hK hP (by decide) (by decide) (hts _ lk_X12_count_1) hI hR hS (by omega) dX12_count_2 (fun σ2 H2 locs2 u2 v2 hR hP hS => ?_)
  have u0 := u2
  have v0 := v2
  have hF := hF.puts u2 0 rfl (by decide) (by decide) (by decide) (by decide)
  have gSI := SI.put gSI hR u2 (by decide)
  refine lv_iload_n hx hb dX12_count_5 rfl (lv_at hl 1 rfl) ?_
  by_cases c3 : a1.toInt = 3
  · refine lv_tableIn (off := 26) (tgt := 32) hx hb dX12_count_6 (by omega) (by omega) (by rw [c3]; rfl) (by decide) ?_
    refine lv_aload_n hx hb dX12_count_32 rfl (lv_at hl 0 rfl) ?_
    refine r_cVi (k := 387) (As := []) (rest := []) ⟨hx, hb, hml, hown, hts⟩ hK hP hN hS (c_X12_chances l D cA ad hI σ2 τ0 hR gSI) (cwV 0 hts gX12_count_X12_chances rfl rfl rfl (by decide +kernel) ⟨by decide, by decide⟩) (rv_M hK hP (by decide) (by decide)) rfl hl.1 rfl (Nat.le_of_ble_eq_true rfl) dX12_count_33 (Nat.zero_le _) (Nat.zero_le _) (fun r4 u4 H4 locs4 hp4 hP hS => ?_)
    obtain ⟨σ4, τ4⟩ := u4
    obtain ⟨hR, f4, fL4, hq4, hp4_0, hp4_1⟩ : P_X12_chances σ2 τ0 r4 σ4 τ4 := hp4
    have hchz := hp4_0
    have hP : va_P D vwCl (gw cA ad σ4 τ4) H4 := hP
    obtain rfl := FrL.nil fL4
    obtain rfl := Fr.nil f4
    exact r_iret hx hb hr hK hP hS hk dX12_count_36 (show P_X12_count σ0 τ0 a1 r4 σ2 τ0 from ⟨hR, hF, hFL, by rw [← MS0 u0, ← (show (σ2 387 2).toInt = (σ0 387 2).toInt from congrArg Int32.toInt (u0 387 2 (by omega)))]; first | exact coH_of (by omega) | exact coH_of (Or.inr (Or.inr (Or.inr (Or.inl ⟨by omega, PF_ch hchz⟩)))) | exact coM (by omega) (by omega)⟩)
  by_cases c5 : a1.toInt = 4
  · refine lv_tableIn (off := 31) (tgt := 37) hx hb dX12_count_6 (by omega) (by omega) (by rw [c5]; rfl) (by decide) ?_
    refine lv_aload_n hx hb dX12_count_37 rfl (lv_at hl 0 rfl) ?_
    refine fg_12_6 (k := 387) hx hb hts in_X12_count_12 hown hK hP (by decide) (by decide) (hts _ lk_X12_count_33) dX12_count_38 ?_
    refine r_iconst hx hb dX12_count_41 (by decide) (fun z6 ez6 => ?_)
    refine ad_ms (k := 389) (j := 4) hx hb hK hP (by decide) (by decide) (by omega) (by omega) dX12_count_42 ?_
    exact r_iret hx hb hr hK hP hS hk dX12_count_43 (show P_X12_count σ0 τ0 a1 (σ2 389 4) σ2 τ0 from ⟨hR, hF, hFL, by rw [← MS0 u0, ← (show (σ2 387 2).toInt = (σ0 387 2).toInt from congrArg Int32.toInt (u0 387 2 (by omega)))]; first | exact coH_of (by omega) | exact coH_of (Or.inr (Or.inr (Or.inr (Or.inl ⟨by omega, PF_ch hchz⟩)))) | exact coM (by omega) (by omega)⟩)
  by_cases c7 : a1.toInt = 5
  · refine lv_tableIn (off := 38) (tgt := 44) hx hb dX12_count_6 (by omega) (by omega) (by rw [c7]; rfl) (by decide) ?_
    refine lv_aload_n hx hb dX12_count_44 rfl (lv_at hl 0 rfl) ?_
    refine fg_12_2 (k := 387) hx hb hts in_X12_count_12 hown hK hP (by decide) (by decide) (hts _ lk_X12_count_7) dX12_count_45 ?_
    have hr8 := rg_12_2 hR (k := 387) (by decide) (by decide)
    exact r_iret hx hb hr hK hP hS hk dX12_count_48 (show P_X12_count σ0 τ0 a1 (σ2 387 2) σ2 τ0 from ⟨hR, hF, hFL, by rw [← MS0 u0, ← (show (σ2 387 2).toInt = (σ0 387 2).toInt from congrArg Int32.toInt (u0 387 2 (by omega)))]; first | exact coH_of (by omega) | exact coH_of (Or.inr (Or.inr (Or.inr (Or.inl ⟨by omega, PF_ch hchz⟩)))) | exact coM (by omega) (by omega)⟩)
  refine lv_tableOut (tgt := 49) hx hb dX12_count_6 (by omega) (by decide) ?_
  refine lv_iload_n hx hb dX12_count_49 rfl (lv_at hl 1 rfl) ?_
  refine r_iconst hx hb dX12_count_50 (by decide) (fun z9 ez9 => ?_)
  refine r_iconst hx hb dX12_count_51 (by decide) (fun z10 ez10 => ?_)
  refine r_cSi (As := [.int a1, .int z9, .int z10]) (rest := []) ⟨hx, hb, hml, hown, hts⟩ hK hP hN hS (c_X12_isIn l D cA ad hI σ2 τ0 hR a1 z9 z10) (va_cwS 3 hts gX12_count_X12_isIn rfl rfl rfl (by decide +kernel) ⟨by decide, by decide⟩) rfl hl.1 rfl (Nat.le_of_ble_eq_true rfl) dX12_count_52 (Nat.zero_le _) (Nat.zero_le _) (fun r11 u11 H11 locs11 hp11 hP hS => ?_)
  obtain ⟨σ11, τ11⟩ := u11
  obtain ⟨hR, f11, fL11, hq11, hp11_0, hp11_1⟩ : P_X12_isIn σ2 τ0 a1 z9 z10 r11 σ11 τ11 := hp11
  have hP : va_P D vwCl (gw cA ad σ11 τ11) H11 := hP
  obtain rfl := FrL.nil fL11
  obtain rfl := Fr.nil f11
  refine r_if_eq (tgt := 67) hx hb dX12_count_55 (by decide) (fun c12 => ?_) (fun c12 => ?_)
  · clear hp11_0
    refine r_iconst hx hb dX12_count_67 (by decide) (fun z13 ez13 => ?_)
    exact r_iret hx hb hr hK hP hS hk dX12_count_68 (show P_X12_count σ0 τ0 a1 z13 σ2 τ0 from ⟨hR, hF, hFL, by rw [← MS0 u0, ← (show (σ2 387 2).toInt = (σ0 387 2).toInt from congrArg Int32.toInt (u0 387 2 (by omega)))]; first | exact coH_of (by omega) | exact coH_of (Or.inr (Or.inr (Or.inr (Or.inl ⟨by omega, PF_ch hchz⟩)))) | exact coM (by omega) (by omega)⟩)
  · replace hp11_0 := hp11_0.resolve_left (by omega)
    refine lv_aload_n hx hb dX12_count_58 rfl (lv_at hl 0 rfl) ?_
    refine fg_12_6 (k := 387) hx hb hts in_X12_count_12 hown hK hP (by decide) (by decide) (hts _ lk_X12_count_33) dX12_count_59 ?_
    refine lv_iload_n hx hb dX12_count_62 rfl (lv_at hl 1 rfl) ?_
    obtain ⟨j14, ej14⟩ : ∃ j : Nat, a1.toInt = (j : Int) := ⟨_, ti_nat (by omega)⟩
    refine ad_ms (k := 389) (j := j14) hx hb hK hP (by decide) (by decide) ej14 (by omega) dX12_count_63 ?_
    refine lv_goto (tgt := 68) hx hb dX12_count_64 (by decide) ?_
    exact r_iret hx hb hr hK hP hS hk dX12_count_68 (show P_X12_count σ0 τ0 a1 (σ2 389 j14) σ2 τ0 from ⟨hR, hF, hFL, by rw [← MS0 u0, ← (show (σ2 387 2).toInt = (σ0 387 2).toInt from congrArg Int32.toInt (u0 387 2 (by omega)))]; first | exact coH_of (by omega) | exact coH_of (Or.inr (Or.inr (Or.inr (Or.inl ⟨by omega, PF_ch hchz⟩)))) | exact coM (by omega) (by omega)⟩)
