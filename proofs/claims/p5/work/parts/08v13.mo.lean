theorem in_X12_enough_12 : ∀ w ∈ u_ws RX12 TX12 47, w ∈ wsX12_enough := by decide +kernel
theorem lk_X12_enough_1 : Cond.fieldLink RX12 1 "CuckooSharesModel" "thrown" "I" ∈ wsX12_enough := by decide +kernel
theorem lk_X12_enough_33 : Cond.fieldLink RX12 33 "CuckooSharesModel" "s" "[I" ∈ wsX12_enough := by decide +kernel
theorem lk_X12_enough_59 : Cond.fieldLink RX12 59 "CuckooSharesModel" "shares" "[I" ∈ wsX12_enough := by decide +kernel
abbrev L_X12_enough : List Rc := [(387, 387, 0, 0), (394, 394, 0, 7), (395, 395, 0, 7), (396, 396, 0, 7), (387, 387, 26, 26), (397, 397, 0, 7)]
abbrev LL_X12_enough : List Rc := []
def P_X12_enough (σ0 : Nat → Nat → Int32) (τ0 : Nat → Nat → Int64) (a1 : Int32) (r : Int32) (σ : Nat → Nat → Int32) (τ : Nat → Nat → Int64) : Prop := Rg σ ∧ Fr L_X12_enough σ0 σ ∧ FrL LL_X12_enough τ0 τ
def J_X12_enough_34 (p : Program) (l : Launch) (e : Env) (s : State) (m : MethodId) (args : Array Value) (below : List Frame) (meth : Method) (c : Code) (D : va_G) (cA : Nat → ClassId) (ad : Nat → Nat) (σ0 : Nat → Nat → Int32) (τ0 : Nat → Nat → Int64) (a1 : Int32) (n : Nat) : Prop := ∀ (σ : Nat → Nat → Int32) (τ : Nat → Nat → Int64) (H : Heap) (locs : List Loc) (x2 : Int32) (x3 : Int32) (ls : Array Slot), Rg σ → Fr L_X12_enough σ0 σ → FrL LL_X12_enough τ0 τ → va_P D vwCl (gw cA ad σ τ) H → va_S (AA ad) s.heap H locs → (0 ≤ a1.toInt ∧ a1.toInt ≤ 3) → (0 ≤ x3.toInt ∧ x3.toInt ≤ 8) → lv_has ls 4 [(0, .ref (ad 387)), (1, .int a1), (2, .int x2), (3, .int x3)] → 2 * (8 - x3.toInt) + 1 < (n : Int) → W p l e ({ frames := 6, cells := 0, slots := 0, locals := 140 } : Room) s m args below meth c H locs 0 0 (MQ below (va_Qi (fun (r : Int32) (u : SS) => P_X12_enough σ0 τ0 a1 r u.1 u.2) (WB D cA ad) (AA ad)) args s 0 0 (AA ad)) (F0 m 34 ls [])
set_option maxHeartbeats 4000000 in
theorem B_X12_enough_34 (p : Program) (l : Launch) (e : Env) (s : State) (m : MethodId) (args : Array Value) (below : List Frame) (meth : Method) (c : Code) (D : va_G) (cA : Nat → ClassId) (ad : Nat → Nat) (σ0 : Nat → Nat → Int32) (τ0 : Nat → Nat → Int64) (a1 : Int32) (n : Nat) (C : Cy p s m args meth c cX12_enough 4 wsX12_enough RX12 D cA ad (some .int))  (K34 : J_X12_enough_34 p l e s m args below meth c D cA ad σ0 τ0 a1 n) : J_X12_enough_34 p l e s m args below meth c D cA ad σ0 τ0 a1 (n + 1) := by
  obtain ⟨hx, hb, hml, hown, hts, hK, hk, hr, hI, hN⟩ := C
  intro σ τ H locs x2 x3 ls hR hF hFL hP hS hc0 hc1 hl hm
  obtain rfl := FrL.nil hFL
  refine lv_iload_n hx hb dX12_enough_34 rfl (lv_at hl 3 rfl) ?_
  refine lv_aload_n hx hb dX12_enough_35 rfl (lv_at hl 0 rfl) ?_
  refine fg_12_6 (k := 387) hx hb hts in_X12_enough_12 hown hK hP (by decide) (by decide) (hts _ lk_X12_enough_33) dX12_enough_36 ?_
  refine r_iconst hx hb dX12_enough_39 (by decide) (fun z1 ez1 => ?_)
  refine ad_ms (k := 389) (j := 1) hx hb hK hP (by decide) (by decide) (by omega) (by omega) dX12_enough_40 ?_
  have hr2 := ra_ms_0 hR (k := 389) (j := 1) (by decide) (by decide) (by decide) (by decide)
  refine r_icmp_ge (tgt := 92) hx hb dX12_enough_41 (by decide) (fun c3 => ?_) (fun c3 => ?_)
  · refine lv_iload_n hx hb dX12_enough_92 rfl (lv_at hl 2 rfl) ?_
    exact r_iret hx hb hr hK hP hS hk dX12_enough_93 (show P_X12_enough σ0 τ0 a1 x2 σ τ0 from ⟨hR, hF, hFL⟩)
  · refine lv_iload_n hx hb dX12_enough_44 rfl (lv_at hl 2 rfl) ?_
    refine lv_aload_n hx hb dX12_enough_45 rfl (lv_at hl 0 rfl) ?_
    refine fg_12_6 (k := 387) hx hb hts in_X12_enough_12 hown hK hP (by decide) (by decide) (hts _ lk_X12_enough_33) dX12_enough_46 ?_
    refine r_bipush hx hb dX12_enough_49 (by decide) (fun z4 ez4 => ?_)
    refine lv_iload_n hx hb dX12_enough_51 rfl (lv_at hl 3 rfl) ?_
    refine r_iadd hx hb dX12_enough_52 (by omega) (fun z5 ez5 => ?_)
    obtain ⟨j6, ej6⟩ : ∃ j : Nat, z5.toInt = (j : Int) := ⟨_, ti_nat (by omega)⟩
    refine ad_ms (k := 389) (j := j6) hx hb hK hP (by decide) (by decide) ej6 (by omega) dX12_enough_53 ?_
    refine r_if_le (tgt := 83) hx hb dX12_enough_54 (by decide) (fun c7 => ?_) (fun c7 => ?_)
    · refine r_iconst hx hb dX12_enough_83 (by decide) (fun z8 ez8 => ?_)
      refine r_iorU hx hb dX12_enough_84 (fun z9 => ?_)
      refine lv_istore_n (lv' := [(2, .int z9), (0, .ref (ad 387)), (1, .int a1), (3, .int x3)]) hx hb dX12_enough_85 rfl hl (by decide) rfl (fun ls hl => ?_)
      refine r_iinc (k := 3) (lv1 := fun z10 => [(3, .int z10), (2, .int z9), (0, .ref (ad 387)), (1, .int a1)]) hx hb dX12_enough_86 hl rfl (by decide) (fun _ => rfl) (by decide) (by omega) (fun z10 ls ez10 hl => ?_)
      refine lv_goto (tgt := 34) hx hb dX12_enough_89 (by decide) ?_
      exact K34 σ τ0 H locs z9 z10 ls hR hF hFL hP hS (by omega) (by omega) (lv_sub hl [2, 3, 1, 0] rfl) (by omega)
    · refine lv_aload_n hx hb dX12_enough_57 rfl (lv_at hl 0 rfl) ?_
      refine fg_12_25 (k := 387) hx hb hts in_X12_enough_12 hown hK hP (by decide) (by decide) (hts _ lk_X12_enough_59) dX12_enough_58 ?_
      refine lv_iload_n hx hb dX12_enough_61 rfl (lv_at hl 3 rfl) ?_
      obtain ⟨j11, ej11⟩ : ∃ j : Nat, x3.toInt = (j : Int) := ⟨_, ti_nat (by omega)⟩
      refine ad_mp8 (k := 397) (j := j11) hx hb hK hP (by decide) (by decide) ej11 (by omega) dX12_enough_62 ?_
      refine lv_aload_n hx hb dX12_enough_63 rfl (lv_at hl 0 rfl) ?_
      refine fg_12_6 (k := 387) hx hb hts in_X12_enough_12 hown hK hP (by decide) (by decide) (hts _ lk_X12_enough_33) dX12_enough_64 ?_
      refine r_bipush hx hb dX12_enough_67 (by decide) (fun z12 ez12 => ?_)
      refine lv_iload_n hx hb dX12_enough_69 rfl (lv_at hl 3 rfl) ?_
      refine r_iadd hx hb dX12_enough_70 (by omega) (fun z13 ez13 => ?_)
      refine ad_ms (k := 389) (j := j6) hx hb hK hP (by decide) (by decide) (by omega) (by omega) dX12_enough_71 ?_
      refine r_iconst hx hb dX12_enough_72 (by decide) (fun z14 ez14 => ?_)
      have b16 := And.intro (ti_lo (σ 389 j6)) (ti_hi (σ 389 j6))
      refine r_isub hx hb dX12_enough_73 (by omega) (fun z15 ez15 => ?_)
      refine r_icmp_lt (tgt := 83) hx hb dX12_enough_74 (by decide) (fun c17 => ?_) (fun c17 => ?_)
      · refine r_iconst hx hb dX12_enough_83 (by decide) (fun z18 ez18 => ?_)
        refine r_iorU hx hb dX12_enough_84 (fun z19 => ?_)
        refine lv_istore_n (lv' := [(2, .int z19), (0, .ref (ad 387)), (1, .int a1), (3, .int x3)]) hx hb dX12_enough_85 rfl hl (by decide) rfl (fun ls hl => ?_)
        refine r_iinc (k := 3) (lv1 := fun z20 => [(3, .int z20), (2, .int z19), (0, .ref (ad 387)), (1, .int a1)]) hx hb dX12_enough_86 hl rfl (by decide) (fun _ => rfl) (by decide) (by omega) (fun z20 ls ez20 hl => ?_)
        refine lv_goto (tgt := 34) hx hb dX12_enough_89 (by decide) ?_
        exact K34 σ τ0 H locs z19 z20 ls hR hF hFL hP hS (by omega) (by omega) (lv_sub hl [2, 3, 1, 0] rfl) (by omega)
      · refine r_iconst hx hb dX12_enough_77 (by decide) (fun z21 ez21 => ?_)
        refine lv_iload_n hx hb dX12_enough_78 rfl (lv_at hl 3 rfl) ?_
        refine r_ishlU hx hb dX12_enough_79 (fun z22 => ?_)
        refine lv_goto (tgt := 84) hx hb dX12_enough_80 (by decide) ?_
        refine r_iorU hx hb dX12_enough_84 (fun z23 => ?_)
        refine lv_istore_n (lv' := [(2, .int z23), (0, .ref (ad 387)), (1, .int a1), (3, .int x3)]) hx hb dX12_enough_85 rfl hl (by decide) rfl (fun ls hl => ?_)
        refine r_iinc (k := 3) (lv1 := fun z24 => [(3, .int z24), (2, .int z23), (0, .ref (ad 387)), (1, .int a1)]) hx hb dX12_enough_86 hl rfl (by decide) (fun _ => rfl) (by decide) (by omega) (fun z24 ls ez24 hl => ?_)
        refine lv_goto (tgt := 34) hx hb dX12_enough_89 (by decide) ?_
        exact K34 σ τ0 H locs z23 z24 ls hR hF hFL hP hS (by omega) (by omega) (lv_sub hl [2, 3, 1, 0] rfl) (by omega)
theorem A_X12_enough (p : Program) (l : Launch) (e : Env) (s : State) (m : MethodId) (args : Array Value) (below : List Frame) (meth : Method) (c : Code) (D : va_G) (cA : Nat → ClassId) (ad : Nat → Nat) (σ0 : Nat → Nat → Int32) (τ0 : Nat → Nat → Int64) (a1 : Int32) (C : Cy p s m args meth c cX12_enough 4 wsX12_enough RX12 D cA ad (some .int))  : ∀ n : Nat, J_X12_enough_34 p l e s m args below meth c D cA ad σ0 τ0 a1 n := by
  intro n
  induction n with
  | zero =>
    exact (by intro σ τ H locs x2 x3 ls hR hF hFL hP hS hc0 hc1 hl hm; exfalso; omega)
  | succ n ih =>
    exact B_X12_enough_34 p l e s m args below meth c D cA ad σ0 τ0 a1 n C  ih
set_option maxHeartbeats 4000000 in
theorem c_X12_enough (l : Launch) (D : va_G) (cA : Nat → ClassId) (ad : Nat → Nat) (hI : Inj ad) (σ0 : Nat → Nat → Int32) (τ0 : Nat → Nat → Int64) (hR : Rg σ0) (a1 : Int32)  : Met l yX12_enough wsX12_enough ({ frames := 6, cells := 0, slots := 0, locals := 140 } : Room) (WQc D cA ad [.ref (ad 387), .int a1] σ0 τ0) (va_Qi (fun (r : Int32) (u : SS) => P_X12_enough σ0 τ0 a1 r u.1 u.2) (WB D cA ad) (AA ad)) 0 0 (AA ad) := by
  refine Met.ofW (cc := cX12_enough) (maxL := 4) (ret := (some .int)) (by decide) rfl ?_
  intro p e s m args below meth c s₁ B hml hv
  obtain ⟨rfl, hP, hK, hN⟩ := hv
  have C : Cy p s m _ meth c cX12_enough 4 wsX12_enough RX12 D cA ad (some .int) := ⟨B.exec, B.bytes, hml, findClass_of_methodNamed B.named, atoms_spec (ws := wsX12_enough) B.pre, hK, B.notSynchronized, B.returns, hI, hN⟩
  have hl := lv_entry ([.ref (ad 387), .int a1]) (n := 4) (Nat.le_of_ble_eq_true rfl)
  rw [lg_entry_eq]
  generalize (lg_sl ([.ref (ad 387), .int a1]) ++ List.replicate (4 - (lg_sl ([.ref (ad 387), .int a1])).length) Slot.unset).toArray = ls at hl ⊢
  have hl : lv_has ls 4 [(0, .ref (ad 387)), (1, .int a1)] := hl
  have hS : va_S (AA ad) s.heap s.heap [] := va_S.rf
  have hF : Fr L_X12_enough σ0 σ0 := Fr.rf
  have hFL : FrL LL_X12_enough τ0 τ0 := FrL.rf
  have hA := A_X12_enough p l e s m _ below meth c D cA ad σ0 τ0 a1 C  42
  have K34 := hA
  clear hA
  obtain ⟨hx, hb, _, hown, hts, _, hk, hr, _, _⟩ := C
  refine lv_aload_n hx hb dX12_enough_0 rfl (lv_at hl 0 rfl) ?_
  refine r_iconst hx hb dX12_enough_1 (by decide) (fun z1 ez1 => ?_)
  refine fp_12_0 (k := 387) hx hb hts in_X12_enough_12 hown hK hP (by decide) (by decide) (hts _ lk_X12_enough_1) hI hR hS (by omega) dX12_enough_2 (fun σ2 H2 locs2 u2 v2 hR hP hS => ?_)
  have hF := hF.puts u2 0 rfl (by decide) (by decide) (by decide) (by decide)
  refine lv_aload_n hx hb dX12_enough_5 rfl (lv_at hl 0 rfl) ?_
  refine lv_iload_n hx hb dX12_enough_6 rfl (lv_at hl 1 rfl) ?_
  refine r_cVi (k := 387) (As := [.int a1]) (rest := []) ⟨hx, hb, hml, hown, hts⟩ hK hP hN hS (c_X12_isFlight l D cA ad hI σ2 τ0 hR a1) (cwV 1 hts gX12_enough_X12_isFlight rfl rfl rfl (by decide +kernel) ⟨by decide, by decide⟩) (rv_M hK hP (by decide) (by decide)) rfl hl.1 rfl (Nat.le_of_ble_eq_true rfl) dX12_enough_7 (Nat.zero_le _) (Nat.zero_le _) (fun r3 u3 H3 locs3 hp3 hP hS => ?_)
  obtain ⟨σ3, τ3⟩ := u3
  obtain ⟨hR, f3, fL3, hq3, hp3_0, hp3_1⟩ : P_X12_isFlight σ2 τ0 a1 r3 σ3 τ3 := hp3
  have hP : va_P D vwCl (gw cA ad σ3 τ3) H3 := hP
  obtain rfl := FrL.nil fL3
  obtain rfl := Fr.nil f3
  refine r_if_ne (tgt := 15) hx hb dX12_enough_10 (by decide) (fun c4 => ?_) (fun c4 => ?_)
  · replace hp3_0 := hp3_0.resolve_left (by omega)
    refine lv_aload_n hx hb dX12_enough_15 rfl (lv_at hl 0 rfl) ?_
    refine r_cVv (k := 387) (As := []) (rest := []) ⟨hx, hb, hml, hown, hts⟩ hK hP hN hS (c_X12_asNow l D cA ad hI σ2 τ0 hR) (cwV 0 hts gX12_enough_X12_asNow rfl rfl rfl (by decide +kernel) ⟨by decide, by decide⟩) (rv_M hK hP (by decide) (by decide)) rfl hl.1 rfl (Nat.le_of_ble_eq_true rfl) dX12_enough_16 (Nat.zero_le _) (Nat.zero_le _) (fun u5 H5 locs5 hp5 hP hS => ?_)
    obtain ⟨σ5, τ5⟩ := u5
    obtain ⟨hR, f5, fL5⟩ : P_X12_asNow σ2 τ0 σ5 τ5 := hp5
    have hP : va_P D vwCl (gw cA ad σ5 τ5) H5 := hP
    obtain rfl := FrL.nil fL5
    have hF := hF.step f5 (by decide)
    refine lv_aload_n hx hb dX12_enough_19 rfl (lv_at hl 0 rfl) ?_
    refine lv_iload_n hx hb dX12_enough_20 rfl (lv_at hl 1 rfl) ?_
    refine lv_aload_n hx hb dX12_enough_21 rfl (lv_at hl 0 rfl) ?_
    refine fg_12_6 (k := 387) hx hb hts in_X12_enough_12 hown hK hP (by decide) (by decide) (hts _ lk_X12_enough_33) dX12_enough_22 ?_
    refine r_iconst hx hb dX12_enough_25 (by decide) (fun z6 ez6 => ?_)
    refine ad_ms (k := 389) (j := 4) hx hb hK hP (by decide) (by decide) (by omega) (by omega) dX12_enough_26 ?_
    refine r_cVv (k := 387) (As := [.int a1, .int (σ5 389 4)]) (rest := []) ⟨hx, hb, hml, hown, hts⟩ hK hP hN hS (c_X12_sharesBy l D cA ad hI σ5 τ0 hR a1 (σ5 389 4) (by omega)) (cwV 2 hts gX12_enough_X12_sharesBy rfl rfl rfl (by decide +kernel) ⟨by decide, by decide⟩) (rv_M hK hP (by decide) (by decide)) rfl hl.1 rfl (Nat.le_of_ble_eq_true rfl) dX12_enough_27 (Nat.zero_le _) (Nat.zero_le _) (fun u7 H7 locs7 hp7 hP hS => ?_)
    obtain ⟨σ7, τ7⟩ := u7
    obtain ⟨hR, f7, fL7⟩ : P_X12_sharesBy σ5 τ0 a1 (σ5 389 4) σ7 τ7 := hp7
    have hP : va_P D vwCl (gw cA ad σ7 τ7) H7 := hP
    obtain rfl := FrL.nil fL7
    have hF := hF.step f7 (by decide)
    refine r_iconst hx hb dX12_enough_30 (by decide) (fun z8 ez8 => ?_)
    refine lv_istore_n (lv' := [(2, .int z8), (0, .ref (ad 387)), (1, .int a1)]) hx hb dX12_enough_31 rfl hl (by decide) rfl (fun ls hl => ?_)
    refine r_iconst hx hb dX12_enough_32 (by decide) (fun z9 ez9 => ?_)
    refine lv_istore_n (lv' := [(3, .int z9), (2, .int z8), (0, .ref (ad 387)), (1, .int a1)]) hx hb dX12_enough_33 rfl hl (by decide) rfl (fun ls hl => ?_)
    exact K34 σ7 τ0 H7 locs7 z8 z9 ls hR hF hFL hP hS (by omega) (by omega) (lv_sub hl [2, 3, 1, 0] rfl) (by omega)
  · clear hp3_0
    refine r_iconst hx hb dX12_enough_13 (by decide) (fun z10 ez10 => ?_)
    exact r_iret hx hb hr hK hP hS hk dX12_enough_14 (show P_X12_enough σ0 τ0 a1 z10 σ2 τ0 from ⟨hR, hF, hFL⟩)
theorem in_X12_least_12 : ∀ w ∈ u_ws RX12 TX12 47, w ∈ wsX12_least := by decide +kernel
theorem lk_X12_least_1 : Cond.fieldLink RX12 1 "CuckooSharesModel" "thrown" "I" ∈ wsX12_least := by decide +kernel
theorem lk_X12_least_305 : Cond.fieldLink RX12 305 "CuckooSharesModel" "sharers" "I" ∈ wsX12_least := by decide +kernel
theorem lk_X12_least_33 : Cond.fieldLink RX12 33 "CuckooSharesModel" "s" "[I" ∈ wsX12_least := by decide +kernel
theorem lk_X12_least_59 : Cond.fieldLink RX12 59 "CuckooSharesModel" "shares" "[I" ∈ wsX12_least := by decide +kernel
abbrev L_X12_least : List Rc := [(387, 387, 0, 0), (394, 394, 0, 7), (395, 395, 0, 7), (396, 396, 0, 7), (387, 387, 26, 26), (397, 397, 0, 7)]
abbrev LL_X12_least : List Rc := []
def P_X12_least (σ0 : Nat → Nat → Int32) (τ0 : Nat → Nat → Int64) (a1 : Int32) (r : Int32) (σ : Nat → Nat → Int32) (τ : Nat → Nat → Int64) : Prop := Rg σ ∧ Fr L_X12_least σ0 σ ∧ FrL LL_X12_least τ0 τ ∧ (-1 ≤ r.toInt ∧ r.toInt ≤ 999)
def J_X12_least_21 (p : Program) (l : Launch) (e : Env) (s : State) (m : MethodId) (args : Array Value) (below : List Frame) (meth : Method) (c : Code) (D : va_G) (cA : Nat → ClassId) (ad : Nat → Nat) (σ0 : Nat → Nat → Int32) (τ0 : Nat → Nat → Int64) (a1 : Int32) (n : Nat) : Prop := ∀ (σ : Nat → Nat → Int32) (τ : Nat → Nat → Int64) (H : Heap) (locs : List Loc) (x2 : Int32) (ls : Array Slot), Rg σ → Fr L_X12_least σ0 σ → FrL LL_X12_least τ0 τ → va_P D vwCl (gw cA ad σ τ) H → va_S (AA ad) s.heap H locs → (0 ≤ a1.toInt ∧ a1.toInt ≤ 3) → (0 ≤ x2.toInt ∧ x2.toInt ≤ 1000) → lv_has ls 5 [(0, .ref (ad 387)), (1, .int a1), (2, .int x2)] → 21 * (1000 - x2.toInt) + 20 < (n : Int) → W p l e ({ frames := 6, cells := 0, slots := 0, locals := 140 } : Room) s m args below meth c H locs 0 0 (MQ below (va_Qi (fun (r : Int32) (u : SS) => P_X12_least σ0 τ0 a1 r u.1 u.2) (WB D cA ad) (AA ad)) args s 0 0 (AA ad)) (F0 m 21 ls [])
def J_X12_least_50 (p : Program) (l : Launch) (e : Env) (s : State) (m : MethodId) (args : Array Value) (below : List Frame) (meth : Method) (c : Code) (D : va_G) (cA : Nat → ClassId) (ad : Nat → Nat) (σ0 : Nat → Nat → Int32) (τ0 : Nat → Nat → Int64) (a1 : Int32) (n : Nat) : Prop := ∀ (σ : Nat → Nat → Int32) (τ : Nat → Nat → Int64) (H : Heap) (locs : List Loc) (x2 : Int32) (x3 : Int32) (x4 : Int32) (ls : Array Slot), Rg σ → Fr L_X12_least σ0 σ → FrL LL_X12_least τ0 τ → va_P D vwCl (gw cA ad σ τ) H → va_S (AA ad) s.heap H locs → (0 ≤ a1.toInt ∧ a1.toInt ≤ 3) → (0 ≤ x2.toInt ∧ x2.toInt ≤ 999) → (0 ≤ x3.toInt ∧ x3.toInt ≤ 1) → (0 ≤ x4.toInt ∧ x4.toInt ≤ 8) → lv_has ls 5 [(0, .ref (ad 387)), (1, .int a1), (2, .int x2), (3, .int x3), (4, .int x4)] → 2 * (8 - x4.toInt) + 21 * (1000 - x2.toInt) + 1 < (n : Int) → W p l e ({ frames := 6, cells := 0, slots := 0, locals := 140 } : Room) s m args below meth c H locs 0 0 (MQ below (va_Qi (fun (r : Int32) (u : SS) => P_X12_least σ0 τ0 a1 r u.1 u.2) (WB D cA ad) (AA ad)) args s 0 0 (AA ad)) (F0 m 50 ls [])
set_option maxHeartbeats 4000000 in
theorem B_X12_least_21 (p : Program) (l : Launch) (e : Env) (s : State) (m : MethodId) (args : Array Value) (below : List Frame) (meth : Method) (c : Code) (D : va_G) (cA : Nat → ClassId) (ad : Nat → Nat) (σ0 : Nat → Nat → Int32) (τ0 : Nat → Nat → Int64) (a1 : Int32) (n : Nat) (C : Cy p s m args meth c cX12_least 5 wsX12_least RX12 D cA ad (some .int))  (K21 : J_X12_least_21 p l e s m args below meth c D cA ad σ0 τ0 a1 n) (K50 : J_X12_least_50 p l e s m args below meth c D cA ad σ0 τ0 a1 n) : J_X12_least_21 p l e s m args below meth c D cA ad σ0 τ0 a1 (n + 1) := by
  obtain ⟨hx, hb, hml, hown, hts, hK, hk, hr, hI, hN⟩ := C
  intro σ τ H locs x2 ls hR hF hFL hP hS hc0 hc1 hl hm
  obtain rfl := FrL.nil hFL
  refine lv_iload_n hx hb dX12_least_21 rfl (lv_at hl 2 rfl) ?_
  refine r_sipush hx hb dX12_least_22 (by decide) (fun z1 ez1 => ?_)
  refine r_icmp_ge (tgt := 123) hx hb dX12_least_25 (by decide) (fun c2 => ?_) (fun c2 => ?_)
  · refine r_iconst hx hb dX12_least_123 (by decide) (fun z3 ez3 => ?_)
    exact r_iret hx hb hr hK hP hS hk dX12_least_124 (show P_X12_least σ0 τ0 a1 z3 σ τ0 from ⟨hR, hF, hFL, by omega⟩)
  · refine lv_aload_n hx hb dX12_least_28 rfl (lv_at hl 0 rfl) ?_
    refine lv_iload_n hx hb dX12_least_29 rfl (lv_at hl 1 rfl) ?_
    refine lv_iload_n hx hb dX12_least_30 rfl (lv_at hl 2 rfl) ?_
    refine r_cVv (k := 387) (As := [.int a1, .int x2]) (rest := []) ⟨hx, hb, hml, hown, hts⟩ hK hP hN hS (c_X12_sharesBy l D cA ad hI σ τ0 hR a1 x2 (by omega)) (cwV 2 hts gX12_least_X12_sharesBy rfl rfl rfl (by decide +kernel) ⟨by decide, by decide⟩) (rv_M hK hP (by decide) (by decide)) rfl hl.1 rfl (Nat.le_of_ble_eq_true rfl) dX12_least_31 (Nat.zero_le _) (Nat.zero_le _) (fun u4 H4 locs4 hp4 hP hS => ?_)
    obtain ⟨σ4, τ4⟩ := u4
    obtain ⟨hR, f4, fL4⟩ : P_X12_sharesBy σ τ0 a1 x2 σ4 τ4 := hp4
    have hP : va_P D vwCl (gw cA ad σ4 τ4) H4 := hP
    obtain rfl := FrL.nil fL4
    have hF := hF.step f4 (by decide)
    refine lv_aload_n hx hb dX12_least_34 rfl (lv_at hl 0 rfl) ?_
    refine fg_12_26 (k := 387) hx hb hts in_X12_least_12 hown hK hP (by decide) (by decide) (hts _ lk_X12_least_305) dX12_least_35 ?_
    refine r_if_eq (tgt := 45) hx hb dX12_least_38 (by decide) (fun c5 => ?_) (fun c5 => ?_)
    · refine r_iconst hx hb dX12_least_45 (by decide) (fun z6 ez6 => ?_)
      refine lv_istore_n (lv' := [(3, .int z6), (0, .ref (ad 387)), (1, .int a1), (2, .int x2)]) hx hb dX12_least_46 rfl hl (by decide) rfl (fun ls hl => ?_)
      refine r_iconst hx hb dX12_least_47 (by decide) (fun z7 ez7 => ?_)
      refine lv_istore (lv' := [(4, .int z7), (3, .int z6), (0, .ref (ad 387)), (1, .int a1), (2, .int x2)]) hx hb dX12_least_48 hl (by decide) rfl (fun ls hl => ?_)
      exact K50 σ4 τ0 H4 locs4 x2 z6 z7 ls hR hF hFL hP hS (by omega) (by omega) (by omega) (by omega) (lv_sub hl [2, 3, 4, 1, 0] rfl) (by omega)
    · refine r_iconst hx hb dX12_least_41 (by decide) (fun z8 ez8 => ?_)
      refine lv_goto (tgt := 46) hx hb dX12_least_42 (by decide) ?_
      refine lv_istore_n (lv' := [(3, .int z8), (0, .ref (ad 387)), (1, .int a1), (2, .int x2)]) hx hb dX12_least_46 rfl hl (by decide) rfl (fun ls hl => ?_)
      refine r_iconst hx hb dX12_least_47 (by decide) (fun z9 ez9 => ?_)
      refine lv_istore (lv' := [(4, .int z9), (3, .int z8), (0, .ref (ad 387)), (1, .int a1), (2, .int x2)]) hx hb dX12_least_48 hl (by decide) rfl (fun ls hl => ?_)
      exact K50 σ4 τ0 H4 locs4 x2 z8 z9 ls hR hF hFL hP hS (by omega) (by omega) (by omega) (by omega) (lv_sub hl [2, 3, 4, 1, 0] rfl) (by omega)
set_option maxHeartbeats 4000000 in
theorem B_X12_least_50 (p : Program) (l : Launch) (e : Env) (s : State) (m : MethodId) (args : Array Value) (below : List Frame) (meth : Method) (c : Code) (D : va_G) (cA : Nat → ClassId) (ad : Nat → Nat) (σ0 : Nat → Nat → Int32) (τ0 : Nat → Nat → Int64) (a1 : Int32) (n : Nat) (C : Cy p s m args meth c cX12_least 5 wsX12_least RX12 D cA ad (some .int))  (K21 : J_X12_least_21 p l e s m args below meth c D cA ad σ0 τ0 a1 n) (K50 : J_X12_least_50 p l e s m args below meth c D cA ad σ0 τ0 a1 n) : J_X12_least_50 p l e s m args below meth c D cA ad σ0 τ0 a1 (n + 1) := by
  obtain ⟨hx, hb, hml, hown, hts, hK, hk, hr, hI, hN⟩ := C
  intro σ τ H locs x2 x3 x4 ls hR hF hFL hP hS hc0 hc1 hc2 hc3 hl hm
  obtain rfl := FrL.nil hFL
  refine lv_iload hx hb dX12_least_50 (lv_at hl 4 rfl) ?_
  refine lv_aload_n hx hb dX12_least_52 rfl (lv_at hl 0 rfl) ?_
  refine fg_12_6 (k := 387) hx hb hts in_X12_least_12 hown hK hP (by decide) (by decide) (hts _ lk_X12_least_33) dX12_least_53 ?_
  refine r_iconst hx hb dX12_least_56 (by decide) (fun z1 ez1 => ?_)
  refine ad_ms (k := 389) (j := 1) hx hb hK hP (by decide) (by decide) (by omega) (by omega) dX12_least_57 ?_
  have hr2 := ra_ms_0 hR (k := 389) (j := 1) (by decide) (by decide) (by decide) (by decide)
  refine r_icmp_ge (tgt := 111) hx hb dX12_least_58 (by decide) (fun c3 => ?_) (fun c3 => ?_)
  · refine lv_iload_n hx hb dX12_least_111 rfl (lv_at hl 3 rfl) ?_
    refine r_if_eq (tgt := 117) hx hb dX12_least_112 (by decide) (fun c4 => ?_) (fun c4 => ?_)
    · refine r_iinc (k := 2) (lv1 := fun z5 => [(2, .int z5), (0, .ref (ad 387)), (1, .int a1), (3, .int x3), (4, .int x4)]) hx hb dX12_least_117 hl rfl (by decide) (fun _ => rfl) (by decide) (by omega) (fun z5 ls ez5 hl => ?_)
      refine lv_goto (tgt := 21) hx hb dX12_least_120 (by decide) ?_
      exact K21 σ τ0 H locs z5 ls hR hF hFL hP hS (by omega) (by omega) (lv_sub hl [1, 2, 0] rfl) (by omega)
    · refine lv_iload_n hx hb dX12_least_115 rfl (lv_at hl 2 rfl) ?_
      exact r_iret hx hb hr hK hP hS hk dX12_least_116 (show P_X12_least σ0 τ0 a1 x2 σ τ0 from ⟨hR, hF, hFL, by omega⟩)
  · refine lv_iload_n hx hb dX12_least_61 rfl (lv_at hl 3 rfl) ?_
    refine r_if_eq (tgt := 103) hx hb dX12_least_62 (by decide) (fun c6 => ?_) (fun c6 => ?_)
    · refine r_iconst hx hb dX12_least_103 (by decide) (fun z7 ez7 => ?_)
      refine lv_istore_n (lv' := [(3, .int z7), (0, .ref (ad 387)), (1, .int a1), (2, .int x2), (4, .int x4)]) hx hb dX12_least_104 rfl hl (by decide) rfl (fun ls hl => ?_)
      refine r_iinc (k := 4) (lv1 := fun z8 => [(4, .int z8), (3, .int z7), (0, .ref (ad 387)), (1, .int a1), (2, .int x2)]) hx hb dX12_least_105 hl rfl (by decide) (fun _ => rfl) (by decide) (by omega) (fun z8 ls ez8 hl => ?_)
      refine lv_goto (tgt := 50) hx hb dX12_least_108 (by decide) ?_
      exact K50 σ τ0 H locs x2 z7 z8 ls hR hF hFL hP hS (by omega) (by omega) (by omega) (by omega) (lv_sub hl [2, 3, 4, 1, 0] rfl) (by omega)
    · refine lv_aload_n hx hb dX12_least_65 rfl (lv_at hl 0 rfl) ?_
      refine fg_12_26 (k := 387) hx hb hts in_X12_least_12 hown hK hP (by decide) (by decide) (hts _ lk_X12_least_305) dX12_least_66 ?_
      refine lv_iload hx hb dX12_least_69 (lv_at hl 4 rfl) ?_
      refine r_cSi (As := [.int (σ 387 26), .int x4]) (rest := []) ⟨hx, hb, hml, hown, hts⟩ hK hP hN hS (c_X12_bitOf l D cA ad hI σ τ0 hR (σ 387 26) x4 (by omega)) (va_cwS 2 hts gX12_least_X12_bitOf rfl rfl rfl (by decide +kernel) ⟨by decide, by decide⟩) rfl hl.1 rfl (Nat.le_of_ble_eq_true rfl) dX12_least_71 (Nat.zero_le _) (Nat.zero_le _) (fun r9 u9 H9 locs9 hp9 hP hS => ?_)
      obtain ⟨σ9, τ9⟩ := u9
      obtain ⟨hR, f9, fL9, hq9, hp9_0⟩ : P_X12_bitOf σ τ0 (σ 387 26) x4 r9 σ9 τ9 := hp9
      have hP : va_P D vwCl (gw cA ad σ9 τ9) H9 := hP
      obtain rfl := FrL.nil fL9
      obtain rfl := Fr.nil f9
      refine r_if_eq (tgt := 99) hx hb dX12_least_74 (by decide) (fun c10 => ?_) (fun c10 => ?_)
      · refine r_iconst hx hb dX12_least_99 (by decide) (fun z11 ez11 => ?_)
        refine lv_goto (tgt := 104) hx hb dX12_least_100 (by decide) ?_
        refine lv_istore_n (lv' := [(3, .int z11), (0, .ref (ad 387)), (1, .int a1), (2, .int x2), (4, .int x4)]) hx hb dX12_least_104 rfl hl (by decide) rfl (fun ls hl => ?_)
        refine r_iinc (k := 4) (lv1 := fun z12 => [(4, .int z12), (3, .int z11), (0, .ref (ad 387)), (1, .int a1), (2, .int x2)]) hx hb dX12_least_105 hl rfl (by decide) (fun _ => rfl) (by decide) (by omega) (fun z12 ls ez12 hl => ?_)
        refine lv_goto (tgt := 50) hx hb dX12_least_108 (by decide) ?_
        exact K50 σ τ0 H9 locs9 x2 z11 z12 ls hR hF hFL hP hS (by omega) (by omega) (by omega) (by omega) (lv_sub hl [2, 3, 4, 1, 0] rfl) (by omega)
      · refine lv_aload_n hx hb dX12_least_77 rfl (lv_at hl 0 rfl) ?_
        refine fg_12_25 (k := 387) hx hb hts in_X12_least_12 hown hK hP (by decide) (by decide) (hts _ lk_X12_least_59) dX12_least_78 ?_
        refine lv_iload hx hb dX12_least_81 (lv_at hl 4 rfl) ?_
        obtain ⟨j13, ej13⟩ : ∃ j : Nat, x4.toInt = (j : Int) := ⟨_, ti_nat (by omega)⟩
        refine ad_mp8 (k := 397) (j := j13) hx hb hK hP (by decide) (by decide) ej13 (by omega) dX12_least_83 ?_
        refine lv_aload_n hx hb dX12_least_84 rfl (lv_at hl 0 rfl) ?_
        refine fg_12_6 (k := 387) hx hb hts in_X12_least_12 hown hK hP (by decide) (by decide) (hts _ lk_X12_least_33) dX12_least_85 ?_
        refine r_bipush hx hb dX12_least_88 (by decide) (fun z14 ez14 => ?_)
        refine lv_iload hx hb dX12_least_90 (lv_at hl 4 rfl) ?_
        refine r_iadd hx hb dX12_least_92 (by omega) (fun z15 ez15 => ?_)
        obtain ⟨j16, ej16⟩ : ∃ j : Nat, z15.toInt = (j : Int) := ⟨_, ti_nat (by omega)⟩
        refine ad_ms (k := 389) (j := j16) hx hb hK hP (by decide) (by decide) ej16 (by omega) dX12_least_93 ?_
        refine r_iconst hx hb dX12_least_94 (by decide) (fun z17 ez17 => ?_)
        refine r_isubU hx hb dX12_least_95 (fun z18 => ?_)
        refine r_icmp_lt (tgt := 103) hx hb dX12_least_96 (by decide) (fun c19 => ?_) (fun c19 => ?_)
        · refine r_iconst hx hb dX12_least_103 (by decide) (fun z20 ez20 => ?_)
          refine lv_istore_n (lv' := [(3, .int z20), (0, .ref (ad 387)), (1, .int a1), (2, .int x2), (4, .int x4)]) hx hb dX12_least_104 rfl hl (by decide) rfl (fun ls hl => ?_)
          refine r_iinc (k := 4) (lv1 := fun z21 => [(4, .int z21), (3, .int z20), (0, .ref (ad 387)), (1, .int a1), (2, .int x2)]) hx hb dX12_least_105 hl rfl (by decide) (fun _ => rfl) (by decide) (by omega) (fun z21 ls ez21 hl => ?_)
          refine lv_goto (tgt := 50) hx hb dX12_least_108 (by decide) ?_
          exact K50 σ τ0 H9 locs9 x2 z20 z21 ls hR hF hFL hP hS (by omega) (by omega) (by omega) (by omega) (lv_sub hl [2, 3, 4, 1, 0] rfl) (by omega)
        · refine r_iconst hx hb dX12_least_99 (by decide) (fun z22 ez22 => ?_)
          refine lv_goto (tgt := 104) hx hb dX12_least_100 (by decide) ?_
          refine lv_istore_n (lv' := [(3, .int z22), (0, .ref (ad 387)), (1, .int a1), (2, .int x2), (4, .int x4)]) hx hb dX12_least_104 rfl hl (by decide) rfl (fun ls hl => ?_)
          refine r_iinc (k := 4) (lv1 := fun z23 => [(4, .int z23), (3, .int z22), (0, .ref (ad 387)), (1, .int a1), (2, .int x2)]) hx hb dX12_least_105 hl rfl (by decide) (fun _ => rfl) (by decide) (by omega) (fun z23 ls ez23 hl => ?_)
          refine lv_goto (tgt := 50) hx hb dX12_least_108 (by decide) ?_
          exact K50 σ τ0 H9 locs9 x2 z22 z23 ls hR hF hFL hP hS (by omega) (by omega) (by omega) (by omega) (lv_sub hl [2, 3, 4, 1, 0] rfl) (by omega)
theorem A_X12_least (p : Program) (l : Launch) (e : Env) (s : State) (m : MethodId) (args : Array Value) (below : List Frame) (meth : Method) (c : Code) (D : va_G) (cA : Nat → ClassId) (ad : Nat → Nat) (σ0 : Nat → Nat → Int32) (τ0 : Nat → Nat → Int64) (a1 : Int32) (C : Cy p s m args meth c cX12_least 5 wsX12_least RX12 D cA ad (some .int))  : ∀ n : Nat, J_X12_least_21 p l e s m args below meth c D cA ad σ0 τ0 a1 n ∧ J_X12_least_50 p l e s m args below meth c D cA ad σ0 τ0 a1 n := by
  intro n
  induction n with
  | zero =>
    exact ⟨(by intro σ τ H locs x2 ls hR hF hFL hP hS hc0 hc1 hl hm; exfalso; omega), (by intro σ τ H locs x2 x3 x4 ls hR hF hFL hP hS hc0 hc1 hc2 hc3 hl hm; exfalso; omega)⟩
  | succ n ih =>
    exact ⟨B_X12_least_21 p l e s m args below meth c D cA ad σ0 τ0 a1 n C  ih.1 ih.2, B_X12_least_50 p l e s m args below meth c D cA ad σ0 τ0 a1 n C  ih.1 ih.2⟩
set_option maxHeartbeats 4000000 in
theorem c_X12_least (l : Launch) (D : va_G) (cA : Nat → ClassId) (ad : Nat → Nat) (hI : Inj ad) (σ0 : Nat → Nat → Int32) (τ0 : Nat → Nat → Int64) (hR : Rg σ0) (a1 : Int32)  : Met l yX12_least wsX12_least ({ frames := 6, cells := 0, slots := 0, locals := 140 } : Room) (WQc D cA ad [.ref (ad 387), .int a1] σ0 τ0) (va_Qi (fun (r : Int32) (u : SS) => P_X12_least σ0 τ0 a1 r u.1 u.2) (WB D cA ad) (AA ad)) 0 0 (AA ad) := by
  refine Met.ofW (cc := cX12_least) (maxL := 5) (ret := (some .int)) (by decide) rfl ?_
  intro p e s m args below meth c s₁ B hml hv
  obtain ⟨rfl, hP, hK, hN⟩ := hv
  have C : Cy p s m _ meth c cX12_least 5 wsX12_least RX12 D cA ad (some .int) := ⟨B.exec, B.bytes, hml, findClass_of_methodNamed B.named, atoms_spec (ws := wsX12_least) B.pre, hK, B.notSynchronized, B.returns, hI, hN⟩
  have hl := lv_entry ([.ref (ad 387), .int a1]) (n := 5) (Nat.le_of_ble_eq_true rfl)
  rw [lg_entry_eq]
  generalize (lg_sl ([.ref (ad 387), .int a1]) ++ List.replicate (5 - (lg_sl ([.ref (ad 387), .int a1])).length) Slot.unset).toArray = ls at hl ⊢
  have hl : lv_has ls 5 [(0, .ref (ad 387)), (1, .int a1)] := hl
  have hS : va_S (AA ad) s.heap s.heap [] := va_S.rf
  have hF : Fr L_X12_least σ0 σ0 := Fr.rf
  have hFL : FrL LL_X12_least τ0 τ0 := FrL.rf
  have hA := A_X12_least p l e s m _ below meth c D cA ad σ0 τ0 a1 C  42085
  have K21 := hA.1
  have K50 := hA.2
  clear hA
  obtain ⟨hx, hb, _, hown, hts, _, hk, hr, _, _⟩ := C
  refine lv_aload_n hx hb dX12_least_0 rfl (lv_at hl 0 rfl) ?_
  refine r_iconst hx hb dX12_least_1 (by decide) (fun z1 ez1 => ?_)
  refine fp_12_0 (k := 387) hx hb hts in_X12_least_12 hown hK hP (by decide) (by decide) (hts _ lk_X12_least_1) hI hR hS (by omega) dX12_least_2 (fun σ2 H2 locs2 u2 v2 hR hP hS => ?_)
  have hF := hF.puts u2 0 rfl (by decide) (by decide) (by decide) (by decide)
  refine lv_aload_n hx hb dX12_least_5 rfl (lv_at hl 0 rfl) ?_
  refine lv_iload_n hx hb dX12_least_6 rfl (lv_at hl 1 rfl) ?_
  refine r_cVi (k := 387) (As := [.int a1]) (rest := []) ⟨hx, hb, hml, hown, hts⟩ hK hP hN hS (c_X12_isFlight l D cA ad hI σ2 τ0 hR a1) (cwV 1 hts gX12_least_X12_isFlight rfl rfl rfl (by decide +kernel) ⟨by decide, by decide⟩) (rv_M hK hP (by decide) (by decide)) rfl hl.1 rfl (Nat.le_of_ble_eq_true rfl) dX12_least_7 (Nat.zero_le _) (Nat.zero_le _) (fun r3 u3 H3 locs3 hp3 hP hS => ?_)
  obtain ⟨σ3, τ3⟩ := u3
  obtain ⟨hR, f3, fL3, hq3, hp3_0, hp3_1⟩ : P_X12_isFlight σ2 τ0 a1 r3 σ3 τ3 := hp3
  have hP : va_P D vwCl (gw cA ad σ3 τ3) H3 := hP
  obtain rfl := FrL.nil fL3
  obtain rfl := Fr.nil f3
  refine r_if_ne (tgt := 15) hx hb dX12_least_10 (by decide) (fun c4 => ?_) (fun c4 => ?_)
  · replace hp3_0 := hp3_0.resolve_left (by omega)
    refine lv_aload_n hx hb dX12_least_15 rfl (lv_at hl 0 rfl) ?_
    refine r_cVv (k := 387) (As := []) (rest := []) ⟨hx, hb, hml, hown, hts⟩ hK hP hN hS (c_X12_asNow l D cA ad hI σ2 τ0 hR) (cwV 0 hts gX12_least_X12_asNow rfl rfl rfl (by decide +kernel) ⟨by decide, by decide⟩) (rv_M hK hP (by decide) (by decide)) rfl hl.1 rfl (Nat.le_of_ble_eq_true rfl) dX12_least_16 (Nat.zero_le _) (Nat.zero_le _) (fun u5 H5 locs5 hp5 hP hS => ?_)
    obtain ⟨σ5, τ5⟩ := u5
    obtain ⟨hR, f5, fL5⟩ : P_X12_asNow σ2 τ0 σ5 τ5 := hp5
    have hP : va_P D vwCl (gw cA ad σ5 τ5) H5 := hP
    obtain rfl := FrL.nil fL5
    have hF := hF.step f5 (by decide)
    refine r_iconst hx hb dX12_least_19 (by decide) (fun z6 ez6 => ?_)
    refine lv_istore_n (lv' := [(2, .int z6), (0, .ref (ad 387)), (1, .int a1)]) hx hb dX12_least_20 rfl hl (by decide) rfl (fun ls hl => ?_)
    exact K21 σ5 τ0 H5 locs5 z6 ls hR hF hFL hP hS (by omega) (by omega) (lv_sub hl [1, 2, 0] rfl) (by omega)
  · clear hp3_0
    refine r_iconst hx hb dX12_least_13 (by decide) (fun z7 ez7 => ?_)
    exact r_iret hx hb hr hK hP hS hk dX12_least_14 (show P_X12_least σ0 τ0 a1 z7 σ2 τ0 from ⟨hR, hF, hFL, by omega⟩)
theorem in_X12_poor_12 : ∀ w ∈ u_ws RX12 TX12 47, w ∈ wsX12_poor := by decide +kernel
theorem lk_X12_poor_1 : Cond.fieldLink RX12 1 "CuckooSharesModel" "thrown" "I" ∈ wsX12_poor := by decide +kernel
theorem lk_X12_poor_33 : Cond.fieldLink RX12 33 "CuckooSharesModel" "s" "[I" ∈ wsX12_poor := by decide +kernel
abbrev L_X12_poor : List Rc := [(387, 387, 0, 0), (394, 394, 0, 7), (395, 395, 0, 7), (396, 396, 0, 7)]
abbrev LL_X12_poor : List Rc := []
def P_X12_poor (σ0 : Nat → Nat → Int32) (τ0 : Nat → Nat → Int64)  (r : Int32) (σ : Nat → Nat → Int32) (τ : Nat → Nat → Int64) : Prop := Rg σ ∧ Fr L_X12_poor σ0 σ ∧ FrL LL_X12_poor τ0 τ
def J_X12_poor_22 (p : Program) (l : Launch) (e : Env) (s : State) (m : MethodId) (args : Array Value) (below : List Frame) (meth : Method) (c : Code) (D : va_G) (cA : Nat → ClassId) (ad : Nat → Nat) (σ0 : Nat → Nat → Int32) (τ0 : Nat → Nat → Int64)  (n : Nat) : Prop := ∀ (σ : Nat → Nat → Int32) (τ : Nat → Nat → Int64) (H : Heap) (locs : List Loc) (x1 : Int32) (x2 : Int32) (ls : Array Slot), Rg σ → Fr L_X12_poor σ0 σ → FrL LL_X12_poor τ0 τ → va_P D vwCl (gw cA ad σ τ) H → va_S (AA ad) s.heap H locs → (0 ≤ x2.toInt ∧ x2.toInt ≤ 4) → lv_has ls 4 [(0, .ref (ad 387)), (1, .int x1), (2, .int x2)] → 25 * (4 - x2.toInt) + 24 < (n : Int) → W p l e ({ frames := 4, cells := 0, slots := 0, locals := 93 } : Room) s m args below meth c H locs 0 0 (MQ below (va_Qi (fun (r : Int32) (u : SS) => P_X12_poor σ0 τ0 r u.1 u.2) (WB D cA ad) (AA ad)) args s 0 0 (AA ad)) (F0 m 22 ls [])
def J_X12_poor_34 (p : Program) (l : Launch) (e : Env) (s : State) (m : MethodId) (args : Array Value) (below : List Frame) (meth : Method) (c : Code) (D : va_G) (cA : Nat → ClassId) (ad : Nat → Nat) (σ0 : Nat → Nat → Int32) (τ0 : Nat → Nat → Int64)  (n : Nat) : Prop := ∀ (σ : Nat → Nat → Int32) (τ : Nat → Nat → Int64) (H : Heap) (locs : List Loc) (x1 : Int32) (x2 : Int32) (x3 : Int32) (ls : Array Slot), Rg σ → Fr L_X12_poor σ0 σ → FrL LL_X12_poor τ0 τ → va_P D vwCl (gw cA ad σ τ) H → va_S (AA ad) s.heap H locs → (0 ≤ x2.toInt ∧ x2.toInt ≤ 3) → (0 ≤ x3.toInt ∧ x3.toInt ≤ 10) → lv_has ls 4 [(0, .ref (ad 387)), (1, .int x1), (2, .int x2), (3, .int x3)] → 2 * (10 - x3.toInt) + 25 * (4 - x2.toInt) + 1 < (n : Int) → W p l e ({ frames := 4, cells := 0, slots := 0, locals := 93 } : Room) s m args below meth c H locs 0 0 (MQ below (va_Qi (fun (r : Int32) (u : SS) => P_X12_poor σ0 τ0 r u.1 u.2) (WB D cA ad) (AA ad)) args s 0 0 (AA ad)) (F0 m 34 ls [])
set_option maxHeartbeats 4000000 in
theorem B_X12_poor_22 (p : Program) (l : Launch) (e : Env) (s : State) (m : MethodId) (args : Array Value) (below : List Frame) (meth : Method) (c : Code) (D : va_G) (cA : Nat → ClassId) (ad : Nat → Nat) (σ0 : Nat → Nat → Int32) (τ0 : Nat → Nat → Int64)  (n : Nat) (C : Cy p s m args meth c cX12_poor 4 wsX12_poor RX12 D cA ad (some .int))  (K22 : J_X12_poor_22 p l e s m args below meth c D cA ad σ0 τ0 n) (K34 : J_X12_poor_34 p l e s m args below meth c D cA ad σ0 τ0 n) : J_X12_poor_22 p l e s m args below meth c D cA ad σ0 τ0 (n + 1) := by
  obtain ⟨hx, hb, hml, hown, hts, hK, hk, hr, hI, hN⟩ := C
  intro σ τ H locs x1 x2 ls hR hF hFL hP hS hc0 hl hm
  obtain rfl := FrL.nil hFL
  refine lv_iload_n hx hb dX12_poor_22 rfl (lv_at hl 2 rfl) ?_
  refine lv_aload_n hx hb dX12_poor_23 rfl (lv_at hl 0 rfl) ?_
  refine fg_12_6 (k := 387) hx hb hts in_X12_poor_12 hown hK hP (by decide) (by decide) (hts _ lk_X12_poor_33) dX12_poor_24 ?_
  refine r_iconst hx hb dX12_poor_27 (by decide) (fun z1 ez1 => ?_)
  refine ad_ms (k := 389) (j := 2) hx hb hK hP (by decide) (by decide) (by omega) (by omega) dX12_poor_28 ?_
  have hr2 := ra_ms_1 hR (k := 389) (j := 2) (by decide) (by decide) (by decide) (by decide)
  refine r_icmp_ge (tgt := 70) hx hb dX12_poor_29 (by decide) (fun c3 => ?_) (fun c3 => ?_)
  · refine lv_iload_n hx hb dX12_poor_70 rfl (lv_at hl 1 rfl) ?_
    exact r_iret hx hb hr hK hP hS hk dX12_poor_71 (show P_X12_poor σ0 τ0 x1 σ τ0 from ⟨hR, hF, hFL⟩)
  · refine r_iconst hx hb dX12_poor_32 (by decide) (fun z4 ez4 => ?_)
    refine lv_istore_n (lv' := [(3, .int z4), (0, .ref (ad 387)), (1, .int x1), (2, .int x2)]) hx hb dX12_poor_33 rfl hl (by decide) rfl (fun ls hl => ?_)
    exact K34 σ τ0 H locs x1 x2 z4 ls hR hF hFL hP hS (by omega) (by omega) (lv_sub hl [1, 2, 3, 0] rfl) (by omega)
set_option maxHeartbeats 4000000 in
theorem B_X12_poor_34 (p : Program) (l : Launch) (e : Env) (s : State) (m : MethodId) (args : Array Value) (below : List Frame) (meth : Method) (c : Code) (D : va_G) (cA : Nat → ClassId) (ad : Nat → Nat) (σ0 : Nat → Nat → Int32) (τ0 : Nat → Nat → Int64)  (n : Nat) (C : Cy p s m args meth c cX12_poor 4 wsX12_poor RX12 D cA ad (some .int))  (K22 : J_X12_poor_22 p l e s m args below meth c D cA ad σ0 τ0 n) (K34 : J_X12_poor_34 p l e s m args below meth c D cA ad σ0 τ0 n) : J_X12_poor_34 p l e s m args below meth c D cA ad σ0 τ0 (n + 1) := by
  obtain ⟨hx, hb, hml, hown, hts, hK, hk, hr, hI, hN⟩ := C
  intro σ τ H locs x1 x2 x3 ls hR hF hFL hP hS hc0 hc1 hl hm
  obtain rfl := FrL.nil hFL
  refine lv_iload_n hx hb dX12_poor_34 rfl (lv_at hl 3 rfl) ?_
  refine lv_aload_n hx hb dX12_poor_35 rfl (lv_at hl 0 rfl) ?_
  refine fg_12_6 (k := 387) hx hb hts in_X12_poor_12 hown hK hP (by decide) (by decide) (hts _ lk_X12_poor_33) dX12_poor_36 ?_
  refine r_bipush hx hb dX12_poor_39 (by decide) (fun z1 ez1 => ?_)
  refine lv_iload_n hx hb dX12_poor_41 rfl (lv_at hl 2 rfl) ?_
  refine r_iadd hx hb dX12_poor_42 (by omega) (fun z2 ez2 => ?_)
  obtain ⟨j3, ej3⟩ : ∃ j : Nat, z2.toInt = (j : Int) := ⟨_, ti_nat (by omega)⟩
  refine ad_ms (k := 389) (j := j3) hx hb hK hP (by decide) (by decide) ej3 (by omega) dX12_poor_43 ?_
  have hr4 := ra_ms_4 hR (k := 389) (j := j3) (by decide) (by decide) (by omega) (by omega)
  refine r_icmp_ge (tgt := 64) hx hb dX12_poor_44 (by decide) (fun c5 => ?_) (fun c5 => ?_)
  · refine r_iinc (k := 2) (lv1 := fun z6 => [(2, .int z6), (0, .ref (ad 387)), (1, .int x1), (3, .int x3)]) hx hb dX12_poor_64 hl rfl (by decide) (fun _ => rfl) (by decide) (by omega) (fun z6 ls ez6 hl => ?_)
    refine lv_goto (tgt := 22) hx hb dX12_poor_67 (by decide) ?_
    exact K22 σ τ0 H locs x1 z6 ls hR hF hFL hP hS (by omega) (lv_sub hl [1, 2, 0] rfl) (by omega)
  · refine lv_iload_n hx hb dX12_poor_47 rfl (lv_at hl 1 rfl) ?_
    refine lv_aload_n hx hb dX12_poor_48 rfl (lv_at hl 0 rfl) ?_
    refine lv_iload_n hx hb dX12_poor_49 rfl (lv_at hl 2 rfl) ?_
    refine lv_iload_n hx hb dX12_poor_50 rfl (lv_at hl 3 rfl) ?_
    refine r_cVi (k := 387) (As := [.int x2, .int x3]) (rest := [.int x1]) ⟨hx, hb, hml, hown, hts⟩ hK hP hN hS (c_X12_whoHears l D cA ad hI σ τ0 hR x2 x3 (by omega) (by omega)) (cwV 2 hts gX12_poor_X12_whoHears rfl rfl rfl (by decide +kernel) ⟨by decide, by decide⟩) (rv_M hK hP (by decide) (by decide)) rfl hl.1 rfl (Nat.le_of_ble_eq_true rfl) dX12_poor_51 (Nat.zero_le _) (Nat.zero_le _) (fun r7 u7 H7 locs7 hp7 hP hS => ?_)
    obtain ⟨σ7, τ7⟩ := u7
    obtain ⟨hR, f7, fL7⟩ : P_X12_whoHears σ τ0 x2 x3 r7 σ7 τ7 := hp7
    have hP : va_P D vwCl (gw cA ad σ7 τ7) H7 := hP
    obtain rfl := FrL.nil fL7
    obtain rfl := Fr.nil f7
    refine r_iconst hx hb dX12_poor_54 (by decide) (fun z8 ez8 => ?_)
    refine r_ixorU hx hb dX12_poor_55 (fun z9 => ?_)
    refine r_iandU hx hb dX12_poor_56 (fun z10 => ?_)
    refine lv_istore_n (lv' := [(1, .int z10), (0, .ref (ad 387)), (2, .int x2), (3, .int x3)]) hx hb dX12_poor_57 rfl hl (by decide) rfl (fun ls hl => ?_)
    refine r_iinc (k := 3) (lv1 := fun z11 => [(3, .int z11), (1, .int z10), (0, .ref (ad 387)), (2, .int x2)]) hx hb dX12_poor_58 hl rfl (by decide) (fun _ => rfl) (by decide) (by omega) (fun z11 ls ez11 hl => ?_)
    refine lv_goto (tgt := 34) hx hb dX12_poor_61 (by decide) ?_
    exact K34 σ τ0 H7 locs7 z10 x2 z11 ls hR hF hFL hP hS (by omega) (by omega) (lv_sub hl [2, 1, 3, 0] rfl) (by omega)
theorem A_X12_poor (p : Program) (l : Launch) (e : Env) (s : State) (m : MethodId) (args : Array Value) (below : List Frame) (meth : Method) (c : Code) (D : va_G) (cA : Nat → ClassId) (ad : Nat → Nat) (σ0 : Nat → Nat → Int32) (τ0 : Nat → Nat → Int64)  (C : Cy p s m args meth c cX12_poor 4 wsX12_poor RX12 D cA ad (some .int))  : ∀ n : Nat, J_X12_poor_22 p l e s m args below meth c D cA ad σ0 τ0 n ∧ J_X12_poor_34 p l e s m args below meth c D cA ad σ0 τ0 n := by
  intro n
  induction n with
  | zero =>
    exact ⟨(by intro σ τ H locs x1 x2 ls hR hF hFL hP hS hc0 hl hm; exfalso; omega), (by intro σ τ H locs x1 x2 x3 ls hR hF hFL hP hS hc0 hc1 hl hm; exfalso; omega)⟩
  | succ n ih =>
    exact ⟨B_X12_poor_22 p l e s m args below meth c D cA ad σ0 τ0 n C  ih.1 ih.2, B_X12_poor_34 p l e s m args below meth c D cA ad σ0 τ0 n C  ih.1 ih.2⟩
set_option maxHeartbeats 4000000 in
theorem c_X12_poor (l : Launch) (D : va_G) (cA : Nat → ClassId) (ad : Nat → Nat) (hI : Inj ad) (σ0 : Nat → Nat → Int32) (τ0 : Nat → Nat → Int64) (hR : Rg σ0)   : Met l yX12_poor wsX12_poor ({ frames := 4, cells := 0, slots := 0, locals := 93 } : Room) (WQc D cA ad [.ref (ad 387)] σ0 τ0) (va_Qi (fun (r : Int32) (u : SS) => P_X12_poor σ0 τ0 r u.1 u.2) (WB D cA ad) (AA ad)) 0 0 (AA ad) := by
  refine Met.ofW (cc := cX12_poor) (maxL := 4) (ret := (some .int)) (by decide) rfl ?_
  intro p e s m args below meth c s₁ B hml hv
  obtain ⟨rfl, hP, hK, hN⟩ := hv
  have C : Cy p s m _ meth c cX12_poor 4 wsX12_poor RX12 D cA ad (some .int) := ⟨B.exec, B.bytes, hml, findClass_of_methodNamed B.named, atoms_spec (ws := wsX12_poor) B.pre, hK, B.notSynchronized, B.returns, hI, hN⟩
  have hl := lv_entry ([.ref (ad 387)]) (n := 4) (Nat.le_of_ble_eq_true rfl)
  rw [lg_entry_eq]
  generalize (lg_sl ([.ref (ad 387)]) ++ List.replicate (4 - (lg_sl ([.ref (ad 387)])).length) Slot.unset).toArray = ls at hl ⊢
  have hl : lv_has ls 4 [(0, .ref (ad 387))] := hl
  have hS : va_S (AA ad) s.heap s.heap [] := va_S.rf
  have hF : Fr L_X12_poor σ0 σ0 := Fr.rf
  have hFL : FrL LL_X12_poor τ0 τ0 := FrL.rf
  have hA := A_X12_poor p l e s m _ below meth c D cA ad σ0 τ0 C  301
  have K22 := hA.1
  have K34 := hA.2
  clear hA
  obtain ⟨hx, hb, _, hown, hts, _, hk, hr, _, _⟩ := C
  refine lv_aload_n hx hb dX12_poor_0 rfl (lv_at hl 0 rfl) ?_
  refine r_iconst hx hb dX12_poor_1 (by decide) (fun z1 ez1 => ?_)
  refine fp_12_0 (k := 387) hx hb hts in_X12_poor_12 hown hK hP (by decide) (by decide) (hts _ lk_X12_poor_1) hI hR hS (by omega) dX12_poor_2 (fun σ2 H2 locs2 u2 v2 hR hP hS => ?_)
  have hF := hF.puts u2 0 rfl (by decide) (by decide) (by decide) (by decide)
  refine lv_aload_n hx hb dX12_poor_5 rfl (lv_at hl 0 rfl) ?_
  refine r_cVv (k := 387) (As := []) (rest := []) ⟨hx, hb, hml, hown, hts⟩ hK hP hN hS (c_X12_asNow l D cA ad hI σ2 τ0 hR) (cwV 0 hts gX12_poor_X12_asNow rfl rfl rfl (by decide +kernel) ⟨by decide, by decide⟩) (rv_M hK hP (by decide) (by decide)) rfl hl.1 rfl (Nat.le_of_ble_eq_true rfl) dX12_poor_6 (Nat.zero_le _) (Nat.zero_le _) (fun u3 H3 locs3 hp3 hP hS => ?_)
  obtain ⟨σ3, τ3⟩ := u3
  obtain ⟨hR, f3, fL3⟩ : P_X12_asNow σ2 τ0 σ3 τ3 := hp3
  have hP : va_P D vwCl (gw cA ad σ3 τ3) H3 := hP
  obtain rfl := FrL.nil fL3
  have hF := hF.step f3 (by decide)
  refine r_iconst hx hb dX12_poor_9 (by decide) (fun z4 ez4 => ?_)
  refine lv_aload_n hx hb dX12_poor_10 rfl (lv_at hl 0 rfl) ?_
  refine fg_12_6 (k := 387) hx hb hts in_X12_poor_12 hown hK hP (by decide) (by decide) (hts _ lk_X12_poor_33) dX12_poor_11 ?_
  refine r_iconst hx hb dX12_poor_14 (by decide) (fun z5 ez5 => ?_)
  refine ad_ms (k := 389) (j := 1) hx hb hK hP (by decide) (by decide) (by omega) (by omega) dX12_poor_15 ?_
  have hr6 := ra_ms_0 hR (k := 389) (j := 1) (by decide) (by decide) (by decide) (by decide)
  refine r_ishlU hx hb dX12_poor_16 (fun z7 => ?_)
  refine r_iconst hx hb dX12_poor_17 (by decide) (fun z8 ez8 => ?_)
  refine r_isubU hx hb dX12_poor_18 (fun z9 => ?_)
  refine lv_istore_n (lv' := [(1, .int z9), (0, .ref (ad 387))]) hx hb dX12_poor_19 rfl hl (by decide) rfl (fun ls hl => ?_)
  refine r_iconst hx hb dX12_poor_20 (by decide) (fun z10 ez10 => ?_)
  refine lv_istore_n (lv' := [(2, .int z10), (1, .int z9), (0, .ref (ad 387))]) hx hb dX12_poor_21 rfl hl (by decide) rfl (fun ls hl => ?_)
  exact K22 σ3 τ0 H3 locs3 z9 z10 ls hR hF hFL hP hS (by omega) (lv_sub hl [2, 1, 0] rfl) (by omega)
abbrev L_X12_bits : List Rc := []
abbrev LL_X12_bits : List Rc := []
def P_X12_bits (σ0 : Nat → Nat → Int32) (τ0 : Nat → Nat → Int64) (a0 : Int32) (r : Int32) (σ : Nat → Nat → Int32) (τ : Nat → Nat → Int64) : Prop := Rg σ ∧ Fr L_X12_bits σ0 σ ∧ FrL LL_X12_bits τ0 τ
def J_X12_bits_4 (p : Program) (l : Launch) (e : Env) (s : State) (m : MethodId) (args : Array Value) (below : List Frame) (meth : Method) (c : Code) (D : va_G) (cA : Nat → ClassId) (ad : Nat → Nat) (σ0 : Nat → Nat → Int32) (τ0 : Nat → Nat → Int64) (a0 : Int32) (n : Nat) : Prop := ∀ (σ : Nat → Nat → Int32) (τ : Nat → Nat → Int64) (H : Heap) (locs : List Loc) (x1 : Int32) (x2 : Int32) (ls : Array Slot), Rg σ → Fr L_X12_bits σ0 σ → FrL LL_X12_bits τ0 τ → va_P D vwCl (gw cA ad σ τ) H → va_S (AA ad) s.heap H locs → lv_has ls 3 [(0, .int a0), (1, .int x1), (2, .int x2)] → 2 * BN x2 + 1 < (n : Int) → W p l e ({ frames := 0, cells := 0, slots := 0, locals := 0 } : Room) s m args below meth c H locs 0 0 (MQ below (va_Qi (fun (r : Int32) (u : SS) => P_X12_bits σ0 τ0 a0 r u.1 u.2) (WB D cA ad) (AA ad)) args s 0 0 (AA ad)) (F0 m 4 ls [])
set_option maxHeartbeats 4000000 in
theorem B_X12_bits_4 (p : Program) (l : Launch) (e : Env) (s : State) (m : MethodId) (args : Array Value) (below : List Frame) (meth : Method) (c : Code) (D : va_G) (cA : Nat → ClassId) (ad : Nat → Nat) (σ0 : Nat → Nat → Int32) (τ0 : Nat → Nat → Int64) (a0 : Int32) (n : Nat) (C : Cy p s m args meth c cX12_bits 3 wsX12_bits RX12 D cA ad (some .int))  (K4 : J_X12_bits_4 p l e s m args below meth c D cA ad σ0 τ0 a0 n) : J_X12_bits_4 p l e s m args below meth c D cA ad σ0 τ0 a0 (n + 1) := by
  obtain ⟨hx, hb, hml, hown, hts, hK, hk, hr, hI, hN⟩ := C
  intro σ τ H locs x1 x2 ls hR hF hFL hP hS hl hm
  obtain rfl := Fr.nil hF
  obtain rfl := FrL.nil hFL
  have hb0 := BN_nn x2
  refine lv_iload_n hx hb dX12_bits_4 rfl (lv_at hl 2 rfl) ?_
  refine r_if_eq (tgt := 20) hx hb dX12_bits_5 (by decide) (fun c1 => ?_) (fun c1 => ?_)
  · refine lv_iload_n hx hb dX12_bits_20 rfl (lv_at hl 1 rfl) ?_
    exact r_iret hx hb hr hK hP hS hk dX12_bits_21 (show P_X12_bits σ0 τ0 a0 x1 σ0 τ0 from ⟨hR, hF, hFL⟩)
  · refine r_iincU (k := 1) (lv1 := fun z2 => [(1, .int z2), (0, .int a0), (2, .int x2)]) hx hb dX12_bits_8 hl rfl (by decide) (fun _ => rfl) (fun z2 ls hl => ?_)
    refine lv_iload_n hx hb dX12_bits_11 rfl (lv_at hl 2 rfl) ?_
    refine lv_iload_n hx hb dX12_bits_12 rfl (lv_at hl 2 rfl) ?_
    refine lv_iconst (v := 1) hx hb dX12_bits_13 (by decide) ?_
    have kcz3 : (1 : Int32).toInt = 1 := rfl
    refine lv_isub hx hb dX12_bits_14 ?_
    refine lv_iand hx hb dX12_bits_15 ?_
    have hbn := BN_lt (x := x2) (z := 1) (by omega) rfl
    refine lv_istore_n (lv' := [(2, .int (x2 &&& (x2 - 1))), (1, .int z2), (0, .int a0)]) hx hb dX12_bits_16 rfl hl (by decide) rfl (fun ls hl => ?_)
    refine lv_goto (tgt := 4) hx hb dX12_bits_17 (by decide) ?_
    exact K4 σ0 τ0 H locs z2 (x2 &&& (x2 - 1)) ls hR hF hFL hP hS  (lv_sub hl [2, 1, 0] rfl) (by omega)
theorem A_X12_bits (p : Program) (l : Launch) (e : Env) (s : State) (m : MethodId) (args : Array Value) (below : List Frame) (meth : Method) (c : Code) (D : va_G) (cA : Nat → ClassId) (ad : Nat → Nat) (σ0 : Nat → Nat → Int32) (τ0 : Nat → Nat → Int64) (a0 : Int32) (C : Cy p s m args meth c cX12_bits 3 wsX12_bits RX12 D cA ad (some .int))  : ∀ n : Nat, J_X12_bits_4 p l e s m args below meth c D cA ad σ0 τ0 a0 n := by
  intro n
  induction n with
  | zero =>
    exact (by intro σ τ H locs x1 x2 ls hR hF hFL hP hS hl hm; have hb0 := BN_nn x2; exfalso; omega)
  | succ n ih =>
    exact B_X12_bits_4 p l e s m args below meth c D cA ad σ0 τ0 a0 n C  ih
set_option maxHeartbeats 4000000 in
theorem c_X12_bits (l : Launch) (D : va_G) (cA : Nat → ClassId) (ad : Nat → Nat) (hI : Inj ad) (σ0 : Nat → Nat → Int32) (τ0 : Nat → Nat → Int64) (hR : Rg σ0) (a0 : Int32)  : Met l yX12_bits wsX12_bits ({ frames := 0, cells := 0, slots := 0, locals := 0 } : Room) (WQc D cA ad [.int a0] σ0 τ0) (va_Qi (fun (r : Int32) (u : SS) => P_X12_bits σ0 τ0 a0 r u.1 u.2) (WB D cA ad) (AA ad)) 0 0 (AA ad) := by
  refine Met.ofW (cc := cX12_bits) (maxL := 3) (ret := (some .int)) (by decide) rfl ?_
  intro p e s m args below meth c s₁ B hml hv
  obtain ⟨rfl, hP, hK, hN⟩ := hv
  have C : Cy p s m _ meth c cX12_bits 3 wsX12_bits RX12 D cA ad (some .int) := ⟨B.exec, B.bytes, hml, findClass_of_methodNamed B.named, atoms_spec (ws := wsX12_bits) B.pre, hK, B.notSynchronized, B.returns, hI, hN⟩
  have hl := lv_entry ([.int a0]) (n := 3) (Nat.le_of_ble_eq_true rfl)
  rw [lg_entry_eq]
  generalize (lg_sl ([.int a0]) ++ List.replicate (3 - (lg_sl ([.int a0])).length) Slot.unset).toArray = ls at hl ⊢
  have hl : lv_has ls 3 [(0, .int a0)] := hl
  have hS : va_S (AA ad) s.heap s.heap [] := va_S.rf
  have hF : Fr L_X12_bits σ0 σ0 := Fr.rf
  have hFL : FrL LL_X12_bits τ0 τ0 := FrL.rf
  have hA := A_X12_bits p l e s m _ below meth c D cA ad σ0 τ0 a0 C  17179869190
  have K4 := hA
  clear hA
  obtain ⟨hx, hb, _, hown, hts, _, hk, hr, _, _⟩ := C
  have hb00 := BN_nn a0
  refine r_iconst hx hb dX12_bits_0 (by decide) (fun z1 ez1 => ?_)
  refine lv_istore_n (lv' := [(1, .int z1), (0, .int a0)]) hx hb dX12_bits_1 rfl hl (by decide) rfl (fun ls hl => ?_)
  refine lv_iload_n hx hb dX12_bits_2 rfl (lv_at hl 1 rfl) ?_
  refine lv_istore_n (lv' := [(2, .int a0), (1, .int z1), (0, .int a0)]) hx hb dX12_bits_3 rfl hl (by decide) rfl (fun ls hl => ?_)
  exact K4 σ0 τ0 s.heap [] z1 a0 ls hR hF hFL hP hS  (lv_sub hl [2, 1, 0] rfl) (by omega)
theorem in_X12_crowded_12 : ∀ w ∈ u_ws RX12 TX12 47, w ∈ wsX12_crowded := by decide +kernel
theorem lk_X12_crowded_1 : Cond.fieldLink RX12 1 "CuckooSharesModel" "thrown" "I" ∈ wsX12_crowded := by decide +kernel
theorem lk_X12_crowded_305 : Cond.fieldLink RX12 305 "CuckooSharesModel" "sharers" "I" ∈ wsX12_crowded := by decide +kernel
theorem lk_X12_crowded_33 : Cond.fieldLink RX12 33 "CuckooSharesModel" "s" "[I" ∈ wsX12_crowded := by decide +kernel
abbrev L_X12_crowded : List Rc := [(387, 387, 0, 0), (394, 394, 0, 7), (395, 395, 0, 7), (396, 396, 0, 7), (387, 387, 26, 26), (397, 397, 0, 7)]
abbrev LL_X12_crowded : List Rc := []
def P_X12_crowded (σ0 : Nat → Nat → Int32) (τ0 : Nat → Nat → Int64)  (r : Int32) (σ : Nat → Nat → Int32) (τ : Nat → Nat → Int64) : Prop := Rg σ ∧ Fr L_X12_crowded σ0 σ ∧ FrL LL_X12_crowded τ0 τ ∧ (-1 ≤ r.toInt ∧ r.toInt ≤ 3)
def J_X12_crowded_15 (p : Program) (l : Launch) (e : Env) (s : State) (m : MethodId) (args : Array Value) (below : List Frame) (meth : Method) (c : Code) (D : va_G) (cA : Nat → ClassId) (ad : Nat → Nat) (σ0 : Nat → Nat → Int32) (τ0 : Nat → Nat → Int64)  (n : Nat) : Prop := ∀ (σ : Nat → Nat → Int32) (τ : Nat → Nat → Int64) (H : Heap) (locs : List Loc) (x1 : Int32) (x2 : Int32) (x3 : Int32) (ls : Array Slot), Rg σ → Fr L_X12_crowded σ0 σ → FrL LL_X12_crowded τ0 τ → va_P D vwCl (gw cA ad σ τ) H → va_S (AA ad) s.heap H locs → (-1 ≤ x1.toInt ∧ x1.toInt ≤ 3) → (0 ≤ x3.toInt ∧ x3.toInt ≤ 4) → lv_has ls 4 [(0, .ref (ad 387)), (1, .int x1), (2, .int x2), (3, .int x3)] → 2 * (4 - x3.toInt) + 1 < (n : Int) → W p l e ({ frames := 6, cells := 0, slots := 0, locals := 140 } : Room) s m args below meth c H locs 0 0 (MQ below (va_Qi (fun (r : Int32) (u : SS) => P_X12_crowded σ0 τ0 r u.1 u.2) (WB D cA ad) (AA ad)) args s 0 0 (AA ad)) (F0 m 15 ls [])
set_option maxHeartbeats 4000000 in
theorem B_X12_crowded_15 (p : Program) (l : Launch) (e : Env) (s : State) (m : MethodId) (args : Array Value) (below : List Frame) (meth : Method) (c : Code) (D : va_G) (cA : Nat → ClassId) (ad : Nat → Nat) (σ0 : Nat → Nat → Int32) (τ0 : Nat → Nat → Int64)  (n : Nat) (C : Cy p s m args meth c cX12_crowded 4 wsX12_crowded RX12 D cA ad (some .int))  (K15 : J_X12_crowded_15 p l e s m args below meth c D cA ad σ0 τ0 n) : J_X12_crowded_15 p l e s m args below meth c D cA ad σ0 τ0 (n + 1) := by
  obtain ⟨hx, hb, hml, hown, hts, hK, hk, hr, hI, hN⟩ := C
  intro σ τ H locs x1 x2 x3 ls hR hF hFL hP hS hc0 hc1 hl hm
  obtain rfl := FrL.nil hFL
  refine lv_iload_n hx hb dX12_crowded_15 rfl (lv_at hl 3 rfl) ?_
  refine lv_aload_n hx hb dX12_crowded_16 rfl (lv_at hl 0 rfl) ?_
  refine fg_12_6 (k := 387) hx hb hts in_X12_crowded_12 hown hK hP (by decide) (by decide) (hts _ lk_X12_crowded_33) dX12_crowded_17 ?_
  refine r_iconst hx hb dX12_crowded_20 (by decide) (fun z1 ez1 => ?_)
  refine ad_ms (k := 389) (j := 2) hx hb hK hP (by decide) (by decide) (by omega) (by omega) dX12_crowded_21 ?_
  have hr2 := ra_ms_1 hR (k := 389) (j := 2) (by decide) (by decide) (by decide) (by decide)
  refine r_icmp_ge (tgt := 70) hx hb dX12_crowded_22 (by decide) (fun c3 => ?_) (fun c3 => ?_)
  · refine lv_iload_n hx hb dX12_crowded_70 rfl (lv_at hl 1 rfl) ?_
    exact r_iret hx hb hr hK hP hS hk dX12_crowded_71 (show P_X12_crowded σ0 τ0 x1 σ τ0 from ⟨hR, hF, hFL, by omega⟩)
  · refine lv_aload_n hx hb dX12_crowded_25 rfl (lv_at hl 0 rfl) ?_
    refine lv_iload_n hx hb dX12_crowded_26 rfl (lv_at hl 3 rfl) ?_
    refine lv_aload_n hx hb dX12_crowded_27 rfl (lv_at hl 0 rfl) ?_
    refine fg_12_6 (k := 387) hx hb hts in_X12_crowded_12 hown hK hP (by decide) (by decide) (hts _ lk_X12_crowded_33) dX12_crowded_28 ?_
    refine r_iconst hx hb dX12_crowded_31 (by decide) (fun z4 ez4 => ?_)
    refine ad_ms (k := 389) (j := 4) hx hb hK hP (by decide) (by decide) (by omega) (by omega) dX12_crowded_32 ?_
    refine r_cVv (k := 387) (As := [.int x3, .int (σ 389 4)]) (rest := []) ⟨hx, hb, hml, hown, hts⟩ hK hP hN hS (c_X12_sharesBy l D cA ad hI σ τ0 hR x3 (σ 389 4) (by omega)) (cwV 2 hts gX12_crowded_X12_sharesBy rfl rfl rfl (by decide +kernel) ⟨by decide, by decide⟩) (rv_M hK hP (by decide) (by decide)) rfl hl.1 rfl (Nat.le_of_ble_eq_true rfl) dX12_crowded_33 (Nat.zero_le _) (Nat.zero_le _) (fun u5 H5 locs5 hp5 hP hS => ?_)
    obtain ⟨σ5, τ5⟩ := u5
    obtain ⟨hR, f5, fL5⟩ : P_X12_sharesBy σ τ0 x3 (σ 389 4) σ5 τ5 := hp5
    have hP : va_P D vwCl (gw cA ad σ5 τ5) H5 := hP
    obtain rfl := FrL.nil fL5
    have hF := hF.step f5 (by decide)
    refine lv_iload_n hx hb dX12_crowded_36 rfl (lv_at hl 1 rfl) ?_
    refine r_if_lt (tgt := 54) hx hb dX12_crowded_37 (by decide) (fun c6 => ?_) (fun c6 => ?_)
    · refine lv_iload_n hx hb dX12_crowded_54 rfl (lv_at hl 3 rfl) ?_
      refine lv_istore_n (lv' := [(1, .int x3), (0, .ref (ad 387)), (2, .int x2), (3, .int x3)]) hx hb dX12_crowded_55 rfl hl (by decide) rfl (fun ls hl => ?_)
      refine lv_aload_n hx hb dX12_crowded_56 rfl (lv_at hl 1 rfl) ?_
      refine fg_12_26 (k := 387) hx hb hts in_X12_crowded_12 hown hK hP (by decide) (by decide) (hts _ lk_X12_crowded_305) dX12_crowded_57 ?_
      refine r_cSi (As := [.int (σ5 387 26)]) (rest := []) ⟨hx, hb, hml, hown, hts⟩ hK hP hN hS (c_X12_bits l D cA ad hI σ5 τ0 hR (σ5 387 26)) (va_cwS 1 hts gX12_crowded_X12_bits rfl rfl rfl (by decide +kernel) ⟨by decide, by decide⟩) rfl hl.1 rfl (Nat.le_of_ble_eq_true rfl) dX12_crowded_60 (Nat.zero_le _) (Nat.zero_le _) (fun r7 u7 H7 locs7 hp7 hP hS => ?_)
      obtain ⟨σ7, τ7⟩ := u7
      obtain ⟨hR, f7, fL7⟩ : P_X12_bits σ5 τ0 (σ5 387 26) r7 σ7 τ7 := hp7
      have hP : va_P D vwCl (gw cA ad σ7 τ7) H7 := hP
      obtain rfl := FrL.nil fL7
      obtain rfl := Fr.nil f7
      refine lv_istore_n (lv' := [(2, .int r7), (1, .int x3), (0, .ref (ad 387)), (3, .int x3)]) hx hb dX12_crowded_63 rfl hl (by decide) rfl (fun ls hl => ?_)
      refine r_iinc (k := 3) (lv1 := fun z8 => [(3, .int z8), (2, .int r7), (1, .int x3), (0, .ref (ad 387))]) hx hb dX12_crowded_64 hl rfl (by decide) (fun _ => rfl) (by decide) (by omega) (fun z8 ls ez8 hl => ?_)
      refine lv_goto (tgt := 15) hx hb dX12_crowded_67 (by decide) ?_
      exact K15 σ5 τ0 H7 locs7 x3 r7 z8 ls hR hF hFL hP hS (by omega) (by omega) (lv_sub hl [3, 2, 1, 0] rfl) (by omega)
    · refine lv_aload_n hx hb dX12_crowded_40 rfl (lv_at hl 0 rfl) ?_
      refine fg_12_26 (k := 387) hx hb hts in_X12_crowded_12 hown hK hP (by decide) (by decide) (hts _ lk_X12_crowded_305) dX12_crowded_41 ?_
      refine r_cSi (As := [.int (σ5 387 26)]) (rest := []) ⟨hx, hb, hml, hown, hts⟩ hK hP hN hS (c_X12_bits l D cA ad hI σ5 τ0 hR (σ5 387 26)) (va_cwS 1 hts gX12_crowded_X12_bits rfl rfl rfl (by decide +kernel) ⟨by decide, by decide⟩) rfl hl.1 rfl (Nat.le_of_ble_eq_true rfl) dX12_crowded_44 (Nat.zero_le _) (Nat.zero_le _) (fun r9 u9 H9 locs9 hp9 hP hS => ?_)
      obtain ⟨σ9, τ9⟩ := u9
      obtain ⟨hR, f9, fL9⟩ : P_X12_bits σ5 τ0 (σ5 387 26) r9 σ9 τ9 := hp9
      have hP : va_P D vwCl (gw cA ad σ9 τ9) H9 := hP
      obtain rfl := FrL.nil fL9
      obtain rfl := Fr.nil f9
      refine lv_iload_n hx hb dX12_crowded_47 rfl (lv_at hl 2 rfl) ?_
      refine r_icmp_gt (tgt := 54) hx hb dX12_crowded_48 (by decide) (fun c10 => ?_) (fun c10 => ?_)
      · refine lv_iload_n hx hb dX12_crowded_54 rfl (lv_at hl 3 rfl) ?_
        refine lv_istore_n (lv' := [(1, .int x3), (0, .ref (ad 387)), (2, .int x2), (3, .int x3)]) hx hb dX12_crowded_55 rfl hl (by decide) rfl (fun ls hl => ?_)
        refine lv_aload_n hx hb dX12_crowded_56 rfl (lv_at hl 1 rfl) ?_
        refine fg_12_26 (k := 387) hx hb hts in_X12_crowded_12 hown hK hP (by decide) (by decide) (hts _ lk_X12_crowded_305) dX12_crowded_57 ?_
        refine r_cSi (As := [.int (σ5 387 26)]) (rest := []) ⟨hx, hb, hml, hown, hts⟩ hK hP hN hS (c_X12_bits l D cA ad hI σ5 τ0 hR (σ5 387 26)) (va_cwS 1 hts gX12_crowded_X12_bits rfl rfl rfl (by decide +kernel) ⟨by decide, by decide⟩) rfl hl.1 rfl (Nat.le_of_ble_eq_true rfl) dX12_crowded_60 (Nat.zero_le _) (Nat.zero_le _) (fun r11 u11 H11 locs11 hp11 hP hS => ?_)
        obtain ⟨σ11, τ11⟩ := u11
        obtain ⟨hR, f11, fL11⟩ : P_X12_bits σ5 τ0 (σ5 387 26) r11 σ11 τ11 := hp11
        have hP : va_P D vwCl (gw cA ad σ11 τ11) H11 := hP
        obtain rfl := FrL.nil fL11
        obtain rfl := Fr.nil f11
        refine lv_istore_n (lv' := [(2, .int r11), (1, .int x3), (0, .ref (ad 387)), (3, .int x3)]) hx hb dX12_crowded_63 rfl hl (by decide) rfl (fun ls hl => ?_)
        refine r_iinc (k := 3) (lv1 := fun z12 => [(3, .int z12), (2, .int r11), (1, .int x3), (0, .ref (ad 387))]) hx hb dX12_crowded_64 hl rfl (by decide) (fun _ => rfl) (by decide) (by omega) (fun z12 ls ez12 hl => ?_)
        refine lv_goto (tgt := 15) hx hb dX12_crowded_67 (by decide) ?_
        exact K15 σ5 τ0 H11 locs11 x3 r11 z12 ls hR hF hFL hP hS (by omega) (by omega) (lv_sub hl [3, 2, 1, 0] rfl) (by omega)
      · refine lv_goto (tgt := 64) hx hb dX12_crowded_51 (by decide) ?_
        refine r_iinc (k := 3) (lv1 := fun z13 => [(3, .int z13), (0, .ref (ad 387)), (1, .int x1), (2, .int x2)]) hx hb dX12_crowded_64 hl rfl (by decide) (fun _ => rfl) (by decide) (by omega) (fun z13 ls ez13 hl => ?_)
        refine lv_goto (tgt := 15) hx hb dX12_crowded_67 (by decide) ?_
        exact K15 σ5 τ0 H9 locs9 x1 x2 z13 ls hR hF hFL hP hS (by omega) (by omega) (lv_sub hl [1, 2, 3, 0] rfl) (by omega)
theorem A_X12_crowded (p : Program) (l : Launch) (e : Env) (s : State) (m : MethodId) (args : Array Value) (below : List Frame) (meth : Method) (c : Code) (D : va_G) (cA : Nat → ClassId) (ad : Nat → Nat) (σ0 : Nat → Nat → Int32) (τ0 : Nat → Nat → Int64)  (C : Cy p s m args meth c cX12_crowded 4 wsX12_crowded RX12 D cA ad (some .int))  : ∀ n : Nat, J_X12_crowded_15 p l e s m args below meth c D cA ad σ0 τ0 n := by
  intro n
  induction n with
  | zero =>
    exact (by intro σ τ H locs x1 x2 x3 ls hR hF hFL hP hS hc0 hc1 hl hm; exfalso; omega)
  | succ n ih =>
    exact B_X12_crowded_15 p l e s m args below meth c D cA ad σ0 τ0 n C  ih
set_option maxHeartbeats 4000000 in
theorem c_X12_crowded (l : Launch) (D : va_G) (cA : Nat → ClassId) (ad : Nat → Nat) (hI : Inj ad) (σ0 : Nat → Nat → Int32) (τ0 : Nat → Nat → Int64) (hR : Rg σ0)   : Met l yX12_crowded wsX12_crowded ({ frames := 6, cells := 0, slots := 0, locals := 140 } : Room) (WQc D cA ad [.ref (ad 387)] σ0 τ0) (va_Qi (fun (r : Int32) (u : SS) => P_X12_crowded σ0 τ0 r u.1 u.2) (WB D cA ad) (AA ad)) 0 0 (AA ad) := by
  refine Met.ofW (cc := cX12_crowded) (maxL := 4) (ret := (some .int)) (by decide) rfl ?_
  intro p e s m args below meth c s₁ B hml hv
  obtain ⟨rfl, hP, hK, hN⟩ := hv
  have C : Cy p s m _ meth c cX12_crowded 4 wsX12_crowded RX12 D cA ad (some .int) := ⟨B.exec, B.bytes, hml, findClass_of_methodNamed B.named, atoms_spec (ws := wsX12_crowded) B.pre, hK, B.notSynchronized, B.returns, hI, hN⟩
  have hl := lv_entry ([.ref (ad 387)]) (n := 4) (Nat.le_of_ble_eq_true rfl)
  rw [lg_entry_eq]
  generalize (lg_sl ([.ref (ad 387)]) ++ List.replicate (4 - (lg_sl ([.ref (ad 387)])).length) Slot.unset).toArray = ls at hl ⊢
  have hl : lv_has ls 4 [(0, .ref (ad 387))] := hl
  have hS : va_S (AA ad) s.heap s.heap [] := va_S.rf
  have hF : Fr L_X12_crowded σ0 σ0 := Fr.rf
  have hFL : FrL LL_X12_crowded τ0 τ0 := FrL.rf
  have hA := A_X12_crowded p l e s m _ below meth c D cA ad σ0 τ0 C  26
  have K15 := hA
  clear hA
  obtain ⟨hx, hb, _, hown, hts, _, hk, hr, _, _⟩ := C
  refine lv_aload_n hx hb dX12_crowded_0 rfl (lv_at hl 0 rfl) ?_
  refine r_iconst hx hb dX12_crowded_1 (by decide) (fun z1 ez1 => ?_)
  refine fp_12_0 (k := 387) hx hb hts in_X12_crowded_12 hown hK hP (by decide) (by decide) (hts _ lk_X12_crowded_1) hI hR hS (by omega) dX12_crowded_2 (fun σ2 H2 locs2 u2 v2 hR hP hS => ?_)
  have hF := hF.puts u2 0 rfl (by decide) (by decide) (by decide) (by decide)
  refine lv_aload_n hx hb dX12_crowded_5 rfl (lv_at hl 0 rfl) ?_
  refine r_cVv (k := 387) (As := []) (rest := []) ⟨hx, hb, hml, hown, hts⟩ hK hP hN hS (c_X12_asNow l D cA ad hI σ2 τ0 hR) (cwV 0 hts gX12_crowded_X12_asNow rfl rfl rfl (by decide +kernel) ⟨by decide, by decide⟩) (rv_M hK hP (by decide) (by decide)) rfl hl.1 rfl (Nat.le_of_ble_eq_true rfl) dX12_crowded_6 (Nat.zero_le _) (Nat.zero_le _) (fun u3 H3 locs3 hp3 hP hS => ?_)
  obtain ⟨σ3, τ3⟩ := u3
  obtain ⟨hR, f3, fL3⟩ : P_X12_asNow σ2 τ0 σ3 τ3 := hp3
  have hP : va_P D vwCl (gw cA ad σ3 τ3) H3 := hP
  obtain rfl := FrL.nil fL3
  have hF := hF.step f3 (by decide)
  refine r_iconst hx hb dX12_crowded_9 (by decide) (fun z4 ez4 => ?_)
  refine lv_istore_n (lv' := [(1, .int z4), (0, .ref (ad 387))]) hx hb dX12_crowded_10 rfl hl (by decide) rfl (fun ls hl => ?_)
  refine r_iconst hx hb dX12_crowded_11 (by decide) (fun z5 ez5 => ?_)
  refine lv_istore_n (lv' := [(2, .int z5), (1, .int z4), (0, .ref (ad 387))]) hx hb dX12_crowded_12 rfl hl (by decide) rfl (fun ls hl => ?_)
  refine r_iconst hx hb dX12_crowded_13 (by decide) (fun z6 ez6 => ?_)
  refine lv_istore_n (lv' := [(3, .int z6), (2, .int z5), (1, .int z4), (0, .ref (ad 387))]) hx hb dX12_crowded_14 rfl hl (by decide) rfl (fun ls hl => ?_)
  exact K15 σ3 τ0 H3 locs3 z4 z5 z6 ls hR hF hFL hP hS (by omega) (by omega) (lv_sub hl [3, 2, 1, 0] rfl) (by omega)
