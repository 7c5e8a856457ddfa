theorem in_X12_fault_12 : ∀ w ∈ u_ws RX12 TX12 47, w ∈ wsX12_fault := by decide +kernel
theorem lk_X12_fault_1 : Cond.fieldLink RX12 1 "CuckooSharesModel" "thrown" "I" ∈ wsX12_fault := by decide +kernel
theorem lk_X12_fault_176 : Cond.fieldLink RX12 176 "CuckooSharesModel" "fault" "I" ∈ wsX12_fault := by decide +kernel
abbrev L_X12_fault : List Rc := [(387, 387, 0, 0)]
abbrev LL_X12_fault : List Rc := []
def P_X12_fault (σ0 : Nat → Nat → Int32) (τ0 : Nat → Nat → Int64)  (r : Int32) (σ : Nat → Nat → Int32) (τ : Nat → Nat → Int64) : Prop := Rg σ ∧ Fr L_X12_fault σ0 σ ∧ FrL LL_X12_fault τ0 τ
set_option maxHeartbeats 4000000 in
theorem c_X12_fault (l : Launch) (D : va_G) (cA : Nat → ClassId) (ad : Nat → Nat) (hI : Inj ad) (σ0 : Nat → Nat → Int32) (τ0 : Nat → Nat → Int64) (hR : Rg σ0)   : Met l yX12_fault wsX12_fault ({ frames := 0, cells := 0, slots := 0, locals := 0 } : Room) (WQc D cA ad [.ref (ad 387)] σ0 τ0) (va_Qi (fun (r : Int32) (u : SS) => P_X12_fault σ0 τ0 r u.1 u.2) (WB D cA ad) (AA ad)) 0 0 (AA ad) := by
  refine Met.ofW (cc := cX12_fault) (maxL := 1) (ret := (some .int)) (by decide) rfl ?_
  intro p e s m args below meth c s₁ B hml hv
  obtain ⟨rfl, hP, hK, hN⟩ := hv
  have C : Cy p s m _ meth c cX12_fault 1 wsX12_fault RX12 D cA ad (some .int) := ⟨B.exec, B.bytes, hml, findClass_of_methodNamed B.named, atoms_spec (ws := wsX12_fault) B.pre, hK, B.notSynchronized, B.returns, hI, hN⟩
  have hl := lv_entry ([.ref (ad 387)]) (n := 1) (Nat.le_of_ble_eq_true rfl)
  rw [lg_entry_eq]
  generalize (lg_sl ([.ref (ad 387)]) ++ List.replicate (1 - (lg_sl ([.ref (ad 387)])).length) Slot.unset).toArray = ls at hl ⊢
  have hl : lv_has ls 1 [(0, .ref (ad 387))] := hl
  have hS : va_S (AA ad) s.heap s.heap [] := va_S.rf
  have hF : Fr L_X12_fault σ0 σ0 := Fr.rf
  have hFL : FrL LL_X12_fault τ0 τ0 := FrL.rf
  obtain ⟨hx, hb, _, hown, hts, _, hk, hr, _, _⟩ := C
  refine lv_aload_n hx hb dX12_fault_0 rfl (lv_at hl 0 rfl) ?_
  refine r_iconst hx hb dX12_fault_1 (by decide) (fun z1 ez1 => ?_)
  refine fp_12_0 (k := 387) hx hb hts in_X12_fault_12 hown hK hP (by decide) (by decide) (hts _ lk_X12_fault_1) hI hR hS (by omega) dX12_fault_2 (fun σ2 H2 locs2 u2 v2 hR hP hS => ?_)
  have hF := hF.puts u2 0 rfl (by decide) (by decide) (by decide) (by decide)
  refine lv_aload_n hx hb dX12_fault_5 rfl (lv_at hl 0 rfl) ?_
  refine fg_12_15 (k := 387) hx hb hts in_X12_fault_12 hown hK hP (by decide) (by decide) (hts _ lk_X12_fault_176) dX12_fault_6 ?_
  exact r_iret hx hb hr hK hP hS hk dX12_fault_9 (show P_X12_fault σ0 τ0 (σ2 387 15) σ2 τ0 from ⟨hR, hF, hFL⟩)
theorem in_X12_isHill_12 : ∀ w ∈ u_ws RX12 TX12 47, w ∈ wsX12_isHill := by decide +kernel
theorem lk_X12_isHill_33 : Cond.fieldLink RX12 33 "CuckooSharesModel" "s" "[I" ∈ wsX12_isHill := by decide +kernel
abbrev L_X12_isHill : List Rc := []
abbrev LL_X12_isHill : List Rc := []
def P_X12_isHill (σ0 : Nat → Nat → Int32) (τ0 : Nat → Nat → Int64) (a1 : Int32) (r : Int32) (σ : Nat → Nat → Int32) (τ : Nat → Nat → Int64) : Prop := Rg σ ∧ Fr L_X12_isHill σ0 σ ∧ FrL LL_X12_isHill τ0 τ ∧ (0 ≤ r.toInt ∧ r.toInt ≤ 1) ∧ (r.toInt = 0 ∨ (r.toInt = 1 ∧ 0 ≤ a1.toInt ∧ a1.toInt ≤ 7))
set_option maxHeartbeats 4000000 in
theorem c_X12_isHill (l : Launch) (D : va_G) (cA : Nat → ClassId) (ad : Nat → Nat) (hI : Inj ad) (σ0 : Nat → Nat → Int32) (τ0 : Nat → Nat → Int64) (hR : Rg σ0) (a1 : Int32)  : Met l yX12_isHill wsX12_isHill ({ frames := 1, cells := 0, slots := 0, locals := 22 } : Room) (WQc D cA ad [.ref (ad 387), .int a1] σ0 τ0) (va_Qi (fun (r : Int32) (u : SS) => P_X12_isHill σ0 τ0 a1 r u.1 u.2) (WB D cA ad) (AA ad)) 0 0 (AA ad) := by
  refine Met.ofW (cc := cX12_isHill) (maxL := 2) (ret := (some .boolean)) (by decide) rfl ?_
  intro p e s m args below meth c s₁ B hml hv
  obtain ⟨rfl, hP, hK, hN⟩ := hv
  have C : Cy p s m _ meth c cX12_isHill 2 wsX12_isHill RX12 D cA ad (some .boolean) := ⟨B.exec, B.bytes, hml, findClass_of_methodNamed B.named, atoms_spec (ws := wsX12_isHill) B.pre, hK, B.notSynchronized, B.returns, hI, hN⟩
  have hl := lv_entry ([.ref (ad 387), .int a1]) (n := 2) (Nat.le_of_ble_eq_true rfl)
  rw [lg_entry_eq]
  generalize (lg_sl ([.ref (ad 387), .int a1]) ++ List.replicate (2 - (lg_sl ([.ref (ad 387), .int a1])).length) Slot.unset).toArray = ls at hl ⊢
  have hl : lv_has ls 2 [(0, .ref (ad 387)), (1, .int a1)] := hl
  have hS : va_S (AA ad) s.heap s.heap [] := va_S.rf
  have hF : Fr L_X12_isHill σ0 σ0 := Fr.rf
  have hFL : FrL LL_X12_isHill τ0 τ0 := FrL.rf
  obtain ⟨hx, hb, _, hown, hts, _, hk, hr, _, _⟩ := C
  refine lv_iload_n hx hb dX12_isHill_0 rfl (lv_at hl 1 rfl) ?_
  refine r_iconst hx hb dX12_isHill_1 (by decide) (fun z1 ez1 => ?_)
  refine lv_aload_n hx hb dX12_isHill_2 rfl (lv_at hl 0 rfl) ?_
  refine fg_12_6 (k := 387) hx hb hts in_X12_isHill_12 hown hK hP (by decide) (by decide) (hts _ lk_X12_isHill_33) dX12_isHill_3 ?_
  refine r_iconst hx hb dX12_isHill_6 (by decide) (fun z2 ez2 => ?_)
  refine ad_ms (k := 389) (j := 0) hx hb hK hP (by decide) (by decide) (by omega) (by omega) dX12_isHill_7 ?_
  have hr3 := ra_ms_0 hR (k := 389) (j := 0) (by decide) (by decide) (by decide) (by decide)
  refine r_iconst hx hb dX12_isHill_8 (by decide) (fun z4 ez4 => ?_)
  refine r_isub hx hb dX12_isHill_9 (by omega) (fun z5 ez5 => ?_)
  refine r_cSi (As := [.int a1, .int z1, .int z5]) (rest := []) ⟨hx, hb, hml, hown, hts⟩ hK hP hN hS (c_X12_isIn l D cA ad hI σ0 τ0 hR a1 z1 z5) (va_cwS 3 hts gX12_isHill_X12_isIn rfl rfl rfl (by decide +kernel) ⟨by decide, by decide⟩) rfl hl.1 rfl (Nat.le_of_ble_eq_true rfl) dX12_isHill_10 (Nat.zero_le _) (Nat.zero_le _) (fun r6 u6 H6 locs6 hp6 hP hS => ?_)
  obtain ⟨σ6, τ6⟩ := u6
  obtain ⟨hR, f6, fL6, hq6, hp6_0, hp6_1⟩ : P_X12_isIn σ0 τ0 a1 z1 z5 r6 σ6 τ6 := hp6
  have hP : va_P D vwCl (gw cA ad σ6 τ6) H6 := hP
  obtain rfl := FrL.nil fL6
  obtain rfl := Fr.nil f6
  exact r_zret hx hb hr hK hP hS hk (by omega) dX12_isHill_13 (show P_X12_isHill σ0 τ0 a1 r6 σ0 τ0 from ⟨hR, hF, hFL, by omega, by omega⟩)
theorem in_X12_valleyOf_12 : ∀ w ∈ u_ws RX12 TX12 47, w ∈ wsX12_valleyOf := by decide +kernel
theorem lk_X12_valleyOf_33 : Cond.fieldLink RX12 33 "CuckooSharesModel" "s" "[I" ∈ wsX12_valleyOf := by decide +kernel
abbrev L_X12_valleyOf : List Rc := []
abbrev LL_X12_valleyOf : List Rc := []
def P_X12_valleyOf (σ0 : Nat → Nat → Int32) (τ0 : Nat → Nat → Int64) (a1 : Int32) (r : Int32) (σ : Nat → Nat → Int32) (τ : Nat → Nat → Int64) : Prop := Rg σ ∧ Fr L_X12_valleyOf σ0 σ ∧ FrL LL_X12_valleyOf τ0 τ ∧ (0 ≤ r.toInt ∧ r.toInt ≤ 1)
set_option maxHeartbeats 4000000 in
theorem c_X12_valleyOf (l : Launch) (D : va_G) (cA : Nat → ClassId) (ad : Nat → Nat) (hI : Inj ad) (σ0 : Nat → Nat → Int32) (τ0 : Nat → Nat → Int64) (hR : Rg σ0) (a1 : Int32)  : Met l yX12_valleyOf wsX12_valleyOf ({ frames := 0, cells := 0, slots := 0, locals := 0 } : Room) (WQc D cA ad [.ref (ad 387), .int a1] σ0 τ0) (va_Qi (fun (r : Int32) (u : SS) => P_X12_valleyOf σ0 τ0 a1 r u.1 u.2) (WB D cA ad) (AA ad)) 0 0 (AA ad) := by
  refine Met.ofW (cc := cX12_valleyOf) (maxL := 2) (ret := (some .int)) (by decide) rfl ?_
  intro p e s m args below meth c s₁ B hml hv
  obtain ⟨rfl, hP, hK, hN⟩ := hv
  have C : Cy p s m _ meth c cX12_valleyOf 2 wsX12_valleyOf RX12 D cA ad (some .int) := ⟨B.exec, B.bytes, hml, findClass_of_methodNamed B.named, atoms_spec (ws := wsX12_valleyOf) B.pre, hK, B.notSynchronized, B.returns, hI, hN⟩
  have hl := lv_entry ([.ref (ad 387), .int a1]) (n := 2) (Nat.le_of_ble_eq_true rfl)
  rw [lg_entry_eq]
  generalize (lg_sl ([.ref (ad 387), .int a1]) ++ List.replicate (2 - (lg_sl ([.ref (ad 387), .int a1])).length) Slot.unset).toArray = ls at hl ⊢
  have hl : lv_has ls 2 [(0, .ref (ad 387)), (1, .int a1)] := hl
  have hS : va_S (AA ad) s.heap s.heap [] := va_S.rf
  have hF : Fr L_X12_valleyOf σ0 σ0 := Fr.rf
  have hFL : FrL LL_X12_valleyOf τ0 τ0 := FrL.rf
  obtain ⟨hx, hb, _, hown, hts, _, hk, hr, _, _⟩ := C
  refine lv_iload_n hx hb dX12_valleyOf_0 rfl (lv_at hl 1 rfl) ?_
  refine lv_aload_n hx hb dX12_valleyOf_1 rfl (lv_at hl 0 rfl) ?_
  refine fg_12_6 (k := 387) hx hb hts in_X12_valleyOf_12 hown hK hP (by decide) (by decide) (hts _ lk_X12_valleyOf_33) dX12_valleyOf_2 ?_
  refine r_iconst hx hb dX12_valleyOf_5 (by decide) (fun z1 ez1 => ?_)
  refine ad_ms (k := 389) (j := 3) hx hb hK hP (by decide) (by decide) (by omega) (by omega) dX12_valleyOf_6 ?_
  refine r_icmp_le (tgt := 14) hx hb dX12_valleyOf_7 (by decide) (fun c2 => ?_) (fun c2 => ?_)
  · refine r_iconst hx hb dX12_valleyOf_14 (by decide) (fun z3 ez3 => ?_)
    exact r_iret hx hb hr hK hP hS hk dX12_valleyOf_15 (show P_X12_valleyOf σ0 τ0 a1 z3 σ0 τ0 from ⟨hR, hF, hFL, by omega⟩)
  · refine r_iconst hx hb dX12_valleyOf_10 (by decide) (fun z4 ez4 => ?_)
    refine lv_goto (tgt := 15) hx hb dX12_valleyOf_11 (by decide) ?_
    exact r_iret hx hb hr hK hP hS hk dX12_valleyOf_15 (show P_X12_valleyOf σ0 τ0 a1 z4 σ0 τ0 from ⟨hR, hF, hFL, by omega⟩)
theorem in_X12_hill_12 : ∀ w ∈ u_ws RX12 TX12 47, w ∈ wsX12_hill := by decide +kernel
theorem lk_X12_hill_1 : Cond.fieldLink RX12 1 "CuckooSharesModel" "thrown" "I" ∈ wsX12_hill := by decide +kernel
theorem lk_X12_hill_33 : Cond.fieldLink RX12 33 "CuckooSharesModel" "s" "[I" ∈ wsX12_hill := by decide +kernel
abbrev L_X12_hill : List Rc := [(387, 387, 0, 0)]
abbrev LL_X12_hill : List Rc := []
def P_X12_hill (σ0 : Nat → Nat → Int32) (τ0 : Nat → Nat → Int64) (a1 : Int32) (a2 : Int32) (r : Int32) (σ : Nat → Nat → Int32) (τ : Nat → Nat → Int64) : Prop := Rg σ ∧ Fr L_X12_hill σ0 σ ∧ FrL LL_X12_hill τ0 τ
def J_X12_hill_20 (p : Program) (l : Launch) (e : Env) (s : State) (m : MethodId) (args : Array Value) (below : List Frame) (meth : Method) (c : Code) (D : va_G) (cA : Nat → ClassId) (ad : Nat → Nat) (σ0 : Nat → Nat → Int32) (τ0 : Nat → Nat → Int64) (a1 : Int32) (a2 : Int32) (n : Nat) : Prop := ∀ (σ : Nat → Nat → Int32) (τ : Nat → Nat → Int64) (H : Heap) (locs : List Loc) (x3 : Int32) (x4 : Int32) (ls : Array Slot), Rg σ → Fr L_X12_hill σ0 σ → FrL LL_X12_hill τ0 τ → va_P D vwCl (gw cA ad σ τ) H → va_S (AA ad) s.heap H locs → (0 ≤ a1.toInt ∧ a1.toInt ≤ 7) → (0 ≤ x4.toInt ∧ x4.toInt ≤ 8) → lv_has ls 5 [(0, .ref (ad 387)), (1, .int a1), (2, .int a2), (3, .int x3), (4, .int x4)] → 2 * (8 - x4.toInt) + 1 < (n : Int) → W p l e ({ frames := 2, cells := 0, slots := 0, locals := 43 } : Room) s m args below meth c H locs 0 0 (MQ below (va_Qi (fun (r : Int32) (u : SS) => P_X12_hill σ0 τ0 a1 a2 r u.1 u.2) (WB D cA ad) (AA ad)) args s 0 0 (AA ad)) (F0 m 20 ls [])
set_option maxHeartbeats 4000000 in
theorem B_X12_hill_20 (p : Program) (l : Launch) (e : Env) (s : State) (m : MethodId) (args : Array Value) (below : List Frame) (meth : Method) (c : Code) (D : va_G) (cA : Nat → ClassId) (ad : Nat → Nat) (σ0 : Nat → Nat → Int32) (τ0 : Nat → Nat → Int64) (a1 : Int32) (a2 : Int32) (n : Nat) (C : Cy p s m args meth c cX12_hill 5 wsX12_hill RX12 D cA ad (some .int))  (K20 : J_X12_hill_20 p l e s m args below meth c D cA ad σ0 τ0 a1 a2 n) : J_X12_hill_20 p l e s m args below meth c D cA ad σ0 τ0 a1 a2 (n + 1) := by
  obtain ⟨hx, hb, hml, hown, hts, hK, hk, hr, hI, hN⟩ := C
  intro σ τ H locs x3 x4 ls hR hF hFL hP hS hc0 hc1 hl hm
  obtain rfl := FrL.nil hFL
  refine lv_iload hx hb dX12_hill_20 (lv_at hl 4 rfl) ?_
  refine lv_aload_n hx hb dX12_hill_22 rfl (lv_at hl 0 rfl) ?_
  refine fg_12_6 (k := 387) hx hb hts in_X12_hill_12 hown hK hP (by decide) (by decide) (hts _ lk_X12_hill_33) dX12_hill_23 ?_
  refine r_iconst hx hb dX12_hill_26 (by decide) (fun z1 ez1 => ?_)
  refine ad_ms (k := 389) (j := 1) hx hb hK hP (by decide) (by decide) (by omega) (by omega) dX12_hill_27 ?_
  have hr2 := ra_ms_0 hR (k := 389) (j := 1) (by decide) (by decide) (by decide) (by decide)
  refine r_icmp_ge (tgt := 63) hx hb dX12_hill_28 (by decide) (fun c3 => ?_) (fun c3 => ?_)
  · refine lv_iload_n hx hb dX12_hill_63 rfl (lv_at hl 2 rfl) ?_
    by_cases c4 : a2.toInt = 0
    · refine lv_tableIn (off := 36) (tgt := 100) hx hb dX12_hill_64 (by omega) (by omega) (by rw [c4]; rfl) (by decide) ?_
      refine lv_aload_n hx hb dX12_hill_100 rfl (lv_at hl 0 rfl) ?_
      refine fg_12_6 (k := 387) hx hb hts in_X12_hill_12 hown hK hP (by decide) (by decide) (hts _ lk_X12_hill_33) dX12_hill_101 ?_
      refine r_bipush hx hb dX12_hill_104 (by decide) (fun z5 ez5 => ?_)
      refine lv_iload_n hx hb dX12_hill_106 rfl (lv_at hl 1 rfl) ?_
      refine r_iadd hx hb dX12_hill_107 (by omega) (fun z6 ez6 => ?_)
      obtain ⟨j7, ej7⟩ : ∃ j : Nat, z6.toInt = (j : Int) := ⟨_, ti_nat (by omega)⟩
      refine ad_ms (k := 389) (j := j7) hx hb hK hP (by decide) (by decide) ej7 (by omega) dX12_hill_108 ?_
      exact r_iret hx hb hr hK hP hS hk dX12_hill_109 (show P_X12_hill σ0 τ0 a1 a2 (σ 389 j7) σ τ0 from ⟨hR, hF, hFL⟩)
    by_cases c8 : a2.toInt = 1
    · refine lv_tableIn (off := 46) (tgt := 110) hx hb dX12_hill_64 (by omega) (by omega) (by rw [c8]; rfl) (by decide) ?_
      refine lv_aload_n hx hb dX12_hill_110 rfl (lv_at hl 0 rfl) ?_
      refine fg_12_6 (k := 387) hx hb hts in_X12_hill_12 hown hK hP (by decide) (by decide) (hts _ lk_X12_hill_33) dX12_hill_111 ?_
      refine r_bipush hx hb dX12_hill_114 (by decide) (fun z9 ez9 => ?_)
      refine lv_iload_n hx hb dX12_hill_116 rfl (lv_at hl 1 rfl) ?_
      refine r_iadd hx hb dX12_hill_117 (by omega) (fun z10 ez10 => ?_)
      obtain ⟨j11, ej11⟩ : ∃ j : Nat, z10.toInt = (j : Int) := ⟨_, ti_nat (by omega)⟩
      refine ad_ms (k := 389) (j := j11) hx hb hK hP (by decide) (by decide) ej11 (by omega) dX12_hill_118 ?_
      exact r_iret hx hb hr hK hP hS hk dX12_hill_119 (show P_X12_hill σ0 τ0 a1 a2 (σ 389 j11) σ τ0 from ⟨hR, hF, hFL⟩)
    by_cases c12 : a2.toInt = 2
    · refine lv_tableIn (off := 56) (tgt := 120) hx hb dX12_hill_64 (by omega) (by omega) (by rw [c12]; rfl) (by decide) ?_
      refine lv_aload_n hx hb dX12_hill_120 rfl (lv_at hl 0 rfl) ?_
      refine fg_12_6 (k := 387) hx hb hts in_X12_hill_12 hown hK hP (by decide) (by decide) (hts _ lk_X12_hill_33) dX12_hill_121 ?_
      refine r_bipush hx hb dX12_hill_124 (by decide) (fun z13 ez13 => ?_)
      refine lv_iload_n hx hb dX12_hill_126 rfl (lv_at hl 1 rfl) ?_
      refine r_iadd hx hb dX12_hill_127 (by omega) (fun z14 ez14 => ?_)
      obtain ⟨j15, ej15⟩ : ∃ j : Nat, z14.toInt = (j : Int) := ⟨_, ti_nat (by omega)⟩
      refine ad_ms (k := 389) (j := j15) hx hb hK hP (by decide) (by decide) ej15 (by omega) dX12_hill_128 ?_
      exact r_iret hx hb hr hK hP hS hk dX12_hill_129 (show P_X12_hill σ0 τ0 a1 a2 (σ 389 j15) σ τ0 from ⟨hR, hF, hFL⟩)
    by_cases c16 : a2.toInt = 3
    · refine lv_tableIn (off := 66) (tgt := 130) hx hb dX12_hill_64 (by omega) (by omega) (by rw [c16]; rfl) (by decide) ?_
      refine lv_aload_n hx hb dX12_hill_130 rfl (lv_at hl 0 rfl) ?_
      refine lv_aload_n hx hb dX12_hill_131 rfl (lv_at hl 0 rfl) ?_
      refine fg_12_6 (k := 387) hx hb hts in_X12_hill_12 hown hK hP (by decide) (by decide) (hts _ lk_X12_hill_33) dX12_hill_132 ?_
      refine r_bipush hx hb dX12_hill_135 (by decide) (fun z17 ez17 => ?_)
      refine lv_iload_n hx hb dX12_hill_137 rfl (lv_at hl 1 rfl) ?_
      refine r_iadd hx hb dX12_hill_138 (by omega) (fun z18 ez18 => ?_)
      obtain ⟨j19, ej19⟩ : ∃ j : Nat, z18.toInt = (j : Int) := ⟨_, ti_nat (by omega)⟩
      refine ad_ms (k := 389) (j := j19) hx hb hK hP (by decide) (by decide) ej19 (by omega) dX12_hill_139 ?_
      refine r_cVi (k := 387) (As := [.int (σ 389 j19)]) (rest := []) ⟨hx, hb, hml, hown, hts⟩ hK hP hN hS (c_X12_valleyOf l D cA ad hI σ τ0 hR (σ 389 j19)) (cwV 1 hts gX12_hill_X12_valleyOf rfl rfl rfl (by decide +kernel) ⟨by decide, by decide⟩) (rv_M hK hP (by decide) (by decide)) rfl hl.1 rfl (Nat.le_of_ble_eq_true rfl) dX12_hill_140 (Nat.zero_le _) (Nat.zero_le _) (fun r20 u20 H20 locs20 hp20 hP hS => ?_)
      obtain ⟨σ20, τ20⟩ := u20
      obtain ⟨hR, f20, fL20, hq20⟩ : P_X12_valleyOf σ τ0 (σ 389 j19) r20 σ20 τ20 := hp20
      have hP : va_P D vwCl (gw cA ad σ20 τ20) H20 := hP
      obtain rfl := FrL.nil fL20
      obtain rfl := Fr.nil f20
      exact r_iret hx hb hr hK hP hS hk dX12_hill_143 (show P_X12_hill σ0 τ0 a1 a2 r20 σ τ0 from ⟨hR, hF, hFL⟩)
    by_cases c21 : a2.toInt = 4
    · refine lv_tableIn (off := 80) (tgt := 144) hx hb dX12_hill_64 (by omega) (by omega) (by rw [c21]; rfl) (by decide) ?_
      refine lv_iload_n hx hb dX12_hill_144 rfl (lv_at hl 3 rfl) ?_
      exact r_iret hx hb hr hK hP hS hk dX12_hill_145 (show P_X12_hill σ0 τ0 a1 a2 x3 σ τ0 from ⟨hR, hF, hFL⟩)
    refine lv_tableOut (tgt := 146) hx hb dX12_hill_64 (by omega) (by decide) ?_
    refine r_iconst hx hb dX12_hill_146 (by decide) (fun z22 ez22 => ?_)
    exact r_iret hx hb hr hK hP hS hk dX12_hill_147 (show P_X12_hill σ0 τ0 a1 a2 z22 σ τ0 from ⟨hR, hF, hFL⟩)
  · refine lv_iload_n hx hb dX12_hill_31 rfl (lv_at hl 3 rfl) ?_
    refine lv_aload_n hx hb dX12_hill_32 rfl (lv_at hl 0 rfl) ?_
    refine fg_12_6 (k := 387) hx hb hts in_X12_hill_12 hown hK hP (by decide) (by decide) (hts _ lk_X12_hill_33) dX12_hill_33 ?_
    refine r_sipush hx hb dX12_hill_36 (by decide) (fun z23 ez23 => ?_)
    refine lv_iload hx hb dX12_hill_39 (lv_at hl 4 rfl) ?_
    refine r_iadd hx hb dX12_hill_41 (by omega) (fun z24 ez24 => ?_)
    obtain ⟨j25, ej25⟩ : ∃ j : Nat, z24.toInt = (j : Int) := ⟨_, ti_nat (by omega)⟩
    refine ad_ms (k := 389) (j := j25) hx hb hK hP (by decide) (by decide) ej25 (by omega) dX12_hill_42 ?_
    have hr26 := ra_ms_6 hR (k := 389) (j := j25) (by decide) (by decide) (by omega) (by omega)
    refine lv_iload_n hx hb dX12_hill_43 rfl (lv_at hl 1 rfl) ?_
    refine r_icmp_ne (tgt := 54) hx hb dX12_hill_44 (by decide) (fun c27 => ?_) (fun c27 => ?_)
    · refine r_iconst hx hb dX12_hill_54 (by decide) (fun z28 ez28 => ?_)
      refine r_iorU hx hb dX12_hill_55 (fun z29 => ?_)
      refine lv_istore_n (lv' := [(3, .int z29), (0, .ref (ad 387)), (1, .int a1), (2, .int a2), (4, .int x4)]) hx hb dX12_hill_56 rfl hl (by decide) rfl (fun ls hl => ?_)
      refine r_iinc (k := 4) (lv1 := fun z30 => [(4, .int z30), (3, .int z29), (0, .ref (ad 387)), (1, .int a1), (2, .int a2)]) hx hb dX12_hill_57 hl rfl (by decide) (fun _ => rfl) (by decide) (by omega) (fun z30 ls ez30 hl => ?_)
      refine lv_goto (tgt := 20) hx hb dX12_hill_60 (by decide) ?_
      exact K20 σ τ0 H locs z29 z30 ls hR hF hFL hP hS (by omega) (by omega) (lv_sub hl [2, 3, 4, 1, 0] rfl) (by omega)
    · refine r_iconst hx hb dX12_hill_47 (by decide) (fun z31 ez31 => ?_)
      refine lv_iload hx hb dX12_hill_48 (lv_at hl 4 rfl) ?_
      refine r_ishlU hx hb dX12_hill_50 (fun z32 => ?_)
      refine lv_goto (tgt := 55) hx hb dX12_hill_51 (by decide) ?_
      refine r_iorU hx hb dX12_hill_55 (fun z33 => ?_)
      refine lv_istore_n (lv' := [(3, .int z33), (0, .ref (ad 387)), (1, .int a1), (2, .int a2), (4, .int x4)]) hx hb dX12_hill_56 rfl hl (by decide) rfl (fun ls hl => ?_)
      refine r_iinc (k := 4) (lv1 := fun z34 => [(4, .int z34), (3, .int z33), (0, .ref (ad 387)), (1, .int a1), (2, .int a2)]) hx hb dX12_hill_57 hl rfl (by decide) (fun _ => rfl) (by decide) (by omega) (fun z34 ls ez34 hl => ?_)
      refine lv_goto (tgt := 20) hx hb dX12_hill_60 (by decide) ?_
      exact K20 σ τ0 H locs z33 z34 ls hR hF hFL hP hS (by omega) (by omega) (lv_sub hl [2, 3, 4, 1, 0] rfl) (by omega)
theorem A_X12_hill (p : Program) (l : Launch) (e : Env) (s : State) (m : MethodId) (args : Array Value) (below : List Frame) (meth : Method) (c : Code) (D : va_G) (cA : Nat → ClassId) (ad : Nat → Nat) (σ0 : Nat → Nat → Int32) (τ0 : Nat → Nat → Int64) (a1 : Int32) (a2 : Int32) (C : Cy p s m args meth c cX12_hill 5 wsX12_hill RX12 D cA ad (some .int))  : ∀ n : Nat, J_X12_hill_20 p l e s m args below meth c D cA ad σ0 τ0 a1 a2 n := by
  intro n
  induction n with
  | zero =>
    exact (by intro σ τ H locs x3 x4 ls hR hF hFL hP hS hc0 hc1 hl hm; exfalso; omega)
  | succ n ih =>
    exact B_X12_hill_20 p l e s m args below meth c D cA ad σ0 τ0 a1 a2 n C  ih
set_option maxHeartbeats 4000000 in
theorem c_X12_hill (l : Launch) (D : va_G) (cA : Nat → ClassId) (ad : Nat → Nat) (hI : Inj ad) (σ0 : Nat → Nat → Int32) (τ0 : Nat → Nat → Int64) (hR : Rg σ0) (a1 : Int32) (a2 : Int32)  : Met l yX12_hill wsX12_hill ({ frames := 2, cells := 0, slots := 0, locals := 43 } : Room) (WQc D cA ad [.ref (ad 387), .int a1, .int a2] σ0 τ0) (va_Qi (fun (r : Int32) (u : SS) => P_X12_hill σ0 τ0 a1 a2 r u.1 u.2) (WB D cA ad) (AA ad)) 0 0 (AA ad) := by
  refine Met.ofW (cc := cX12_hill) (maxL := 5) (ret := (some .int)) (by decide) rfl ?_
  intro p e s m args below meth c s₁ B hml hv
  obtain ⟨rfl, hP, hK, hN⟩ := hv
  have C : Cy p s m _ meth c cX12_hill 5 wsX12_hill RX12 D cA ad (some .int) := ⟨B.exec, B.bytes, hml, findClass_of_methodNamed B.named, atoms_spec (ws := wsX12_hill) B.pre, hK, B.notSynchronized, B.returns, hI, hN⟩
  have hl := lv_entry ([.ref (ad 387), .int a1, .int a2]) (n := 5) (Nat.le_of_ble_eq_true rfl)
  rw [lg_entry_eq]
  generalize (lg_sl ([.ref (ad 387), .int a1, .int a2]) ++ List.replicate (5 - (lg_sl ([.ref (ad 387), .int a1, .int a2])).length) Slot.unset).toArray = ls at hl ⊢
  have hl : lv_has ls 5 [(0, .ref (ad 387)), (1, .int a1), (2, .int a2)] := hl
  have hS : va_S (AA ad) s.heap s.heap [] := va_S.rf
  have hF : Fr L_X12_hill σ0 σ0 := Fr.rf
  have hFL : FrL LL_X12_hill τ0 τ0 := FrL.rf
  have hA := A_X12_hill p l e s m _ below meth c D cA ad σ0 τ0 a1 a2 C  42
  have K20 := hA
  clear hA
  obtain ⟨hx, hb, _, hown, hts, _, hk, hr, _, _⟩ := C
  refine lv_aload_n hx hb dX12_hill_0 rfl (lv_at hl 0 rfl) ?_
  refine r_iconst hx hb dX12_hill_1 (by decide) (fun z1 ez1 => ?_)
  refine fp_12_0 (k := 387) hx hb hts in_X12_hill_12 hown hK hP (by decide) (by decide) (hts _ lk_X12_hill_1) hI hR hS (by omega) dX12_hill_2 (fun σ2 H2 locs2 u2 v2 hR hP hS => ?_)
  have hF := hF.puts u2 0 rfl (by decide) (by decide) (by decide) (by decide)
  refine lv_aload_n hx hb dX12_hill_5 rfl (lv_at hl 0 rfl) ?_
  refine lv_iload_n hx hb dX12_hill_6 rfl (lv_at hl 1 rfl) ?_
  refine r_cVi (k := 387) (As := [.int a1]) (rest := []) ⟨hx, hb, hml, hown, hts⟩ hK hP hN hS (c_X12_isHill l D cA ad hI σ2 τ0 hR a1) (cwV 1 hts gX12_hill_X12_isHill rfl rfl rfl (by decide +kernel) ⟨by decide, by decide⟩) (rv_M hK hP (by decide) (by decide)) rfl hl.1 rfl (Nat.le_of_ble_eq_true rfl) dX12_hill_7 (Nat.zero_le _) (Nat.zero_le _) (fun r3 u3 H3 locs3 hp3 hP hS => ?_)
  obtain ⟨σ3, τ3⟩ := u3
  obtain ⟨hR, f3, fL3, hq3, hp3_0⟩ : P_X12_isHill σ2 τ0 a1 r3 σ3 τ3 := hp3
  have hP : va_P D vwCl (gw cA ad σ3 τ3) H3 := hP
  obtain rfl := FrL.nil fL3
  obtain rfl := Fr.nil f3
  refine r_if_ne (tgt := 15) hx hb dX12_hill_10 (by decide) (fun c4 => ?_) (fun c4 => ?_)
  · replace hp3_0 := hp3_0.resolve_left (by omega)
    refine r_iconst hx hb dX12_hill_15 (by decide) (fun z5 ez5 => ?_)
    refine lv_istore_n (lv' := [(3, .int z5), (0, .ref (ad 387)), (1, .int a1), (2, .int a2)]) hx hb dX12_hill_16 rfl hl (by decide) rfl (fun ls hl => ?_)
    refine r_iconst hx hb dX12_hill_17 (by decide) (fun z6 ez6 => ?_)
    refine lv_istore (lv' := [(4, .int z6), (3, .int z5), (0, .ref (ad 387)), (1, .int a1), (2, .int a2)]) hx hb dX12_hill_18 hl (by decide) rfl (fun ls hl => ?_)
    exact K20 σ2 τ0 H3 locs3 z5 z6 ls hR hF hFL hP hS (by omega) (by omega) (lv_sub hl [2, 3, 4, 1, 0] rfl) (by omega)
  · clear hp3_0
    refine r_iconst hx hb dX12_hill_13 (by decide) (fun z7 ez7 => ?_)
    exact r_iret hx hb hr hK hP hS hk dX12_hill_14 (show P_X12_hill σ0 τ0 a1 a2 z7 σ2 τ0 from ⟨hR, hF, hFL⟩)
theorem in_X12_isMan_12 : ∀ w ∈ u_ws RX12 TX12 47, w ∈ wsX12_isMan := by decide +kernel
theorem lk_X12_isMan_33 : Cond.fieldLink RX12 33 "CuckooSharesModel" "s" "[I" ∈ wsX12_isMan := by decide +kernel
abbrev L_X12_isMan : List Rc := []
abbrev LL_X12_isMan : List Rc := []
def P_X12_isMan (σ0 : Nat → Nat → Int32) (τ0 : Nat → Nat → Int64) (a1 : Int32) (r : Int32) (σ : Nat → Nat → Int32) (τ : Nat → Nat → Int64) : Prop := Rg σ ∧ Fr L_X12_isMan σ0 σ ∧ FrL LL_X12_isMan τ0 τ ∧ (0 ≤ r.toInt ∧ r.toInt ≤ 1) ∧ (r.toInt = 0 ∨ (r.toInt = 1 ∧ 0 ≤ a1.toInt ∧ a1.toInt ≤ 7))
set_option maxHeartbeats 4000000 in
theorem c_X12_isMan (l : Launch) (D : va_G) (cA : Nat → ClassId) (ad : Nat → Nat) (hI : Inj ad) (σ0 : Nat → Nat → Int32) (τ0 : Nat → Nat → Int64) (hR : Rg σ0) (a1 : Int32)  : Met l yX12_isMan wsX12_isMan ({ frames := 1, cells := 0, slots := 0, locals := 22 } : Room) (WQc D cA ad [.ref (ad 387), .int a1] σ0 τ0) (va_Qi (fun (r : Int32) (u : SS) => P_X12_isMan σ0 τ0 a1 r u.1 u.2) (WB D cA ad) (AA ad)) 0 0 (AA ad) := by
  refine Met.ofW (cc := cX12_isMan) (maxL := 2) (ret := (some .boolean)) (by decide) rfl ?_
  intro p e s m args below meth c s₁ B hml hv
  obtain ⟨rfl, hP, hK, hN⟩ := hv
  have C : Cy p s m _ meth c cX12_isMan 2 wsX12_isMan RX12 D cA ad (some .boolean) := ⟨B.exec, B.bytes, hml, findClass_of_methodNamed B.named, atoms_spec (ws := wsX12_isMan) B.pre, hK, B.notSynchronized, B.returns, hI, hN⟩
  have hl := lv_entry ([.ref (ad 387), .int a1]) (n := 2) (Nat.le_of_ble_eq_true rfl)
  rw [lg_entry_eq]
  generalize (lg_sl ([.ref (ad 387), .int a1]) ++ List.replicate (2 - (lg_sl ([.ref (ad 387), .int a1])).length) Slot.unset).toArray = ls at hl ⊢
  have hl : lv_has ls 2 [(0, .ref (ad 387)), (1, .int a1)] := hl
  have hS : va_S (AA ad) s.heap s.heap [] := va_S.rf
  have hF : Fr L_X12_isMan σ0 σ0 := Fr.rf
  have hFL : FrL LL_X12_isMan τ0 τ0 := FrL.rf
  obtain ⟨hx, hb, _, hown, hts, _, hk, hr, _, _⟩ := C
  refine lv_iload_n hx hb dX12_isMan_0 rfl (lv_at hl 1 rfl) ?_
  refine r_iconst hx hb dX12_isMan_1 (by decide) (fun z1 ez1 => ?_)
  refine lv_aload_n hx hb dX12_isMan_2 rfl (lv_at hl 0 rfl) ?_
  refine fg_12_6 (k := 387) hx hb hts in_X12_isMan_12 hown hK hP (by decide) (by decide) (hts _ lk_X12_isMan_33) dX12_isMan_3 ?_
  refine r_iconst hx hb dX12_isMan_6 (by decide) (fun z2 ez2 => ?_)
  refine ad_ms (k := 389) (j := 1) hx hb hK hP (by decide) (by decide) (by omega) (by omega) dX12_isMan_7 ?_
  have hr3 := ra_ms_0 hR (k := 389) (j := 1) (by decide) (by decide) (by decide) (by decide)
  refine r_iconst hx hb dX12_isMan_8 (by decide) (fun z4 ez4 => ?_)
  refine r_isub hx hb dX12_isMan_9 (by omega) (fun z5 ez5 => ?_)
  refine r_cSi (As := [.int a1, .int z1, .int z5]) (rest := []) ⟨hx, hb, hml, hown, hts⟩ hK hP hN hS (c_X12_isIn l D cA ad hI σ0 τ0 hR a1 z1 z5) (va_cwS 3 hts gX12_isMan_X12_isIn rfl rfl rfl (by decide +kernel) ⟨by decide, by decide⟩) rfl hl.1 rfl (Nat.le_of_ble_eq_true rfl) dX12_isMan_10 (Nat.zero_le _) (Nat.zero_le _) (fun r6 u6 H6 locs6 hp6 hP hS => ?_)
  obtain ⟨σ6, τ6⟩ := u6
  obtain ⟨hR, f6, fL6, hq6, hp6_0, hp6_1⟩ : P_X12_isIn σ0 τ0 a1 z1 z5 r6 σ6 τ6 := hp6
  have hP : va_P D vwCl (gw cA ad σ6 τ6) H6 := hP
  obtain rfl := FrL.nil fL6
  obtain rfl := Fr.nil f6
  exact r_zret hx hb hr hK hP hS hk (by omega) dX12_isMan_13 (show P_X12_isMan σ0 τ0 a1 r6 σ0 τ0 from ⟨hR, hF, hFL, by omega, by omega⟩)
theorem in_X12_throwsIf_12 : ∀ w ∈ u_ws RX12 TX12 47, w ∈ wsX12_throwsIf := by decide +kernel
theorem lk_X12_throwsIf_1 : Cond.fieldLink RX12 1 "CuckooSharesModel" "thrown" "I" ∈ wsX12_throwsIf := by decide +kernel
abbrev L_X12_throwsIf : List Rc := [(387, 387, 0, 0)]
abbrev LL_X12_throwsIf : List Rc := []
def P_X12_throwsIf (σ0 : Nat → Nat → Int32) (τ0 : Nat → Nat → Int64) (a1 : Int32) (r : Int32) (σ : Nat → Nat → Int32) (τ : Nat → Nat → Int64) : Prop := Rg σ ∧ Fr L_X12_throwsIf σ0 σ ∧ FrL LL_X12_throwsIf τ0 τ ∧ (0 ≤ r.toInt ∧ r.toInt ≤ 1) ∧ (r.toInt = a1.toInt)
set_option maxHeartbeats 4000000 in
theorem c_X12_throwsIf (l : Launch) (D : va_G) (cA : Nat → ClassId) (ad : Nat → Nat) (hI : Inj ad) (σ0 : Nat → Nat → Int32) (τ0 : Nat → Nat → Int64) (hR : Rg σ0) (a1 : Int32) (ha1 : 0 ≤ a1.toInt ∧ a1.toInt ≤ 1) : Met l yX12_throwsIf wsX12_throwsIf ({ frames := 0, cells := 0, slots := 0, locals := 0 } : Room) (WQc D cA ad [.ref (ad 387), .int a1] σ0 τ0) (va_Qi (fun (r : Int32) (u : SS) => P_X12_throwsIf σ0 τ0 a1 r u.1 u.2) (WB D cA ad) (AA ad)) 0 0 (AA ad) := by
  refine Met.ofW (cc := cX12_throwsIf) (maxL := 2) (ret := (some .boolean)) (by decide) rfl ?_
  intro p e s m args below meth c s₁ B hml hv
  obtain ⟨rfl, hP, hK, hN⟩ := hv
  have C : Cy p s m _ meth c cX12_throwsIf 2 wsX12_throwsIf RX12 D cA ad (some .boolean) := ⟨B.exec, B.bytes, hml, findClass_of_methodNamed B.named, atoms_spec (ws := wsX12_throwsIf) B.pre, hK, B.notSynchronized, B.returns, hI, hN⟩
  have hl := lv_entry ([.ref (ad 387), .int a1]) (n := 2) (Nat.le_of_ble_eq_true rfl)
  rw [lg_entry_eq]
  generalize (lg_sl ([.ref (ad 387), .int a1]) ++ List.replicate (2 - (lg_sl ([.ref (ad 387), .int a1])).length) Slot.unset).toArray = ls at hl ⊢
  have hl : lv_has ls 2 [(0, .ref (ad 387)), (1, .int a1)] := hl
  have hS : va_S (AA ad) s.heap s.heap [] := va_S.rf
  have hF : Fr L_X12_throwsIf σ0 σ0 := Fr.rf
  have hFL : FrL LL_X12_throwsIf τ0 τ0 := FrL.rf
  obtain ⟨hx, hb, _, hown, hts, _, hk, hr, _, _⟩ := C
  refine lv_aload_n hx hb dX12_throwsIf_0 rfl (lv_at hl 0 rfl) ?_
  refine lv_iload_n hx hb dX12_throwsIf_1 rfl (lv_at hl 1 rfl) ?_
  refine r_if_eq (tgt := 9) hx hb dX12_throwsIf_2 (by decide) (fun c1 => ?_) (fun c1 => ?_)
  · refine r_iconst hx hb dX12_throwsIf_9 (by decide) (fun z2 ez2 => ?_)
    refine fp_12_0 (k := 387) hx hb hts in_X12_throwsIf_12 hown hK hP (by decide) (by decide) (hts _ lk_X12_throwsIf_1) hI hR hS (by omega) dX12_throwsIf_10 (fun σ3 H3 locs3 u3 v3 hR hP hS => ?_)
    have hF := hF.puts u3 0 rfl (by decide) (by decide) (by decide) (by decide)
    refine lv_iload_n hx hb dX12_throwsIf_13 rfl (lv_at hl 1 rfl) ?_
    exact r_zret hx hb hr hK hP hS hk (by omega) dX12_throwsIf_14 (show P_X12_throwsIf σ0 τ0 a1 a1 σ3 τ0 from ⟨hR, hF, hFL, by omega, by omega⟩)
  · refine r_iconst hx hb dX12_throwsIf_5 (by decide) (fun z4 ez4 => ?_)
    refine lv_goto (tgt := 10) hx hb dX12_throwsIf_6 (by decide) ?_
    refine fp_12_0 (k := 387) hx hb hts in_X12_throwsIf_12 hown hK hP (by decide) (by decide) (hts _ lk_X12_throwsIf_1) hI hR hS (by omega) dX12_throwsIf_10 (fun σ5 H5 locs5 u5 v5 hR hP hS => ?_)
    have hF := hF.puts u5 0 rfl (by decide) (by decide) (by decide) (by decide)
    refine lv_iload_n hx hb dX12_throwsIf_13 rfl (lv_at hl 1 rfl) ?_
    exact r_zret hx hb hr hK hP hS hk (by omega) dX12_throwsIf_14 (show P_X12_throwsIf σ0 τ0 a1 a1 σ5 τ0 from ⟨hR, hF, hFL, by omega, by omega⟩)
theorem in_X12_man_12 : ∀ w ∈ u_ws RX12 TX12 47, w ∈ wsX12_man := by decide +kernel
theorem lk_X12_man_33 : Cond.fieldLink RX12 33 "CuckooSharesModel" "s" "[I" ∈ wsX12_man := by decide +kernel
abbrev L_X12_man : List Rc := [(387, 387, 0, 0)]
abbrev LL_X12_man : List Rc := []
def P_X12_man (σ0 : Nat → Nat → Int32) (τ0 : Nat → Nat → Int64) (a1 : Int32) (a2 : Int32) (r : Int32) (σ : Nat → Nat → Int32) (τ : Nat → Nat → Int64) : Prop := Rg σ ∧ Fr L_X12_man σ0 σ ∧ FrL LL_X12_man τ0 τ
set_option maxHeartbeats 4000000 in
theorem c_X12_man (l : Launch) (D : va_G) (cA : Nat → ClassId) (ad : Nat → Nat) (hI : Inj ad) (σ0 : Nat → Nat → Int32) (τ0 : Nat → Nat → Int64) (hR : Rg σ0) (a1 : Int32) (a2 : Int32)  : Met l yX12_man wsX12_man ({ frames := 2, cells := 0, slots := 0, locals := 43 } : Room) (WQc D cA ad [.ref (ad 387), .int a1, .int a2] σ0 τ0) (va_Qi (fun (r : Int32) (u : SS) => P_X12_man σ0 τ0 a1 a2 r u.1 u.2) (WB D cA ad) (AA ad)) 0 0 (AA ad) := by
  refine Met.ofW (cc := cX12_man) (maxL := 3) (ret := (some .int)) (by decide) rfl ?_
  intro p e s m args below meth c s₁ B hml hv
  obtain ⟨rfl, hP, hK, hN⟩ := hv
  have C : Cy p s m _ meth c cX12_man 3 wsX12_man RX12 D cA ad (some .int) := ⟨B.exec, B.bytes, hml, findClass_of_methodNamed B.named, atoms_spec (ws := wsX12_man) B.pre, hK, B.notSynchronized, B.returns, hI, hN⟩
  have hl := lv_entry ([.ref (ad 387), .int a1, .int a2]) (n := 3) (Nat.le_of_ble_eq_true rfl)
  rw [lg_entry_eq]
  generalize (lg_sl ([.ref (ad 387), .int a1, .int a2]) ++ List.replicate (3 - (lg_sl ([.ref (ad 387), .int a1, .int a2])).length) Slot.unset).toArray = ls at hl ⊢
  have hl : lv_has ls 3 [(0, .ref (ad 387)), (1, .int a1), (2, .int a2)] := hl
  have hS : va_S (AA ad) s.heap s.heap [] := va_S.rf
  have hF : Fr L_X12_man σ0 σ0 := Fr.rf
  have hFL : FrL LL_X12_man τ0 τ0 := FrL.rf
  obtain ⟨hx, hb, _, hown, hts, _, hk, hr, _, _⟩ := C
  refine lv_aload_n hx hb dX12_man_0 rfl (lv_at hl 0 rfl) ?_
  refine lv_aload_n hx hb dX12_man_1 rfl (lv_at hl 0 rfl) ?_
  refine lv_iload_n hx hb dX12_man_2 rfl (lv_at hl 1 rfl) ?_
  refine r_cVi (k := 387) (As := [.int a1]) (rest := [.ref (ad 387)]) ⟨hx, hb, hml, hown, hts⟩ hK hP hN hS (c_X12_isMan l D cA ad hI σ0 τ0 hR a1) (cwV 1 hts gX12_man_X12_isMan rfl rfl rfl (by decide +kernel) ⟨by decide, by decide⟩) (rv_M hK hP (by decide) (by decide)) rfl hl.1 rfl (Nat.le_of_ble_eq_true rfl) dX12_man_3 (Nat.zero_le _) (Nat.zero_le _) (fun r1 u1 H1 locs1 hp1 hP hS => ?_)
  obtain ⟨σ1, τ1⟩ := u1
  obtain ⟨hR, f1, fL1, hq1, hp1_0⟩ : P_X12_isMan σ0 τ0 a1 r1 σ1 τ1 := hp1
  have hP : va_P D vwCl (gw cA ad σ1 τ1) H1 := hP
  obtain rfl := FrL.nil fL1
  obtain rfl := Fr.nil f1
  refine r_if_eq (tgt := 19) hx hb dX12_man_6 (by decide) (fun c2 => ?_) (fun c2 => ?_)
  · clear hp1_0
    refine r_iconst hx hb dX12_man_19 (by decide) (fun z3 ez3 => ?_)
    refine lv_goto (tgt := 24) hx hb dX12_man_20 (by decide) ?_
    refine r_cVi (k := 387) (As := [.int z3]) (rest := []) ⟨hx, hb, hml, hown, hts⟩ hK hP hN hS (c_X12_throwsIf l D cA ad hI σ0 τ0 hR z3 (by omega)) (cwV 1 hts gX12_man_X12_throwsIf rfl rfl rfl (by decide +kernel) ⟨by decide, by decide⟩) (rv_M hK hP (by decide) (by decide)) rfl hl.1 rfl (Nat.le_of_ble_eq_true rfl) dX12_man_24 (Nat.zero_le _) (Nat.zero_le _) (fun r4 u4 H4 locs4 hp4 hP hS => ?_)
    obtain ⟨σ4, τ4⟩ := u4
    obtain ⟨hR, f4, fL4, hq4, hp4_0⟩ : P_X12_throwsIf σ0 τ0 z3 r4 σ4 τ4 := hp4
    have hP : va_P D vwCl (gw cA ad σ4 τ4) H4 := hP
    obtain rfl := FrL.nil fL4
    have hF := hF.step f4 (by decide)
    refine r_if_eq (tgt := 32) hx hb dX12_man_27 (by decide) (fun c5 => ?_) (fun c5 => ?_)
    · exfalso; omega
    · refine r_iconst hx hb dX12_man_30 (by decide) (fun z6 ez6 => ?_)
      exact r_iret hx hb hr hK hP hS hk dX12_man_31 (show P_X12_man σ0 τ0 a1 a2 z6 σ4 τ0 from ⟨hR, hF, hFL⟩)
  · replace hp1_0 := hp1_0.resolve_left (by omega)
    refine lv_iload_n hx hb dX12_man_9 rfl (lv_at hl 2 rfl) ?_
    refine r_iconst hx hb dX12_man_10 (by decide) (fun z7 ez7 => ?_)
    refine r_bipush hx hb dX12_man_11 (by decide) (fun z8 ez8 => ?_)
    refine r_cSi (As := [.int a2, .int z7, .int z8]) (rest := [.ref (ad 387)]) ⟨hx, hb, hml, hown, hts⟩ hK hP hN hS (c_X12_isIn l D cA ad hI σ0 τ0 hR a2 z7 z8) (va_cwS 3 hts gX12_man_X12_isIn rfl rfl rfl (by decide +kernel) ⟨by decide, by decide⟩) rfl hl.1 rfl (Nat.le_of_ble_eq_true rfl) dX12_man_13 (Nat.zero_le _) (Nat.zero_le _) (fun r9 u9 H9 locs9 hp9 hP hS => ?_)
    obtain ⟨σ9, τ9⟩ := u9
    obtain ⟨hR, f9, fL9, hq9, hp9_0, hp9_1⟩ : P_X12_isIn σ0 τ0 a2 z7 z8 r9 σ9 τ9 := hp9
    have hP : va_P D vwCl (gw cA ad σ9 τ9) H9 := hP
    obtain rfl := FrL.nil fL9
    obtain rfl := Fr.nil f9
    refine r_if_ne (tgt := 23) hx hb dX12_man_16 (by decide) (fun c10 => ?_) (fun c10 => ?_)
    · replace hp9_0 := hp9_0.resolve_left (by omega)
      refine r_iconst hx hb dX12_man_23 (by decide) (fun z11 ez11 => ?_)
      refine r_cVi (k := 387) (As := [.int z11]) (rest := []) ⟨hx, hb, hml, hown, hts⟩ hK hP hN hS (c_X12_throwsIf l D cA ad hI σ0 τ0 hR z11 (by omega)) (cwV 1 hts gX12_man_X12_throwsIf rfl rfl rfl (by decide +kernel) ⟨by decide, by decide⟩) (rv_M hK hP (by decide) (by decide)) rfl hl.1 rfl (Nat.le_of_ble_eq_true rfl) dX12_man_24 (Nat.zero_le _) (Nat.zero_le _) (fun r12 u12 H12 locs12 hp12 hP hS => ?_)
      obtain ⟨σ12, τ12⟩ := u12
      obtain ⟨hR, f12, fL12, hq12, hp12_0⟩ : P_X12_throwsIf σ0 τ0 z11 r12 σ12 τ12 := hp12
      have hP : va_P D vwCl (gw cA ad σ12 τ12) H12 := hP
      obtain rfl := FrL.nil fL12
      have hF := hF.step f12 (by decide)
      refine r_if_eq (tgt := 32) hx hb dX12_man_27 (by decide) (fun c13 => ?_) (fun c13 => ?_)
      · refine lv_iload_n hx hb dX12_man_32 rfl (lv_at hl 2 rfl) ?_
        by_cases c14 : a2.toInt = 0
        · refine lv_tableIn (off := 43) (tgt := 76) hx hb dX12_man_33 (by omega) (by omega) (by rw [c14]; rfl) (by decide) ?_
          refine lv_aload_n hx hb dX12_man_76 rfl (lv_at hl 0 rfl) ?_
          refine fg_12_6 (k := 387) hx hb hts in_X12_man_12 hown hK hP (by decide) (by decide) (hts _ lk_X12_man_33) dX12_man_77 ?_
          refine r_sipush hx hb dX12_man_80 (by decide) (fun z15 ez15 => ?_)
          refine lv_iload_n hx hb dX12_man_83 rfl (lv_at hl 1 rfl) ?_
          refine r_iadd hx hb dX12_man_84 (by omega) (fun z16 ez16 => ?_)
          obtain ⟨j17, ej17⟩ : ∃ j : Nat, z16.toInt = (j : Int) := ⟨_, ti_nat (by omega)⟩
          refine ad_ms (k := 389) (j := j17) hx hb hK hP (by decide) (by decide) ej17 (by omega) dX12_man_85 ?_
          have hr18 := ra_ms_6 hR (k := 389) (j := j17) (by decide) (by decide) (by omega) (by omega)
          exact r_iret hx hb hr hK hP hS hk dX12_man_86 (show P_X12_man σ0 τ0 a1 a2 (σ12 389 j17) σ12 τ0 from ⟨hR, hF, hFL⟩)
        by_cases c19 : a2.toInt = 1
        · refine lv_tableIn (off := 54) (tgt := 87) hx hb dX12_man_33 (by omega) (by omega) (by rw [c19]; rfl) (by decide) ?_
          refine lv_aload_n hx hb dX12_man_87 rfl (lv_at hl 0 rfl) ?_
          refine fg_12_6 (k := 387) hx hb hts in_X12_man_12 hown hK hP (by decide) (by decide) (hts _ lk_X12_man_33) dX12_man_88 ?_
          refine r_bipush hx hb dX12_man_91 (by decide) (fun z20 ez20 => ?_)
          refine lv_iload_n hx hb dX12_man_93 rfl (lv_at hl 1 rfl) ?_
          refine r_iadd hx hb dX12_man_94 (by omega) (fun z21 ez21 => ?_)
          obtain ⟨j22, ej22⟩ : ∃ j : Nat, z21.toInt = (j : Int) := ⟨_, ti_nat (by omega)⟩
          refine ad_ms (k := 389) (j := j22) hx hb hK hP (by decide) (by decide) ej22 (by omega) dX12_man_95 ?_
          exact r_iret hx hb hr hK hP hS hk dX12_man_96 (show P_X12_man σ0 τ0 a1 a2 (σ12 389 j22) σ12 τ0 from ⟨hR, hF, hFL⟩)
        by_cases c23 : a2.toInt = 2
        · refine lv_tableIn (off := 64) (tgt := 97) hx hb dX12_man_33 (by omega) (by omega) (by rw [c23]; rfl) (by decide) ?_
          refine lv_aload_n hx hb dX12_man_97 rfl (lv_at hl 0 rfl) ?_
          refine fg_12_6 (k := 387) hx hb hts in_X12_man_12 hown hK hP (by decide) (by decide) (hts _ lk_X12_man_33) dX12_man_98 ?_
          refine r_sipush hx hb dX12_man_101 (by decide) (fun z24 ez24 => ?_)
          refine lv_iload_n hx hb dX12_man_104 rfl (lv_at hl 1 rfl) ?_
          refine r_iadd hx hb dX12_man_105 (by omega) (fun z25 ez25 => ?_)
          obtain ⟨j26, ej26⟩ : ∃ j : Nat, z25.toInt = (j : Int) := ⟨_, ti_nat (by omega)⟩
          refine ad_ms (k := 389) (j := j26) hx hb hK hP (by decide) (by decide) ej26 (by omega) dX12_man_106 ?_
          exact r_iret hx hb hr hK hP hS hk dX12_man_107 (show P_X12_man σ0 τ0 a1 a2 (σ12 389 j26) σ12 τ0 from ⟨hR, hF, hFL⟩)
        by_cases c27 : a2.toInt = 3
        · refine lv_tableIn (off := 75) (tgt := 108) hx hb dX12_man_33 (by omega) (by omega) (by rw [c27]; rfl) (by decide) ?_
          refine lv_aload_n hx hb dX12_man_108 rfl (lv_at hl 0 rfl) ?_
          refine fg_12_6 (k := 387) hx hb hts in_X12_man_12 hown hK hP (by decide) (by decide) (hts _ lk_X12_man_33) dX12_man_109 ?_
          refine r_bipush hx hb dX12_man_112 (by decide) (fun z28 ez28 => ?_)
          refine lv_iload_n hx hb dX12_man_114 rfl (lv_at hl 1 rfl) ?_
          refine r_iadd hx hb dX12_man_115 (by omega) (fun z29 ez29 => ?_)
          obtain ⟨j30, ej30⟩ : ∃ j : Nat, z29.toInt = (j : Int) := ⟨_, ti_nat (by omega)⟩
          refine ad_ms (k := 389) (j := j30) hx hb hK hP (by decide) (by decide) ej30 (by omega) dX12_man_116 ?_
          exact r_iret hx hb hr hK hP hS hk dX12_man_117 (show P_X12_man σ0 τ0 a1 a2 (σ12 389 j30) σ12 τ0 from ⟨hR, hF, hFL⟩)
        by_cases c31 : a2.toInt = 4
        · refine lv_tableIn (off := 85) (tgt := 118) hx hb dX12_man_33 (by omega) (by omega) (by rw [c31]; rfl) (by decide) ?_
          refine lv_aload_n hx hb dX12_man_118 rfl (lv_at hl 0 rfl) ?_
          refine fg_12_6 (k := 387) hx hb hts in_X12_man_12 hown hK hP (by decide) (by decide) (hts _ lk_X12_man_33) dX12_man_119 ?_
          refine r_bipush hx hb dX12_man_122 (by decide) (fun z32 ez32 => ?_)
          refine lv_iload_n hx hb dX12_man_124 rfl (lv_at hl 1 rfl) ?_
          refine r_iadd hx hb dX12_man_125 (by omega) (fun z33 ez33 => ?_)
          obtain ⟨j34, ej34⟩ : ∃ j : Nat, z33.toInt = (j : Int) := ⟨_, ti_nat (by omega)⟩
          refine ad_ms (k := 389) (j := j34) hx hb hK hP (by decide) (by decide) ej34 (by omega) dX12_man_126 ?_
          have hr35 := ra_ms_3 hR (k := 389) (j := j34) (by decide) (by decide) (by omega) (by omega)
          refine r_iconst hx hb dX12_man_127 (by decide) (fun z36 ez36 => ?_)
          refine r_isub hx hb dX12_man_128 (by omega) (fun z37 ez37 => ?_)
          exact r_iret hx hb hr hK hP hS hk dX12_man_129 (show P_X12_man σ0 τ0 a1 a2 z37 σ12 τ0 from ⟨hR, hF, hFL⟩)
        by_cases c38 : a2.toInt = 5
        · refine lv_tableIn (off := 97) (tgt := 130) hx hb dX12_man_33 (by omega) (by omega) (by rw [c38]; rfl) (by decide) ?_
          refine lv_aload_n hx hb dX12_man_130 rfl (lv_at hl 0 rfl) ?_
          refine fg_12_6 (k := 387) hx hb hts in_X12_man_12 hown hK hP (by decide) (by decide) (hts _ lk_X12_man_33) dX12_man_131 ?_
          refine r_sipush hx hb dX12_man_134 (by decide) (fun z39 ez39 => ?_)
          refine lv_iload_n hx hb dX12_man_137 rfl (lv_at hl 1 rfl) ?_
          refine r_iadd hx hb dX12_man_138 (by omega) (fun z40 ez40 => ?_)
          obtain ⟨j41, ej41⟩ : ∃ j : Nat, z40.toInt = (j : Int) := ⟨_, ti_nat (by omega)⟩
          refine ad_ms (k := 389) (j := j41) hx hb hK hP (by decide) (by decide) ej41 (by omega) dX12_man_139 ?_
          have hr42 := ra_ms_7 hR (k := 389) (j := j41) (by decide) (by decide) (by omega) (by omega)
          refine r_iconst hx hb dX12_man_140 (by decide) (fun z43 ez43 => ?_)
          refine r_isub hx hb dX12_man_141 (by omega) (fun z44 ez44 => ?_)
          exact r_iret hx hb hr hK hP hS hk dX12_man_142 (show P_X12_man σ0 τ0 a1 a2 z44 σ12 τ0 from ⟨hR, hF, hFL⟩)
        by_cases c45 : a2.toInt = 6
        · refine lv_tableIn (off := 110) (tgt := 143) hx hb dX12_man_33 (by omega) (by omega) (by rw [c45]; rfl) (by decide) ?_
          refine lv_aload_n hx hb dX12_man_143 rfl (lv_at hl 0 rfl) ?_
          refine fg_12_6 (k := 387) hx hb hts in_X12_man_12 hown hK hP (by decide) (by decide) (hts _ lk_X12_man_33) dX12_man_144 ?_
          refine r_sipush hx hb dX12_man_147 (by decide) (fun z46 ez46 => ?_)
          refine lv_iload_n hx hb dX12_man_150 rfl (lv_at hl 1 rfl) ?_
          refine r_iadd hx hb dX12_man_151 (by omega) (fun z47 ez47 => ?_)
          obtain ⟨j48, ej48⟩ : ∃ j : Nat, z47.toInt = (j : Int) := ⟨_, ti_nat (by omega)⟩
          refine ad_ms (k := 389) (j := j48) hx hb hK hP (by decide) (by decide) ej48 (by omega) dX12_man_152 ?_
          exact r_iret hx hb hr hK hP hS hk dX12_man_153 (show P_X12_man σ0 τ0 a1 a2 (σ12 389 j48) σ12 τ0 from ⟨hR, hF, hFL⟩)
        refine lv_tableOut (tgt := 154) hx hb dX12_man_33 (by omega) (by decide) ?_
        refine lv_aload_n hx hb dX12_man_154 rfl (lv_at hl 0 rfl) ?_
        refine fg_12_6 (k := 387) hx hb hts in_X12_man_12 hown hK hP (by decide) (by decide) (hts _ lk_X12_man_33) dX12_man_155 ?_
        refine r_bipush hx hb dX12_man_158 (by decide) (fun z49 ez49 => ?_)
        refine lv_iload_n hx hb dX12_man_160 rfl (lv_at hl 1 rfl) ?_
        refine r_iadd hx hb dX12_man_161 (by omega) (fun z50 ez50 => ?_)
        obtain ⟨j51, ej51⟩ : ∃ j : Nat, z50.toInt = (j : Int) := ⟨_, ti_nat (by omega)⟩
        refine ad_ms (k := 389) (j := j51) hx hb hK hP (by decide) (by decide) ej51 (by omega) dX12_man_162 ?_
        refine r_iconst hx hb dX12_man_163 (by decide) (fun z52 ez52 => ?_)
        refine r_isubU hx hb dX12_man_164 (fun z53 => ?_)
        exact r_iret hx hb hr hK hP hS hk dX12_man_165 (show P_X12_man σ0 τ0 a1 a2 z53 σ12 τ0 from ⟨hR, hF, hFL⟩)
      · exfalso; omega
    · clear hp9_0
      refine r_iconst hx hb dX12_man_19 (by decide) (fun z54 ez54 => ?_)
      refine lv_goto (tgt := 24) hx hb dX12_man_20 (by decide) ?_
      refine r_cVi (k := 387) (As := [.int z54]) (rest := []) ⟨hx, hb, hml, hown, hts⟩ hK hP hN hS (c_X12_throwsIf l D cA ad hI σ0 τ0 hR z54 (by omega)) (cwV 1 hts gX12_man_X12_throwsIf rfl rfl rfl (by decide +kernel) ⟨by decide, by decide⟩) (rv_M hK hP (by decide) (by decide)) rfl hl.1 rfl (Nat.le_of_ble_eq_true rfl) dX12_man_24 (Nat.zero_le _) (Nat.zero_le _) (fun r55 u55 H55 locs55 hp55 hP hS => ?_)
      obtain ⟨σ55, τ55⟩ := u55
      obtain ⟨hR, f55, fL55, hq55, hp55_0⟩ : P_X12_throwsIf σ0 τ0 z54 r55 σ55 τ55 := hp55
      have hP : va_P D vwCl (gw cA ad σ55 τ55) H55 := hP
      obtain rfl := FrL.nil fL55
      have hF := hF.step f55 (by decide)
      refine r_if_eq (tgt := 32) hx hb dX12_man_27 (by decide) (fun c56 => ?_) (fun c56 => ?_)
      · exfalso; omega
      · refine r_iconst hx hb dX12_man_30 (by decide) (fun z57 ez57 => ?_)
        exact r_iret hx hb hr hK hP hS hk dX12_man_31 (show P_X12_man σ0 τ0 a1 a2 z57 σ55 τ0 from ⟨hR, hF, hFL⟩)
theorem in_X12_isFlight_12 : ∀ w ∈ u_ws RX12 TX12 47, w ∈ wsX12_isFlight := by decide +kernel
theorem lk_X12_isFlight_33 : Cond.fieldLink RX12 33 "CuckooSharesModel" "s" "[I" ∈ wsX12_isFlight := by decide +kernel
abbrev L_X12_isFlight : List Rc := []
abbrev LL_X12_isFlight : List Rc := []
def P_X12_isFlight (σ0 : Nat → Nat → Int32) (τ0 : Nat → Nat → Int64) (a1 : Int32) (r : Int32) (σ : Nat → Nat → Int32) (τ : Nat → Nat → Int64) : Prop := Rg σ ∧ Fr L_X12_isFlight σ0 σ ∧ FrL LL_X12_isFlight τ0 τ ∧ (0 ≤ r.toInt ∧ r.toInt ≤ 1) ∧ (r.toInt = 0 ∨ (r.toInt = 1 ∧ 0 ≤ a1.toInt ∧ a1.toInt ≤ 3))
set_option maxHeartbeats 4000000 in
theorem c_X12_isFlight (l : Launch) (D : va_G) (cA : Nat → ClassId) (ad : Nat → Nat) (hI : Inj ad) (σ0 : Nat → Nat → Int32) (τ0 : Nat → Nat → Int64) (hR : Rg σ0) (a1 : Int32)  : Met l yX12_isFlight wsX12_isFlight ({ frames := 1, cells := 0, slots := 0, locals := 22 } : Room) (WQc D cA ad [.ref (ad 387), .int a1] σ0 τ0) (va_Qi (fun (r : Int32) (u : SS) => P_X12_isFlight σ0 τ0 a1 r u.1 u.2) (WB D cA ad) (AA ad)) 0 0 (AA ad) := by
  refine Met.ofW (cc := cX12_isFlight) (maxL := 2) (ret := (some .boolean)) (by decide) rfl ?_
  intro p e s m args below meth c s₁ B hml hv
  obtain ⟨rfl, hP, hK, hN⟩ := hv
  have C : Cy p s m _ meth c cX12_isFlight 2 wsX12_isFlight RX12 D cA ad (some .boolean) := ⟨B.exec, B.bytes, hml, findClass_of_methodNamed B.named, atoms_spec (ws := wsX12_isFlight) B.pre, hK, B.notSynchronized, B.returns, hI, hN⟩
  have hl := lv_entry ([.ref (ad 387), .int a1]) (n := 2) (Nat.le_of_ble_eq_true rfl)
  rw [lg_entry_eq]
  generalize (lg_sl ([.ref (ad 387), .int a1]) ++ List.replicate (2 - (lg_sl ([.ref (ad 387), .int a1])).length) Slot.unset).toArray = ls at hl ⊢
  have hl : lv_has ls 2 [(0, .ref (ad 387)), (1, .int a1)] := hl
  have hS : va_S (AA ad) s.heap s.heap [] := va_S.rf
  have hF : Fr L_X12_isFlight σ0 σ0 := Fr.rf
  have hFL : FrL LL_X12_isFlight τ0 τ0 := FrL.rf
  obtain ⟨hx, hb, _, hown, hts, _, hk, hr, _, _⟩ := C
  refine lv_iload_n hx hb dX12_isFlight_0 rfl (lv_at hl 1 rfl) ?_
  refine r_iconst hx hb dX12_isFlight_1 (by decide) (fun z1 ez1 => ?_)
  refine lv_aload_n hx hb dX12_isFlight_2 rfl (lv_at hl 0 rfl) ?_
  refine fg_12_6 (k := 387) hx hb hts in_X12_isFlight_12 hown hK hP (by decide) (by decide) (hts _ lk_X12_isFlight_33) dX12_isFlight_3 ?_
  refine r_iconst hx hb dX12_isFlight_6 (by decide) (fun z2 ez2 => ?_)
  refine ad_ms (k := 389) (j := 2) hx hb hK hP (by decide) (by decide) (by omega) (by omega) dX12_isFlight_7 ?_
  have hr3 := ra_ms_1 hR (k := 389) (j := 2) (by decide) (by decide) (by decide) (by decide)
  refine r_iconst hx hb dX12_isFlight_8 (by decide) (fun z4 ez4 => ?_)
  refine r_isub hx hb dX12_isFlight_9 (by omega) (fun z5 ez5 => ?_)
  refine r_cSi (As := [.int a1, .int z1, .int z5]) (rest := []) ⟨hx, hb, hml, hown, hts⟩ hK hP hN hS (c_X12_isIn l D cA ad hI σ0 τ0 hR a1 z1 z5) (va_cwS 3 hts gX12_isFlight_X12_isIn rfl rfl rfl (by decide +kernel) ⟨by decide, by decide⟩) rfl hl.1 rfl (Nat.le_of_ble_eq_true rfl) dX12_isFlight_10 (Nat.zero_le _) (Nat.zero_le _) (fun r6 u6 H6 locs6 hp6 hP hS => ?_)
  obtain ⟨σ6, τ6⟩ := u6
  obtain ⟨hR, f6, fL6, hq6, hp6_0, hp6_1⟩ : P_X12_isIn σ0 τ0 a1 z1 z5 r6 σ6 τ6 := hp6
  have hP : va_P D vwCl (gw cA ad σ6 τ6) H6 := hP
  obtain rfl := FrL.nil fL6
  obtain rfl := Fr.nil f6
  exact r_zret hx hb hr hK hP hS hk (by omega) dX12_isFlight_13 (show P_X12_isFlight σ0 τ0 a1 r6 σ0 τ0 from ⟨hR, hF, hFL, by omega, by omega⟩)
theorem in_X12_flight_12 : ∀ w ∈ u_ws RX12 TX12 47, w ∈ wsX12_flight := by decide +kernel
theorem lk_X12_flight_1 : Cond.fieldLink RX12 1 "CuckooSharesModel" "thrown" "I" ∈ wsX12_flight := by decide +kernel
theorem lk_X12_flight_33 : Cond.fieldLink RX12 33 "CuckooSharesModel" "s" "[I" ∈ wsX12_flight := by decide +kernel
abbrev L_X12_flight : List Rc := [(387, 387, 0, 0)]
abbrev LL_X12_flight : List Rc := []
def P_X12_flight (σ0 : Nat → Nat → Int32) (τ0 : Nat → Nat → Int64) (a1 : Int32) (a2 : Int32) (r : Int32) (σ : Nat → Nat → Int32) (τ : Nat → Nat → Int64) : Prop := Rg σ ∧ Fr L_X12_flight σ0 σ ∧ FrL LL_X12_flight τ0 τ
set_option maxHeartbeats 4000000 in
theorem c_X12_flight (l : Launch) (D : va_G) (cA : Nat → ClassId) (ad : Nat → Nat) (hI : Inj ad) (σ0 : Nat → Nat → Int32) (τ0 : Nat → Nat → Int64) (hR : Rg σ0) (a1 : Int32) (a2 : Int32)  : Met l yX12_flight wsX12_flight ({ frames := 2, cells := 0, slots := 0, locals := 43 } : Room) (WQc D cA ad [.ref (ad 387), .int a1, .int a2] σ0 τ0) (va_Qi (fun (r : Int32) (u : SS) => P_X12_flight σ0 τ0 a1 a2 r u.1 u.2) (WB D cA ad) (AA ad)) 0 0 (AA ad) := by
  refine Met.ofW (cc := cX12_flight) (maxL := 3) (ret := (some .int)) (by decide) rfl ?_
  intro p e s m args below meth c s₁ B hml hv
  obtain ⟨rfl, hP, hK, hN⟩ := hv
  have C : Cy p s m _ meth c cX12_flight 3 wsX12_flight RX12 D cA ad (some .int) := ⟨B.exec, B.bytes, hml, findClass_of_methodNamed B.named, atoms_spec (ws := wsX12_flight) B.pre, hK, B.notSynchronized, B.returns, hI, hN⟩
  have hl := lv_entry ([.ref (ad 387), .int a1, .int a2]) (n := 3) (Nat.le_of_ble_eq_true rfl)
  rw [lg_entry_eq]
  generalize (lg_sl ([.ref (ad 387), .int a1, .int a2]) ++ List.replicate (3 - (lg_sl ([.ref (ad 387), .int a1, .int a2])).length) Slot.unset).toArray = ls at hl ⊢
  have hl : lv_has ls 3 [(0, .ref (ad 387)), (1, .int a1), (2, .int a2)] := hl
  have hS : va_S (AA ad) s.heap s.heap [] := va_S.rf
  have hF : Fr L_X12_flight σ0 σ0 := Fr.rf
  have hFL : FrL LL_X12_flight τ0 τ0 := FrL.rf
  obtain ⟨hx, hb, _, hown, hts, _, hk, hr, _, _⟩ := C
  refine lv_aload_n hx hb dX12_flight_0 rfl (lv_at hl 0 rfl) ?_
  refine r_iconst hx hb dX12_flight_1 (by decide) (fun z1 ez1 => ?_)
  refine fp_12_0 (k := 387) hx hb hts in_X12_flight_12 hown hK hP (by decide) (by decide) (hts _ lk_X12_flight_1) hI hR hS (by omega) dX12_flight_2 (fun σ2 H2 locs2 u2 v2 hR hP hS => ?_)
  have hF := hF.puts u2 0 rfl (by decide) (by decide) (by decide) (by decide)
  refine lv_aload_n hx hb dX12_flight_5 rfl (lv_at hl 0 rfl) ?_
  refine lv_iload_n hx hb dX12_flight_6 rfl (lv_at hl 1 rfl) ?_
  refine r_cVi (k := 387) (As := [.int a1]) (rest := []) ⟨hx, hb, hml, hown, hts⟩ hK hP hN hS (c_X12_isFlight l D cA ad hI σ2 τ0 hR a1) (cwV 1 hts gX12_flight_X12_isFlight rfl rfl rfl (by decide +kernel) ⟨by decide, by decide⟩) (rv_M hK hP (by decide) (by decide)) rfl hl.1 rfl (Nat.le_of_ble_eq_true rfl) dX12_flight_7 (Nat.zero_le _) (Nat.zero_le _) (fun r3 u3 H3 locs3 hp3 hP hS => ?_)
  obtain ⟨σ3, τ3⟩ := u3
  obtain ⟨hR, f3, fL3, hq3, hp3_0⟩ : P_X12_isFlight σ2 τ0 a1 r3 σ3 τ3 := hp3
  have hP : va_P D vwCl (gw cA ad σ3 τ3) H3 := hP
  obtain rfl := FrL.nil fL3
  obtain rfl := Fr.nil f3
  refine r_if_ne (tgt := 15) hx hb dX12_flight_10 (by decide) (fun c4 => ?_) (fun c4 => ?_)
  · replace hp3_0 := hp3_0.resolve_left (by omega)
    refine lv_iload_n hx hb dX12_flight_15 rfl (lv_at hl 2 rfl) ?_
    refine r_if_ne (tgt := 31) hx hb dX12_flight_16 (by decide) (fun c5 => ?_) (fun c5 => ?_)
    · refine lv_iload_n hx hb dX12_flight_31 rfl (lv_at hl 2 rfl) ?_
      refine r_iconst hx hb dX12_flight_32 (by decide) (fun z6 ez6 => ?_)
      refine r_icmp_ne (tgt := 48) hx hb dX12_flight_33 (by decide) (fun c7 => ?_) (fun c7 => ?_)
      · refine lv_iload_n hx hb dX12_flight_48 rfl (lv_at hl 2 rfl) ?_
        refine r_iconst hx hb dX12_flight_49 (by decide) (fun z8 ez8 => ?_)
        refine r_icmp_ne (tgt := 65) hx hb dX12_flight_50 (by decide) (fun c9 => ?_) (fun c9 => ?_)
        · refine r_iconst hx hb dX12_flight_65 (by decide) (fun z10 ez10 => ?_)
          exact r_iret hx hb hr hK hP hS hk dX12_flight_66 (show P_X12_flight σ0 τ0 a1 a2 z10 σ2 τ0 from ⟨hR, hF, hFL⟩)
        · refine lv_aload_n hx hb dX12_flight_53 rfl (lv_at hl 0 rfl) ?_
          refine fg_12_6 (k := 387) hx hb hts in_X12_flight_12 hown hK hP (by decide) (by decide) (hts _ lk_X12_flight_33) dX12_flight_54 ?_
          refine r_bipush hx hb dX12_flight_57 (by decide) (fun z11 ez11 => ?_)
          refine lv_iload_n hx hb dX12_flight_59 rfl (lv_at hl 1 rfl) ?_
          refine r_iadd hx hb dX12_flight_60 (by omega) (fun z12 ez12 => ?_)
          obtain ⟨j13, ej13⟩ : ∃ j : Nat, z12.toInt = (j : Int) := ⟨_, ti_nat (by omega)⟩
          refine ad_ms (k := 389) (j := j13) hx hb hK hP (by decide) (by decide) ej13 (by omega) dX12_flight_61 ?_
          have hr14 := ra_ms_4 hR (k := 389) (j := j13) (by decide) (by decide) (by omega) (by omega)
          refine lv_goto (tgt := 66) hx hb dX12_flight_62 (by decide) ?_
          exact r_iret hx hb hr hK hP hS hk dX12_flight_66 (show P_X12_flight σ0 τ0 a1 a2 (σ2 389 j13) σ2 τ0 from ⟨hR, hF, hFL⟩)
      · refine lv_aload_n hx hb dX12_flight_36 rfl (lv_at hl 0 rfl) ?_
        refine fg_12_6 (k := 387) hx hb hts in_X12_flight_12 hown hK hP (by decide) (by decide) (hts _ lk_X12_flight_33) dX12_flight_37 ?_
        refine r_bipush hx hb dX12_flight_40 (by decide) (fun z15 ez15 => ?_)
        refine lv_iload_n hx hb dX12_flight_42 rfl (lv_at hl 1 rfl) ?_
        refine r_iadd hx hb dX12_flight_43 (by omega) (fun z16 ez16 => ?_)
        obtain ⟨j17, ej17⟩ : ∃ j : Nat, z16.toInt = (j : Int) := ⟨_, ti_nat (by omega)⟩
        refine ad_ms (k := 389) (j := j17) hx hb hK hP (by decide) (by decide) ej17 (by omega) dX12_flight_44 ?_
        refine lv_goto (tgt := 66) hx hb dX12_flight_45 (by decide) ?_
        exact r_iret hx hb hr hK hP hS hk dX12_flight_66 (show P_X12_flight σ0 τ0 a1 a2 (σ2 389 j17) σ2 τ0 from ⟨hR, hF, hFL⟩)
    · refine lv_aload_n hx hb dX12_flight_19 rfl (lv_at hl 0 rfl) ?_
      refine fg_12_6 (k := 387) hx hb hts in_X12_flight_12 hown hK hP (by decide) (by decide) (hts _ lk_X12_flight_33) dX12_flight_20 ?_
      refine r_bipush hx hb dX12_flight_23 (by decide) (fun z18 ez18 => ?_)
      refine lv_iload_n hx hb dX12_flight_25 rfl (lv_at hl 1 rfl) ?_
      refine r_iadd hx hb dX12_flight_26 (by omega) (fun z19 ez19 => ?_)
      obtain ⟨j20, ej20⟩ : ∃ j : Nat, z19.toInt = (j : Int) := ⟨_, ti_nat (by omega)⟩
      refine ad_ms (k := 389) (j := j20) hx hb hK hP (by decide) (by decide) ej20 (by omega) dX12_flight_27 ?_
      refine lv_goto (tgt := 66) hx hb dX12_flight_28 (by decide) ?_
      exact r_iret hx hb hr hK hP hS hk dX12_flight_66 (show P_X12_flight σ0 τ0 a1 a2 (σ2 389 j20) σ2 τ0 from ⟨hR, hF, hFL⟩)
  · clear hp3_0
    refine r_iconst hx hb dX12_flight_13 (by decide) (fun z21 ez21 => ?_)
    exact r_iret hx hb hr hK hP hS hk dX12_flight_14 (show P_X12_flight σ0 τ0 a1 a2 z21 σ2 τ0 from ⟨hR, hF, hFL⟩)
theorem in_X12_isCall_12 : ∀ w ∈ u_ws RX12 TX12 47, w ∈ wsX12_isCall := by decide +kernel
theorem lk_X12_isCall_33 : Cond.fieldLink RX12 33 "CuckooSharesModel" "s" "[I" ∈ wsX12_isCall := by decide +kernel
abbrev L_X12_isCall : List Rc := []
abbrev LL_X12_isCall : List Rc := []
def P_X12_isCall (σ0 : Nat → Nat → Int32) (τ0 : Nat → Nat → Int64) (a1 : Int32) (a2 : Int32) (r : Int32) (σ : Nat → Nat → Int32) (τ : Nat → Nat → Int64) : Prop := Rg σ ∧ Fr L_X12_isCall σ0 σ ∧ FrL LL_X12_isCall τ0 τ ∧ (0 ≤ r.toInt ∧ r.toInt ≤ 1) ∧ (r.toInt = 0 ∨ (r.toInt = 1 ∧ 0 ≤ a1.toInt ∧ a1.toInt ≤ 3 ∧ 0 ≤ a2.toInt ∧ a2.toInt ≤ 9))
set_option maxHeartbeats 4000000 in
theorem c_X12_isCall (l : Launch) (D : va_G) (cA : Nat → ClassId) (ad : Nat → Nat) (hI : Inj ad) (σ0 : Nat → Nat → Int32) (τ0 : Nat → Nat → Int64) (hR : Rg σ0) (a1 : Int32) (a2 : Int32)  : Met l yX12_isCall wsX12_isCall ({ frames := 2, cells := 0, slots := 0, locals := 43 } : Room) (WQc D cA ad [.ref (ad 387), .int a1, .int a2] σ0 τ0) (va_Qi (fun (r : Int32) (u : SS) => P_X12_isCall σ0 τ0 a1 a2 r u.1 u.2) (WB D cA ad) (AA ad)) 0 0 (AA ad) := by
  refine Met.ofW (cc := cX12_isCall) (maxL := 3) (ret := (some .boolean)) (by decide) rfl ?_
  intro p e s m args below meth c s₁ B hml hv
  obtain ⟨rfl, hP, hK, hN⟩ := hv
  have C : Cy p s m _ meth c cX12_isCall 3 wsX12_isCall RX12 D cA ad (some .boolean) := ⟨B.exec, B.bytes, hml, findClass_of_methodNamed B.named, atoms_spec (ws := wsX12_isCall) B.pre, hK, B.notSynchronized, B.returns, hI, hN⟩
  have hl := lv_entry ([.ref (ad 387), .int a1, .int a2]) (n := 3) (Nat.le_of_ble_eq_true rfl)
  rw [lg_entry_eq]
  generalize (lg_sl ([.ref (ad 387), .int a1, .int a2]) ++ List.replicate (3 - (lg_sl ([.ref (ad 387), .int a1, .int a2])).length) Slot.unset).toArray = ls at hl ⊢
  have hl : lv_has ls 3 [(0, .ref (ad 387)), (1, .int a1), (2, .int a2)] := hl
  have hS : va_S (AA ad) s.heap s.heap [] := va_S.rf
  have hF : Fr L_X12_isCall σ0 σ0 := Fr.rf
  have hFL : FrL LL_X12_isCall τ0 τ0 := FrL.rf
  obtain ⟨hx, hb, _, hown, hts, _, hk, hr, _, _⟩ := C
  refine lv_aload_n hx hb dX12_isCall_0 rfl (lv_at hl 0 rfl) ?_
  refine lv_iload_n hx hb dX12_isCall_1 rfl (lv_at hl 1 rfl) ?_
  refine r_cVi (k := 387) (As := [.int a1]) (rest := []) ⟨hx, hb, hml, hown, hts⟩ hK hP hN hS (c_X12_isFlight l D cA ad hI σ0 τ0 hR a1) (cwV 1 hts gX12_isCall_X12_isFlight rfl rfl rfl (by decide +kernel) ⟨by decide, by decide⟩) (rv_M hK hP (by decide) (by decide)) rfl hl.1 rfl (Nat.le_of_ble_eq_true rfl) dX12_isCall_2 (Nat.zero_le _) (Nat.zero_le _) (fun r1 u1 H1 locs1 hp1 hP hS => ?_)
  obtain ⟨σ1, τ1⟩ := u1
  obtain ⟨hR, f1, fL1, hq1, hp1_0⟩ : P_X12_isFlight σ0 τ0 a1 r1 σ1 τ1 := hp1
  have hP : va_P D vwCl (gw cA ad σ1 τ1) H1 := hP
  obtain rfl := FrL.nil fL1
  obtain rfl := Fr.nil f1
  refine r_if_eq (tgt := 31) hx hb dX12_isCall_5 (by decide) (fun c2 => ?_) (fun c2 => ?_)
  · clear hp1_0
    refine r_iconst hx hb dX12_isCall_31 (by decide) (fun z3 ez3 => ?_)
    exact r_zret hx hb hr hK hP hS hk (by omega) dX12_isCall_32 (show P_X12_isCall σ0 τ0 a1 a2 z3 σ0 τ0 from ⟨hR, hF, hFL, by omega, by omega⟩)
  · replace hp1_0 := hp1_0.resolve_left (by omega)
    refine lv_iload_n hx hb dX12_isCall_8 rfl (lv_at hl 2 rfl) ?_
    refine r_iconst hx hb dX12_isCall_9 (by decide) (fun z4 ez4 => ?_)
    refine lv_aload_n hx hb dX12_isCall_10 rfl (lv_at hl 0 rfl) ?_
    refine fg_12_6 (k := 387) hx hb hts in_X12_isCall_12 hown hK hP (by decide) (by decide) (hts _ lk_X12_isCall_33) dX12_isCall_11 ?_
    refine r_bipush hx hb dX12_isCall_14 (by decide) (fun z5 ez5 => ?_)
    refine lv_iload_n hx hb dX12_isCall_16 rfl (lv_at hl 1 rfl) ?_
    refine r_iadd hx hb dX12_isCall_17 (by omega) (fun z6 ez6 => ?_)
    obtain ⟨j7, ej7⟩ : ∃ j : Nat, z6.toInt = (j : Int) := ⟨_, ti_nat (by omega)⟩
    refine ad_ms (k := 389) (j := j7) hx hb hK hP (by decide) (by decide) ej7 (by omega) dX12_isCall_18 ?_
    have hr8 := ra_ms_4 hR (k := 389) (j := j7) (by decide) (by decide) (by omega) (by omega)
    refine r_iconst hx hb dX12_isCall_19 (by decide) (fun z9 ez9 => ?_)
    refine r_isub hx hb dX12_isCall_20 (by omega) (fun z10 ez10 => ?_)
    refine r_cSi (As := [.int a2, .int z4, .int z10]) (rest := []) ⟨hx, hb, hml, hown, hts⟩ hK hP hN hS (c_X12_isIn l D cA ad hI σ0 τ0 hR a2 z4 z10) (va_cwS 3 hts gX12_isCall_X12_isIn rfl rfl rfl (by decide +kernel) ⟨by decide, by decide⟩) rfl hl.1 rfl (Nat.le_of_ble_eq_true rfl) dX12_isCall_21 (Nat.zero_le _) (Nat.zero_le _) (fun r11 u11 H11 locs11 hp11 hP hS => ?_)
    obtain ⟨σ11, τ11⟩ := u11
    obtain ⟨hR, f11, fL11, hq11, hp11_0, hp11_1⟩ : P_X12_isIn σ0 τ0 a2 z4 z10 r11 σ11 τ11 := hp11
    have hP : va_P D vwCl (gw cA ad σ11 τ11) H11 := hP
    obtain rfl := FrL.nil fL11
    obtain rfl := Fr.nil f11
    refine r_if_eq (tgt := 31) hx hb dX12_isCall_24 (by decide) (fun c12 => ?_) (fun c12 => ?_)
    · clear hp11_0
      refine r_iconst hx hb dX12_isCall_31 (by decide) (fun z13 ez13 => ?_)
      exact r_zret hx hb hr hK hP hS hk (by omega) dX12_isCall_32 (show P_X12_isCall σ0 τ0 a1 a2 z13 σ0 τ0 from ⟨hR, hF, hFL, by omega, by omega⟩)
    · replace hp11_0 := hp11_0.resolve_left (by omega)
      refine r_iconst hx hb dX12_isCall_27 (by decide) (fun z14 ez14 => ?_)
      refine lv_goto (tgt := 32) hx hb dX12_isCall_28 (by decide) ?_
      exact r_zret hx hb hr hK hP hS hk (by omega) dX12_isCall_32 (show P_X12_isCall σ0 τ0 a1 a2 z14 σ0 τ0 from ⟨hR, hF, hFL, by omega, by omega⟩)
theorem in_X12_call_12 : ∀ w ∈ u_ws RX12 TX12 47, w ∈ wsX12_call := by decide +kernel
theorem lk_X12_call_1 : Cond.fieldLink RX12 1 "CuckooSharesModel" "thrown" "I" ∈ wsX12_call := by decide +kernel
theorem lk_X12_call_33 : Cond.fieldLink RX12 33 "CuckooSharesModel" "s" "[I" ∈ wsX12_call := by decide +kernel
abbrev L_X12_call : List Rc := [(387, 387, 0, 0)]
abbrev LL_X12_call : List Rc := []
def P_X12_call (σ0 : Nat → Nat → Int32) (τ0 : Nat → Nat → Int64) (a1 : Int32) (a2 : Int32) (a3 : Int32) (r : Int32) (σ : Nat → Nat → Int32) (τ : Nat → Nat → Int64) : Prop := Rg σ ∧ Fr L_X12_call σ0 σ ∧ FrL LL_X12_call τ0 τ
set_option maxHeartbeats 4000000 in
theorem c_X12_call (l : Launch) (D : va_G) (cA : Nat → ClassId) (ad : Nat → Nat) (hI : Inj ad) (σ0 : Nat → Nat → Int32) (τ0 : Nat → Nat → Int64) (hR : Rg σ0) (a1 : Int32) (a2 : Int32) (a3 : Int32)  : Met l yX12_call wsX12_call ({ frames := 3, cells := 0, slots := 0, locals := 65 } : Room) (WQc D cA ad [.ref (ad 387), .int a1, .int a2, .int a3] σ0 τ0) (va_Qi (fun (r : Int32) (u : SS) => P_X12_call σ0 τ0 a1 a2 a3 r u.1 u.2) (WB D cA ad) (AA ad)) 0 0 (AA ad) := by
  refine Met.ofW (cc := cX12_call) (maxL := 5) (ret := (some .int)) (by decide) rfl ?_
  intro p e s m args below meth c s₁ B hml hv
  obtain ⟨rfl, hP, hK, hN⟩ := hv
  have C : Cy p s m _ meth c cX12_call 5 wsX12_call RX12 D cA ad (some .int) := ⟨B.exec, B.bytes, hml, findClass_of_methodNamed B.named, atoms_spec (ws := wsX12_call) B.pre, hK, B.notSynchronized, B.returns, hI, hN⟩
  have hl := lv_entry ([.ref (ad 387), .int a1, .int a2, .int a3]) (n := 5) (Nat.le_of_ble_eq_true rfl)
  rw [lg_entry_eq]
  generalize (lg_sl ([.ref (ad 387), .int a1, .int a2, .int a3]) ++ List.replicate (5 - (lg_sl ([.ref (ad 387), .int a1, .int a2, .int a3])).length) Slot.unset).toArray = ls at hl ⊢
  have hl : lv_has ls 5 [(0, .ref (ad 387)), (1, .int a1), (2, .int a2), (3, .int a3)] := hl
  have hS : va_S (AA ad) s.heap s.heap [] := va_S.rf
  have hF : Fr L_X12_call σ0 σ0 := Fr.rf
  have hFL : FrL LL_X12_call τ0 τ0 := FrL.rf
  obtain ⟨hx, hb, _, hown, hts, _, hk, hr, _, _⟩ := C
  refine lv_aload_n hx hb dX12_call_0 rfl (lv_at hl 0 rfl) ?_
  refine r_iconst hx hb dX12_call_1 (by decide) (fun z1 ez1 => ?_)
  refine fp_12_0 (k := 387) hx hb hts in_X12_call_12 hown hK hP (by decide) (by decide) (hts _ lk_X12_call_1) hI hR hS (by omega) dX12_call_2 (fun σ2 H2 locs2 u2 v2 hR hP hS => ?_)
  have hF := hF.puts u2 0 rfl (by decide) (by decide) (by decide) (by decide)
  refine lv_aload_n hx hb dX12_call_5 rfl (lv_at hl 0 rfl) ?_
  refine lv_iload_n hx hb dX12_call_6 rfl (lv_at hl 1 rfl) ?_
  refine lv_iload_n hx hb dX12_call_7 rfl (lv_at hl 2 rfl) ?_
  refine r_cVi (k := 387) (As := [.int a1, .int a2]) (rest := []) ⟨hx, hb, hml, hown, hts⟩ hK hP hN hS (c_X12_isCall l D cA ad hI σ2 τ0 hR a1 a2) (cwV 2 hts gX12_call_X12_isCall rfl rfl rfl (by decide +kernel) ⟨by decide, by decide⟩) (rv_M hK hP (by decide) (by decide)) rfl hl.1 rfl (Nat.le_of_ble_eq_true rfl) dX12_call_8 (Nat.zero_le _) (Nat.zero_le _) (fun r3 u3 H3 locs3 hp3 hP hS => ?_)
  obtain ⟨σ3, τ3⟩ := u3
  obtain ⟨hR, f3, fL3, hq3, hp3_0⟩ : P_X12_isCall σ2 τ0 a1 a2 r3 σ3 τ3 := hp3
  have hP : va_P D vwCl (gw cA ad σ3 τ3) H3 := hP
  obtain rfl := FrL.nil fL3
  obtain rfl := Fr.nil f3
  refine r_if_ne (tgt := 16) hx hb dX12_call_11 (by decide) (fun c4 => ?_) (fun c4 => ?_)
  · replace hp3_0 := hp3_0.resolve_left (by omega)
    refine r_bipush hx hb dX12_call_16 (by decide) (fun z5 ez5 => ?_)
    refine lv_iload_n hx hb dX12_call_18 rfl (lv_at hl 1 rfl) ?_
    refine r_imulL (n := 10) hx hb dX12_call_19 (by omega) (by omega) (fun z6 ez6 => ?_)
    refine lv_iload_n hx hb dX12_call_20 rfl (lv_at hl 2 rfl) ?_
    refine r_iadd hx hb dX12_call_21 (by omega) (fun z7 ez7 => ?_)
    refine lv_istore (lv' := [(4, .int z7), (0, .ref (ad 387)), (1, .int a1), (2, .int a2), (3, .int a3)]) hx hb dX12_call_22 hl (by decide) rfl (fun ls hl => ?_)
    refine lv_iload_n hx hb dX12_call_24 rfl (lv_at hl 4 rfl) ?_
    by_cases c8 : a3.toInt = 0
    · refine lv_tableIn (off := 31) (tgt := 56) hx hb dX12_call_25 (by omega) (by omega) (by rw [c8]; rfl) (by decide) ?_
      refine lv_aload_n hx hb dX12_call_56 rfl (lv_at hl 1 rfl) ?_
      refine fg_12_6 (k := 387) hx hb hts in_X12_call_12 hown hK hP (by decide) (by decide) (hts _ lk_X12_call_33) dX12_call_57 ?_
      refine r_bipush hx hb dX12_call_60 (by decide) (fun z9 ez9 => ?_)
      refine lv_iload hx hb dX12_call_62 (lv_at hl 0 rfl) ?_
      refine r_iadd hx hb dX12_call_64 (by omega) (fun z10 ez10 => ?_)
      obtain ⟨j11, ej11⟩ : ∃ j : Nat, z10.toInt = (j : Int) := ⟨_, ti_nat (by omega)⟩
      refine ad_ms (k := 389) (j := j11) hx hb hK hP (by decide) (by decide) ej11 (by omega) dX12_call_65 ?_
      exact r_iret hx hb hr hK hP hS hk dX12_call_66 (show P_X12_call σ0 τ0 a1 a2 a3 (σ2 389 j11) σ2 τ0 from ⟨hR, hF, hFL⟩)
    by_cases c12 : a3.toInt = 1
    · refine lv_tableIn (off := 42) (tgt := 67) hx hb dX12_call_25 (by omega) (by omega) (by rw [c12]; rfl) (by decide) ?_
      refine lv_aload_n hx hb dX12_call_67 rfl (lv_at hl 1 rfl) ?_
      refine fg_12_6 (k := 387) hx hb hts in_X12_call_12 hown hK hP (by decide) (by decide) (hts _ lk_X12_call_33) dX12_call_68 ?_
      refine r_sipush hx hb dX12_call_71 (by decide) (fun z13 ez13 => ?_)
      refine lv_iload hx hb dX12_call_74 (lv_at hl 0 rfl) ?_
      refine r_iadd hx hb dX12_call_76 (by omega) (fun z14 ez14 => ?_)
      obtain ⟨j15, ej15⟩ : ∃ j : Nat, z14.toInt = (j : Int) := ⟨_, ti_nat (by omega)⟩
      refine ad_ms (k := 389) (j := j15) hx hb hK hP (by decide) (by decide) ej15 (by omega) dX12_call_77 ?_
      exact r_iret hx hb hr hK hP hS hk dX12_call_78 (show P_X12_call σ0 τ0 a1 a2 a3 (σ2 389 j15) σ2 τ0 from ⟨hR, hF, hFL⟩)
    by_cases c16 : a3.toInt = 2
    · refine lv_tableIn (off := 54) (tgt := 79) hx hb dX12_call_25 (by omega) (by omega) (by rw [c16]; rfl) (by decide) ?_
      refine lv_aload_n hx hb dX12_call_79 rfl (lv_at hl 1 rfl) ?_
      refine fg_12_6 (k := 387) hx hb hts in_X12_call_12 hown hK hP (by decide) (by decide) (hts _ lk_X12_call_33) dX12_call_80 ?_
      refine r_sipush hx hb dX12_call_83 (by decide) (fun z17 ez17 => ?_)
      refine lv_iload hx hb dX12_call_86 (lv_at hl 0 rfl) ?_
      refine r_iadd hx hb dX12_call_88 (by omega) (fun z18 ez18 => ?_)
      obtain ⟨j19, ej19⟩ : ∃ j : Nat, z18.toInt = (j : Int) := ⟨_, ti_nat (by omega)⟩
      refine ad_ms (k := 389) (j := j19) hx hb hK hP (by decide) (by decide) ej19 (by omega) dX12_call_89 ?_
      exact r_iret hx hb hr hK hP hS hk dX12_call_90 (show P_X12_call σ0 τ0 a1 a2 a3 (σ2 389 j19) σ2 τ0 from ⟨hR, hF, hFL⟩)
    by_cases c20 : a3.toInt = 3
    · refine lv_tableIn (off := 66) (tgt := 91) hx hb dX12_call_25 (by omega) (by omega) (by rw [c20]; rfl) (by decide) ?_
      refine lv_aload_n hx hb dX12_call_91 rfl (lv_at hl 1 rfl) ?_
      refine lv_aload_n hx hb dX12_call_92 rfl (lv_at hl 1 rfl) ?_
      refine fg_12_6 (k := 387) hx hb hts in_X12_call_12 hown hK hP (by decide) (by decide) (hts _ lk_X12_call_33) dX12_call_93 ?_
      refine r_sipush hx hb dX12_call_96 (by decide) (fun z21 ez21 => ?_)
      refine lv_iload hx hb dX12_call_99 (lv_at hl 0 rfl) ?_
      refine r_iadd hx hb dX12_call_101 (by omega) (fun z22 ez22 => ?_)
      obtain ⟨j23, ej23⟩ : ∃ j : Nat, z22.toInt = (j : Int) := ⟨_, ti_nat (by omega)⟩
      refine ad_ms (k := 389) (j := j23) hx hb hK hP (by decide) (by decide) ej23 (by omega) dX12_call_102 ?_
      refine r_cVi (k := 387) (As := [.int (σ2 389 j23)]) (rest := []) ⟨hx, hb, hml, hown, hts⟩ hK hP hN hS (c_X12_valleyOf l D cA ad hI σ2 τ0 hR (σ2 389 j23)) (cwV 1 hts gX12_call_X12_valleyOf rfl rfl rfl (by decide +kernel) ⟨by decide, by decide⟩) (rv_M hK hP (by decide) (by decide)) rfl hl.1 rfl (Nat.le_of_ble_eq_true rfl) dX12_call_103 (Nat.zero_le _) (Nat.zero_le _) (fun r24 u24 H24 locs24 hp24 hP hS => ?_)
      obtain ⟨σ24, τ24⟩ := u24
      obtain ⟨hR, f24, fL24, hq24⟩ : P_X12_valleyOf σ2 τ0 (σ2 389 j23) r24 σ24 τ24 := hp24
      have hP : va_P D vwCl (gw cA ad σ24 τ24) H24 := hP
      obtain rfl := FrL.nil fL24
      obtain rfl := Fr.nil f24
      exact r_iret hx hb hr hK hP hS hk dX12_call_106 (show P_X12_call σ0 τ0 a1 a2 a3 r24 σ2 τ0 from ⟨hR, hF, hFL⟩)
    refine lv_tableOut (tgt := 107) hx hb dX12_call_25 (by omega) (by decide) ?_
    refine r_iconst hx hb dX12_call_107 (by decide) (fun z25 ez25 => ?_)
    exact r_iret hx hb hr hK hP hS hk dX12_call_108 (show P_X12_call σ0 τ0 a1 a2 a3 z25 σ2 τ0 from ⟨hR, hF, hFL⟩)
  · clear hp3_0
    refine r_iconst hx hb dX12_call_14 (by decide) (fun z26 ez26 => ?_)
    exact r_iret hx hb hr hK hP hS hk dX12_call_15 (show P_X12_call σ0 τ0 a1 a2 a3 z26 σ2 τ0 from ⟨hR, hF, hFL⟩)
theorem in_X12_isPast_12 : ∀ w ∈ u_ws RX12 TX12 47, w ∈ wsX12_isPast := by decide +kernel
theorem lk_X12_isPast_33 : Cond.fieldLink RX12 33 "CuckooSharesModel" "s" "[I" ∈ wsX12_isPast := by decide +kernel
abbrev L_X12_isPast : List Rc := []
abbrev LL_X12_isPast : List Rc := []
def P_X12_isPast (σ0 : Nat → Nat → Int32) (τ0 : Nat → Nat → Int64) (a1 : Int32) (r : Int32) (σ : Nat → Nat → Int32) (τ : Nat → Nat → Int64) : Prop := Rg σ ∧ Fr L_X12_isPast σ0 σ ∧ FrL LL_X12_isPast τ0 τ ∧ (0 ≤ r.toInt ∧ r.toInt ≤ 1)
set_option maxHeartbeats 4000000 in
theorem c_X12_isPast (l : Launch) (D : va_G) (cA : Nat → ClassId) (ad : Nat → Nat) (hI : Inj ad) (σ0 : Nat → Nat → Int32) (τ0 : Nat → Nat → Int64) (hR : Rg σ0) (a1 : Int32) (ha1 : 0 ≤ a1.toInt ∧ a1.toInt ≤ 9) : Met l yX12_isPast wsX12_isPast ({ frames := 0, cells := 0, slots := 0, locals := 0 } : Room) (WQc D cA ad [.ref (ad 387), .int a1] σ0 τ0) (va_Qi (fun (r : Int32) (u : SS) => P_X12_isPast σ0 τ0 a1 r u.1 u.2) (WB D cA ad) (AA ad)) 0 0 (AA ad) := by
  refine Met.ofW (cc := cX12_isPast) (maxL := 3) (ret := (some .boolean)) (by decide) rfl ?_
  intro p e s m args below meth c s₁ B hml hv
  obtain ⟨rfl, hP, hK, hN⟩ := hv
  have C : Cy p s m _ meth c cX12_isPast 3 wsX12_isPast RX12 D cA ad (some .boolean) := ⟨B.exec, B.bytes, hml, findClass_of_methodNamed B.named, atoms_spec (ws := wsX12_isPast) B.pre, hK, B.notSynchronized, B.returns, hI, hN⟩
  have hl := lv_entry ([.ref (ad 387), .int a1]) (n := 3) (Nat.le_of_ble_eq_true rfl)
  rw [lg_entry_eq]
  generalize (lg_sl ([.ref (ad 387), .int a1]) ++ List.replicate (3 - (lg_sl ([.ref (ad 387), .int a1])).length) Slot.unset).toArray = ls at hl ⊢
  have hl : lv_has ls 3 [(0, .ref (ad 387)), (1, .int a1)] := hl
  have hS : va_S (AA ad) s.heap s.heap [] := va_S.rf
  have hF : Fr L_X12_isPast σ0 σ0 := Fr.rf
  have hFL : FrL LL_X12_isPast τ0 τ0 := FrL.rf
  obtain ⟨hx, hb, _, hown, hts, _, hk, hr, _, _⟩ := C
  refine lv_aload_n hx hb dX12_isPast_0 rfl (lv_at hl 0 rfl) ?_
  refine fg_12_6 (k := 387) hx hb hts in_X12_isPast_12 hown hK hP (by decide) (by decide) (hts _ lk_X12_isPast_33) dX12_isPast_1 ?_
  refine r_sipush hx hb dX12_isPast_4 (by decide) (fun z1 ez1 => ?_)
  refine ad_ms (k := 389) (j := 212) hx hb hK hP (by decide) (by decide) (by omega) (by omega) dX12_isPast_7 ?_
  have hr2 := ra_ms_5 hR (k := 389) (j := 212) (by decide) (by decide) (by decide) (by decide)
  refine r_iconst hx hb dX12_isPast_8 (by decide) (fun z3 ez3 => ?_)
  refine r_isub hx hb dX12_isPast_9 (by omega) (fun z4 ez4 => ?_)
  refine lv_istore_n (lv' := [(2, .int z4), (0, .ref (ad 387)), (1, .int a1)]) hx hb dX12_isPast_10 rfl hl (by decide) rfl (fun ls hl => ?_)
  refine lv_iload_n hx hb dX12_isPast_11 rfl (lv_at hl 0 rfl) ?_
  refine r_if_lt (tgt := 57) hx hb dX12_isPast_12 (by decide) (fun c5 => ?_) (fun c5 => ?_)
  · refine r_iconst hx hb dX12_isPast_57 (by decide) (fun z6 ez6 => ?_)
    exact r_zret hx hb hr hK hP hS hk (by omega) dX12_isPast_58 (show P_X12_isPast σ0 τ0 a1 z6 σ0 τ0 from ⟨hR, hF, hFL, by omega⟩)
  · refine lv_iload_n hx hb dX12_isPast_15 rfl (lv_at hl 2 rfl) ?_
    refine lv_aload_n hx hb dX12_isPast_16 rfl (lv_at hl 1 rfl) ?_
    refine fg_12_6 (k := 387) hx hb hts in_X12_isPast_12 hown hK hP (by decide) (by decide) (hts _ lk_X12_isPast_33) dX12_isPast_17 ?_
    refine r_bipush hx hb dX12_isPast_20 (by decide) (fun z7 ez7 => ?_)
    refine lv_iload_n hx hb dX12_isPast_22 rfl (lv_at hl 0 rfl) ?_
    refine r_iadd hx hb dX12_isPast_23 (by omega) (fun z8 ez8 => ?_)
    obtain ⟨j9, ej9⟩ : ∃ j : Nat, z8.toInt = (j : Int) := ⟨_, ti_nat (by omega)⟩
    refine ad_ms (k := 389) (j := j9) hx hb hK hP (by decide) (by decide) ej9 (by omega) dX12_isPast_24 ?_
    have hr10 := ra_ms_4 hR (k := 389) (j := j9) (by decide) (by decide) (by omega) (by omega)
    refine r_icmp_ge (tgt := 57) hx hb dX12_isPast_25 (by decide) (fun c11 => ?_) (fun c11 => ?_)
    · refine r_iconst hx hb dX12_isPast_57 (by decide) (fun z12 ez12 => ?_)
      exact r_zret hx hb hr hK hP hS hk (by omega) dX12_isPast_58 (show P_X12_isPast σ0 τ0 a1 z12 σ0 τ0 from ⟨hR, hF, hFL, by omega⟩)
    · refine lv_aload_n hx hb dX12_isPast_28 rfl (lv_at hl 1 rfl) ?_
      refine fg_12_6 (k := 387) hx hb hts in_X12_isPast_12 hown hK hP (by decide) (by decide) (hts _ lk_X12_isPast_33) dX12_isPast_29 ?_
      refine r_bipush hx hb dX12_isPast_32 (by decide) (fun z13 ez13 => ?_)
      refine r_bipush hx hb dX12_isPast_34 (by decide) (fun z14 ez14 => ?_)
      refine lv_iload_n hx hb dX12_isPast_36 rfl (lv_at hl 0 rfl) ?_
      refine r_imulL (n := 10) hx hb dX12_isPast_37 (by omega) (by omega) (fun z15 ez15 => ?_)
      refine r_iadd hx hb dX12_isPast_38 (by omega) (fun z16 ez16 => ?_)
      refine lv_iload_n hx hb dX12_isPast_39 rfl (lv_at hl 2 rfl) ?_
      refine r_iadd hx hb dX12_isPast_40 (by omega) (fun z17 ez17 => ?_)
      obtain ⟨j18, ej18⟩ : ∃ j : Nat, z17.toInt = (j : Int) := ⟨_, ti_nat (by omega)⟩
      refine ad_ms (k := 389) (j := j18) hx hb hK hP (by decide) (by decide) ej18 (by omega) dX12_isPast_41 ?_
      refine lv_aload_n hx hb dX12_isPast_42 rfl (lv_at hl 1 rfl) ?_
      refine fg_12_6 (k := 387) hx hb hts in_X12_isPast_12 hown hK hP (by decide) (by decide) (hts _ lk_X12_isPast_33) dX12_isPast_43 ?_
      refine r_sipush hx hb dX12_isPast_46 (by decide) (fun z19 ez19 => ?_)
      refine ad_ms (k := 389) (j := 213) hx hb hK hP (by decide) (by decide) (by omega) (by omega) dX12_isPast_49 ?_
      refine r_icmp_gt (tgt := 57) hx hb dX12_isPast_50 (by decide) (fun c20 => ?_) (fun c20 => ?_)
      · refine r_iconst hx hb dX12_isPast_57 (by decide) (fun z21 ez21 => ?_)
        exact r_zret hx hb hr hK hP hS hk (by omega) dX12_isPast_58 (show P_X12_isPast σ0 τ0 a1 z21 σ0 τ0 from ⟨hR, hF, hFL, by omega⟩)
      · refine r_iconst hx hb dX12_isPast_53 (by decide) (fun z22 ez22 => ?_)
        refine lv_goto (tgt := 58) hx hb dX12_isPast_54 (by decide) ?_
        exact r_zret hx hb hr hK hP hS hk (by omega) dX12_isPast_58 (show P_X12_isPast σ0 τ0 a1 z22 σ0 τ0 from ⟨hR, hF, hFL, by omega⟩)
abbrev L_X12_pastOf : List Rc := []
abbrev LL_X12_pastOf : List Rc := []
def P_X12_pastOf (σ0 : Nat → Nat → Int32) (τ0 : Nat → Nat → Int64)  (r : Int32) (σ : Nat → Nat → Int32) (τ : Nat → Nat → Int64) : Prop := Rg σ ∧ Fr L_X12_pastOf σ0 σ ∧ FrL LL_X12_pastOf τ0 τ ∧ (0 ≤ r.toInt ∧ r.toInt ≤ 10)
def J_X12_pastOf_2 (p : Program) (l : Launch) (e : Env) (s : State) (m : MethodId) (args : Array Value) (below : List Frame) (meth : Method) (c : Code) (D : va_G) (cA : Nat → ClassId) (ad : Nat → Nat) (σ0 : Nat → Nat → Int32) (τ0 : Nat → Nat → Int64)  (n : Nat) : Prop := ∀ (σ : Nat → Nat → Int32) (τ : Nat → Nat → Int64) (H : Heap) (locs : List Loc) (x1 : Int32) (ls : Array Slot), Rg σ → Fr L_X12_pastOf σ0 σ → FrL LL_X12_pastOf τ0 τ → va_P D vwCl (gw cA ad σ τ) H → va_S (AA ad) s.heap H locs → (0 ≤ x1.toInt ∧ x1.toInt ≤ 10) → lv_has ls 2 [(0, .ref (ad 387)), (1, .int x1)] → 2 * (10 - x1.toInt) + 1 < (n : Int) → W p l e ({ frames := 1, cells := 0, slots := 0, locals := 22 } : Room) s m args below meth c H locs 0 0 (MQ below (va_Qi (fun (r : Int32) (u : SS) => P_X12_pastOf σ0 τ0 r u.1 u.2) (WB D cA ad) (AA ad)) args s 0 0 (AA ad)) (F0 m 2 ls [])
set_option maxHeartbeats 4000000 in
theorem B_X12_pastOf_2 (p : Program) (l : Launch) (e : Env) (s : State) (m : MethodId) (args : Array Value) (below : List Frame) (meth : Method) (c : Code) (D : va_G) (cA : Nat → ClassId) (ad : Nat → Nat) (σ0 : Nat → Nat → Int32) (τ0 : Nat → Nat → Int64)  (n : Nat) (C : Cy p s m args meth c cX12_pastOf 2 wsX12_pastOf RX12 D cA ad (some .int))  (K2 : J_X12_pastOf_2 p l e s m args below meth c D cA ad σ0 τ0 n) : J_X12_pastOf_2 p l e s m args below meth c D cA ad σ0 τ0 (n + 1) := by
  obtain ⟨hx, hb, hml, hown, hts, hK, hk, hr, hI, hN⟩ := C
  intro σ τ H locs x1 ls hR hF hFL hP hS hc0 hl hm
  obtain rfl := Fr.nil hF
  obtain rfl := FrL.nil hFL
  refine lv_iload_n hx hb dX12_pastOf_2 rfl (lv_at hl 1 rfl) ?_
  refine r_bipush hx hb dX12_pastOf_3 (by decide) (fun z1 ez1 => ?_)
  refine r_icmp_ge (tgt := 22) hx hb dX12_pastOf_5 (by decide) (fun c2 => ?_) (fun c2 => ?_)
  · refine lv_iload_n hx hb dX12_pastOf_22 rfl (lv_at hl 1 rfl) ?_
    exact r_iret hx hb hr hK hP hS hk dX12_pastOf_23 (show P_X12_pastOf σ0 τ0 x1 σ0 τ0 from ⟨hR, hF, hFL, by omega⟩)
  · refine lv_aload_n hx hb dX12_pastOf_8 rfl (lv_at hl 0 rfl) ?_
    refine lv_iload_n hx hb dX12_pastOf_9 rfl (lv_at hl 1 rfl) ?_
    refine r_cVi (k := 387) (As := [.int x1]) (rest := []) ⟨hx, hb, hml, hown, hts⟩ hK hP hN hS (c_X12_isPast l D cA ad hI σ0 τ0 hR x1 (by omega)) (cwV 1 hts gX12_pastOf_X12_isPast rfl rfl rfl (by decide +kernel) ⟨by decide, by decide⟩) (rv_M hK hP (by decide) (by decide)) rfl hl.1 rfl (Nat.le_of_ble_eq_true rfl) dX12_pastOf_10 (Nat.zero_le _) (Nat.zero_le _) (fun r3 u3 H3 locs3 hp3 hP hS => ?_)
    obtain ⟨σ3, τ3⟩ := u3
    obtain ⟨hR, f3, fL3, hq3⟩ : P_X12_isPast σ0 τ0 x1 r3 σ3 τ3 := hp3
    have hP : va_P D vwCl (gw cA ad σ3 τ3) H3 := hP
    obtain rfl := FrL.nil fL3
    obtain rfl := Fr.nil f3
    refine r_if_eq (tgt := 22) hx hb dX12_pastOf_13 (by decide) (fun c4 => ?_) (fun c4 => ?_)
    · refine lv_iload_n hx hb dX12_pastOf_22 rfl (lv_at hl 1 rfl) ?_
      exact r_iret hx hb hr hK hP hS hk dX12_pastOf_23 (show P_X12_pastOf σ0 τ0 x1 σ0 τ0 from ⟨hR, hF, hFL, by omega⟩)
    · refine r_iinc (k := 1) (lv1 := fun z5 => [(1, .int z5), (0, .ref (ad 387))]) hx hb dX12_pastOf_16 hl rfl (by decide) (fun _ => rfl) (by decide) (by omega) (fun z5 ls ez5 hl => ?_)
      refine lv_goto (tgt := 2) hx hb dX12_pastOf_19 (by decide) ?_
      exact K2 σ0 τ0 H3 locs3 z5 ls hR hF hFL hP hS (by omega) (lv_sub hl [1, 0] rfl) (by omega)
theorem A_X12_pastOf (p : Program) (l : Launch) (e : Env) (s : State) (m : MethodId) (args : Array Value) (below : List Frame) (meth : Method) (c : Code) (D : va_G) (cA : Nat → ClassId) (ad : Nat → Nat) (σ0 : Nat → Nat → Int32) (τ0 : Nat → Nat → Int64)  (C : Cy p s m args meth c cX12_pastOf 2 wsX12_pastOf RX12 D cA ad (some .int))  : ∀ n : Nat, J_X12_pastOf_2 p l e s m args below meth c D cA ad σ0 τ0 n := by
  intro n
  induction n with
  | zero =>
    exact (by intro σ τ H locs x1 ls hR hF hFL hP hS hc0 hl hm; exfalso; omega)
  | succ n ih =>
    exact B_X12_pastOf_2 p l e s m args below meth c D cA ad σ0 τ0 n C  ih
set_option maxHeartbeats 4000000 in
theorem c_X12_pastOf (l : Launch) (D : va_G) (cA : Nat → ClassId) (ad : Nat → Nat) (hI : Inj ad) (σ0 : Nat → Nat → Int32) (τ0 : Nat → Nat → Int64) (hR : Rg σ0)   : Met l yX12_pastOf wsX12_pastOf ({ frames := 1, cells := 0, slots := 0, locals := 22 } : Room) (WQc D cA ad [.ref (ad 387)] σ0 τ0) (va_Qi (fun (r : Int32) (u : SS) => P_X12_pastOf σ0 τ0 r u.1 u.2) (WB D cA ad) (AA ad)) 0 0 (AA ad) := by
  refine Met.ofW (cc := cX12_pastOf) (maxL := 2) (ret := (some .int)) (by decide) rfl ?_
  intro p e s m args below meth c s₁ B hml hv
  obtain ⟨rfl, hP, hK, hN⟩ := hv
  have C : Cy p s m _ meth c cX12_pastOf 2 wsX12_pastOf RX12 D cA ad (some .int) := ⟨B.exec, B.bytes, hml, findClass_of_methodNamed B.named, atoms_spec (ws := wsX12_pastOf) B.pre, hK, B.notSynchronized, B.returns, hI, hN⟩
  have hl := lv_entry ([.ref (ad 387)]) (n := 2) (Nat.le_of_ble_eq_true rfl)
  rw [lg_entry_eq]
  generalize (lg_sl ([.ref (ad 387)]) ++ List.replicate (2 - (lg_sl ([.ref (ad 387)])).length) Slot.unset).toArray = ls at hl ⊢
  have hl : lv_has ls 2 [(0, .ref (ad 387))] := hl
  have hS : va_S (AA ad) s.heap s.heap [] := va_S.rf
  have hF : Fr L_X12_pastOf σ0 σ0 := Fr.rf
  have hFL : FrL LL_X12_pastOf τ0 τ0 := FrL.rf
  have hA := A_X12_pastOf p l e s m _ below meth c D cA ad σ0 τ0 C  50
  have K2 := hA
  clear hA
  obtain ⟨hx, hb, _, hown, hts, _, hk, hr, _, _⟩ := C
  refine r_iconst hx hb dX12_pastOf_0 (by decide) (fun z1 ez1 => ?_)
  refine lv_istore_n (lv' := [(1, .int z1), (0, .ref (ad 387))]) hx hb dX12_pastOf_1 rfl hl (by decide) rfl (fun ls hl => ?_)
  exact K2 σ0 τ0 s.heap [] z1 ls hR hF hFL hP hS (by omega) (lv_sub hl [1, 0] rfl) (by omega)
theorem in_X12_sum_12 : ∀ w ∈ u_ws RX12 TX12 47, w ∈ wsX12_sum := by decide +kernel
theorem lk_X12_sum_33 : Cond.fieldLink RX12 33 "CuckooSharesModel" "s" "[I" ∈ wsX12_sum := by decide +kernel
abbrev L_X12_sum : List Rc := []
abbrev LL_X12_sum : List Rc := []
def P_X12_sum (σ0 : Nat → Nat → Int32) (τ0 : Nat → Nat → Int64) (a1 : Int32) (r : Int32) (σ : Nat → Nat → Int32) (τ : Nat → Nat → Int64) : Prop := Rg σ ∧ Fr L_X12_sum σ0 σ ∧ FrL LL_X12_sum τ0 τ
def J_X12_sum_4 (p : Program) (l : Launch) (e : Env) (s : State) (m : MethodId) (args : Array Value) (below : List Frame) (meth : Method) (c : Code) (D : va_G) (cA : Nat → ClassId) (ad : Nat → Nat) (σ0 : Nat → Nat → Int32) (τ0 : Nat → Nat → Int64) (a1 : Int32) (n : Nat) : Prop := ∀ (σ : Nat → Nat → Int32) (τ : Nat → Nat → Int64) (H : Heap) (locs : List Loc) (x2 : Int32) (x3 : Int32) (ls : Array Slot), Rg σ → Fr L_X12_sum σ0 σ → FrL LL_X12_sum τ0 τ → va_P D vwCl (gw cA ad σ τ) H → va_S (AA ad) s.heap H locs → (0 ≤ x3.toInt ∧ x3.toInt ≤ 8) → lv_has ls 4 [(0, .ref (ad 387)), (1, .int a1), (2, .int x2), (3, .int x3)] → 2 * (8 - x3.toInt) + 1 < (n : Int) → W p l e ({ frames := 0, cells := 0, slots := 0, locals := 0 } : Room) s m args below meth c H locs 0 0 (MQ below (va_Qi (fun (r : Int32) (u : SS) => P_X12_sum σ0 τ0 a1 r u.1 u.2) (WB D cA ad) (AA ad)) args s 0 0 (AA ad)) (F0 m 4 ls [])
set_option maxHeartbeats 4000000 in
theorem B_X12_sum_4 (p : Program) (l : Launch) (e : Env) (s : State) (m : MethodId) (args : Array Value) (below : List Frame) (meth : Method) (c : Code) (D : va_G) (cA : Nat → ClassId) (ad : Nat → Nat) (σ0 : Nat → Nat → Int32) (τ0 : Nat → Nat → Int64) (a1 : Int32) (n : Nat) (C : Cy p s m args meth c cX12_sum 4 wsX12_sum RX12 D cA ad (some .int)) (ha1 : 222 ≤ a1.toInt ∧ a1.toInt ≤ 238) (K4 : J_X12_sum_4 p l e s m args below meth c D cA ad σ0 τ0 a1 n) : J_X12_sum_4 p l e s m args below meth c D cA ad σ0 τ0 a1 (n + 1) := by
  obtain ⟨hx, hb, hml, hown, hts, hK, hk, hr, hI, hN⟩ := C
  intro σ τ H locs x2 x3 ls hR hF hFL hP hS hc0 hl hm
  obtain rfl := Fr.nil hF
  obtain rfl := FrL.nil hFL
  refine lv_iload_n hx hb dX12_sum_4 rfl (lv_at hl 3 rfl) ?_
  refine r_bipush hx hb dX12_sum_5 (by decide) (fun z1 ez1 => ?_)
  refine r_icmp_ge (tgt := 27) hx hb dX12_sum_7 (by decide) (fun c2 => ?_) (fun c2 => ?_)
  · refine lv_iload_n hx hb dX12_sum_27 rfl (lv_at hl 2 rfl) ?_
    exact r_iret hx hb hr hK hP hS hk dX12_sum_28 (show P_X12_sum σ0 τ0 a1 x2 σ0 τ0 from ⟨hR, hF, hFL⟩)
  · refine lv_iload_n hx hb dX12_sum_10 rfl (lv_at hl 2 rfl) ?_
    refine lv_aload_n hx hb dX12_sum_11 rfl (lv_at hl 0 rfl) ?_
    refine fg_12_6 (k := 387) hx hb hts in_X12_sum_12 hown hK hP (by decide) (by decide) (hts _ lk_X12_sum_33) dX12_sum_12 ?_
    refine lv_iload_n hx hb dX12_sum_15 rfl (lv_at hl 1 rfl) ?_
    refine lv_iload_n hx hb dX12_sum_16 rfl (lv_at hl 3 rfl) ?_
    refine r_iadd hx hb dX12_sum_17 (by omega) (fun z3 ez3 => ?_)
    obtain ⟨j4, ej4⟩ : ∃ j : Nat, z3.toInt = (j : Int) := ⟨_, ti_nat (by omega)⟩
    refine ad_ms (k := 389) (j := j4) hx hb hK hP (by decide) (by decide) ej4 (by omega) dX12_sum_18 ?_
    refine r_iaddU hx hb dX12_sum_19 (fun z5 => ?_)
    refine lv_istore_n (lv' := [(2, .int z5), (0, .ref (ad 387)), (1, .int a1), (3, .int x3)]) hx hb dX12_sum_20 rfl hl (by decide) rfl (fun ls hl => ?_)
    refine r_iinc (k := 3) (lv1 := fun z6 => [(3, .int z6), (2, .int z5), (0, .ref (ad 387)), (1, .int a1)]) hx hb dX12_sum_21 hl rfl (by decide) (fun _ => rfl) (by decide) (by omega) (fun z6 ls ez6 hl => ?_)
    refine lv_goto (tgt := 4) hx hb dX12_sum_24 (by decide) ?_
    exact K4 σ0 τ0 H locs z5 z6 ls hR hF hFL hP hS (by omega) (lv_sub hl [2, 3, 1, 0] rfl) (by omega)
theorem A_X12_sum (p : Program) (l : Launch) (e : Env) (s : State) (m : MethodId) (args : Array Value) (below : List Frame) (meth : Method) (c : Code) (D : va_G) (cA : Nat → ClassId) (ad : Nat → Nat) (σ0 : Nat → Nat → Int32) (τ0 : Nat → Nat → Int64) (a1 : Int32) (C : Cy p s m args meth c cX12_sum 4 wsX12_sum RX12 D cA ad (some .int)) (ha1 : 222 ≤ a1.toInt ∧ a1.toInt ≤ 238) : ∀ n : Nat, J_X12_sum_4 p l e s m args below meth c D cA ad σ0 τ0 a1 n := by
  intro n
  induction n with
  | zero =>
    exact (by intro σ τ H locs x2 x3 ls hR hF hFL hP hS hc0 hl hm; exfalso; omega)
  | succ n ih =>
    exact B_X12_sum_4 p l e s m args below meth c D cA ad σ0 τ0 a1 n C ha1 ih
set_option maxHeartbeats 4000000 in
theorem c_X12_sum (l : Launch) (D : va_G) (cA : Nat → ClassId) (ad : Nat → Nat) (hI : Inj ad) (σ0 : Nat → Nat → Int32) (τ0 : Nat → Nat → Int64) (hR : Rg σ0) (a1 : Int32) (ha1 : 222 ≤ a1.toInt ∧ a1.toInt ≤ 238) : Met l yX12_sum wsX12_sum ({ frames := 0, cells := 0, slots := 0, locals := 0 } : Room) (WQc D cA ad [.ref (ad 387), .int a1] σ0 τ0) (va_Qi (fun (r : Int32) (u : SS) => P_X12_sum σ0 τ0 a1 r u.1 u.2) (WB D cA ad) (AA ad)) 0 0 (AA ad) := by
  refine Met.ofW (cc := cX12_sum) (maxL := 4) (ret := (some .int)) (by decide) rfl ?_
  intro p e s m args below meth c s₁ B hml hv
  obtain ⟨rfl, hP, hK, hN⟩ := hv
  have C : Cy p s m _ meth c cX12_sum 4 wsX12_sum RX12 D cA ad (some .int) := ⟨B.exec, B.bytes, hml, findClass_of_methodNamed B.named, atoms_spec (ws := wsX12_sum) B.pre, hK, B.notSynchronized, B.returns, hI, hN⟩
  have hl := lv_entry ([.ref (ad 387), .int a1]) (n := 4) (Nat.le_of_ble_eq_true rfl)
  rw [lg_entry_eq]
  generalize (lg_sl ([.ref (ad 387), .int a1]) ++ List.replicate (4 - (lg_sl ([.ref (ad 387), .int a1])).length) Slot.unset).toArray = ls at hl ⊢
  have hl : lv_has ls 4 [(0, .ref (ad 387)), (1, .int a1)] := hl
  have hS : va_S (AA ad) s.heap s.heap [] := va_S.rf
  have hF : Fr L_X12_sum σ0 σ0 := Fr.rf
  have hFL : FrL LL_X12_sum τ0 τ0 := FrL.rf
  have hA := A_X12_sum p l e s m _ below meth c D cA ad σ0 τ0 a1 C ha1 42
  have K4 := hA
  clear hA
  obtain ⟨hx, hb, _, hown, hts, _, hk, hr, _, _⟩ := C
  refine r_iconst hx hb dX12_sum_0 (by decide) (fun z1 ez1 => ?_)
  refine lv_istore_n (lv' := [(2, .int z1), (0, .ref (ad 387)), (1, .int a1)]) hx hb dX12_sum_1 rfl hl (by decide) rfl (fun ls hl => ?_)
  refine r_iconst hx hb dX12_sum_2 (by decide) (fun z2 ez2 => ?_)
  refine lv_istore_n (lv' := [(3, .int z2), (2, .int z1), (0, .ref (ad 387)), (1, .int a1)]) hx hb dX12_sum_3 rfl hl (by decide) rfl (fun ls hl => ?_)
  exact K4 σ0 τ0 s.heap [] z1 z2 ls hR hF hFL hP hS (by omega) (lv_sub hl [2, 3, 1, 0] rfl) (by omega)
theorem in_X12_swornSet_12 : ∀ w ∈ u_ws RX12 TX12 47, w ∈ wsX12_swornSet := by decide +kernel
theorem lk_X12_swornSet_33 : Cond.fieldLink RX12 33 "CuckooSharesModel" "s" "[I" ∈ wsX12_swornSet := by decide +kernel
abbrev L_X12_swornSet : List Rc := []
abbrev LL_X12_swornSet : List Rc := []
def P_X12_swornSet (σ0 : Nat → Nat → Int32) (τ0 : Nat → Nat → Int64)  (r : Int32) (σ : Nat → Nat → Int32) (τ : Nat → Nat → Int64) : Prop := Rg σ ∧ Fr L_X12_swornSet σ0 σ ∧ FrL LL_X12_swornSet τ0 τ
def J_X12_swornSet_4 (p : Program) (l : Launch) (e : Env) (s : State) (m : MethodId) (args : Array Value) (below : List Frame) (meth : Method) (c : Code) (D : va_G) (cA : Nat → ClassId) (ad : Nat → Nat) (σ0 : Nat → Nat → Int32) (τ0 : Nat → Nat → Int64)  (n : Nat) : Prop := ∀ (σ : Nat → Nat → Int32) (τ : Nat → Nat → Int64) (H : Heap) (locs : List Loc) (x1 : Int32) (x2 : Int32) (ls : Array Slot), Rg σ → Fr L_X12_swornSet σ0 σ → FrL LL_X12_swornSet τ0 τ → va_P D vwCl (gw cA ad σ τ) H → va_S (AA ad) s.heap H locs → (0 ≤ x2.toInt ∧ x2.toInt ≤ 8) → lv_has ls 3 [(0, .ref (ad 387)), (1, .int x1), (2, .int x2)] → 2 * (8 - x2.toInt) + 1 < (n : Int) → W p l e ({ frames := 0, cells := 0, slots := 0, locals := 0 } : Room) s m args below meth c H locs 0 0 (MQ below (va_Qi (fun (r : Int32) (u : SS) => P_X12_swornSet σ0 τ0 r u.1 u.2) (WB D cA ad) (AA ad)) args s 0 0 (AA ad)) (F0 m 4 ls [])
set_option maxHeartbeats 4000000 in
theorem B_X12_swornSet_4 (p : Program) (l : Launch) (e : Env) (s : State) (m : MethodId) (args : Array Value) (below : List Frame) (meth : Method) (c : Code) (D : va_G) (cA : Nat → ClassId) (ad : Nat → Nat) (σ0 : Nat → Nat → Int32) (τ0 : Nat → Nat → Int64)  (n : Nat) (C : Cy p s m args meth c cX12_swornSet 3 wsX12_swornSet RX12 D cA ad (some .int))  (K4 : J_X12_swornSet_4 p l e s m args below meth c D cA ad σ0 τ0 n) : J_X12_swornSet_4 p l e s m args below meth c D cA ad σ0 τ0 (n + 1) := by
  obtain ⟨hx, hb, hml, hown, hts, hK, hk, hr, hI, hN⟩ := C
  intro σ τ H locs x1 x2 ls hR hF hFL hP hS hc0 hl hm
  obtain rfl := Fr.nil hF
  obtain rfl := FrL.nil hFL
  refine lv_iload_n hx hb dX12_swornSet_4 rfl (lv_at hl 2 rfl) ?_
  refine lv_aload_n hx hb dX12_swornSet_5 rfl (lv_at hl 0 rfl) ?_
  refine fg_12_6 (k := 387) hx hb hts in_X12_swornSet_12 hown hK hP (by decide) (by decide) (hts _ lk_X12_swornSet_33) dX12_swornSet_6 ?_
  refine r_iconst hx hb dX12_swornSet_9 (by decide) (fun z1 ez1 => ?_)
  refine ad_ms (k := 389) (j := 1) hx hb hK hP (by decide) (by decide) (by omega) (by omega) dX12_swornSet_10 ?_
  have hr2 := ra_ms_0 hR (k := 389) (j := 1) (by decide) (by decide) (by decide) (by decide)
  refine r_icmp_ge (tgt := 43) hx hb dX12_swornSet_11 (by decide) (fun c3 => ?_) (fun c3 => ?_)
  · refine lv_iload_n hx hb dX12_swornSet_43 rfl (lv_at hl 1 rfl) ?_
    exact r_iret hx hb hr hK hP hS hk dX12_swornSet_44 (show P_X12_swornSet σ0 τ0 x1 σ0 τ0 from ⟨hR, hF, hFL⟩)
  · refine lv_iload_n hx hb dX12_swornSet_14 rfl (lv_at hl 1 rfl) ?_
    refine lv_aload_n hx hb dX12_swornSet_15 rfl (lv_at hl 0 rfl) ?_
    refine fg_12_6 (k := 387) hx hb hts in_X12_swornSet_12 hown hK hP (by decide) (by decide) (hts _ lk_X12_swornSet_33) dX12_swornSet_16 ?_
    refine r_sipush hx hb dX12_swornSet_19 (by decide) (fun z4 ez4 => ?_)
    refine lv_iload_n hx hb dX12_swornSet_22 rfl (lv_at hl 2 rfl) ?_
    refine r_iadd hx hb dX12_swornSet_23 (by omega) (fun z5 ez5 => ?_)
    obtain ⟨j6, ej6⟩ : ∃ j : Nat, z5.toInt = (j : Int) := ⟨_, ti_nat (by omega)⟩
    refine ad_ms (k := 389) (j := j6) hx hb hK hP (by decide) (by decide) ej6 (by omega) dX12_swornSet_24 ?_
    have hr7 := ra_ms_7 hR (k := 389) (j := j6) (by decide) (by decide) (by omega) (by omega)
    refine r_if_le (tgt := 34) hx hb dX12_swornSet_25 (by decide) (fun c8 => ?_) (fun c8 => ?_)
    · refine r_iconst hx hb dX12_swornSet_34 (by decide) (fun z9 ez9 => ?_)
      refine r_iorU hx hb dX12_swornSet_35 (fun z10 => ?_)
      refine lv_istore_n (lv' := [(1, .int z10), (0, .ref (ad 387)), (2, .int x2)]) hx hb dX12_swornSet_36 rfl hl (by decide) rfl (fun ls hl => ?_)
      refine r_iinc (k := 2) (lv1 := fun z11 => [(2, .int z11), (1, .int z10), (0, .ref (ad 387))]) hx hb dX12_swornSet_37 hl rfl (by decide) (fun _ => rfl) (by decide) (by omega) (fun z11 ls ez11 hl => ?_)
      refine lv_goto (tgt := 4) hx hb dX12_swornSet_40 (by decide) ?_
      exact K4 σ0 τ0 H locs z10 z11 ls hR hF hFL hP hS (by omega) (lv_sub hl [2, 1, 0] rfl) (by omega)
    · refine r_iconst hx hb dX12_swornSet_28 (by decide) (fun z12 ez12 => ?_)
      refine lv_iload_n hx hb dX12_swornSet_29 rfl (lv_at hl 2 rfl) ?_
      refine r_ishlU hx hb dX12_swornSet_30 (fun z13 => ?_)
      refine lv_goto (tgt := 35) hx hb dX12_swornSet_31 (by decide) ?_
      refine r_iorU hx hb dX12_swornSet_35 (fun z14 => ?_)
      refine lv_istore_n (lv' := [(1, .int z14), (0, .ref (ad 387)), (2, .int x2)]) hx hb dX12_swornSet_36 rfl hl (by decide) rfl (fun ls hl => ?_)
      refine r_iinc (k := 2) (lv1 := fun z15 => [(2, .int z15), (1, .int z14), (0, .ref (ad 387))]) hx hb dX12_swornSet_37 hl rfl (by decide) (fun _ => rfl) (by decide) (by omega) (fun z15 ls ez15 hl => ?_)
      refine lv_goto (tgt := 4) hx hb dX12_swornSet_40 (by decide) ?_
      exact K4 σ0 τ0 H locs z14 z15 ls hR hF hFL hP hS (by omega) (lv_sub hl [2, 1, 0] rfl) (by omega)
theorem A_X12_swornSet (p : Program) (l : Launch) (e : Env) (s : State) (m : MethodId) (args : Array Value) (below : List Frame) (meth : Method) (c : Code) (D : va_G) (cA : Nat → ClassId) (ad : Nat → Nat) (σ0 : Nat → Nat → Int32) (τ0 : Nat → Nat → Int64)  (C : Cy p s m args meth c cX12_swornSet 3 wsX12_swornSet RX12 D cA ad (some .int))  : ∀ n : Nat, J_X12_swornSet_4 p l e s m args below meth c D cA ad σ0 τ0 n := by
  intro n
  induction n with
  | zero =>
    exact (by intro σ τ H locs x1 x2 ls hR hF hFL hP hS hc0 hl hm; exfalso; omega)
  | succ n ih =>
    exact B_X12_swornSet_4 p l e s m args below meth c D cA ad σ0 τ0 n C  ih
set_option maxHeartbeats 4000000 in
theorem c_X12_swornSet (l : Launch) (D : va_G) (cA : Nat → ClassId) (ad : Nat → Nat) (hI : Inj ad) (σ0 : Nat → Nat → Int32) (τ0 : Nat → Nat → Int64) (hR : Rg σ0)   : Met l yX12_swornSet wsX12_swornSet ({ frames := 0, cells := 0, slots := 0, locals := 0 } : Room) (WQc D cA ad [.ref (ad 387)] σ0 τ0) (va_Qi (fun (r : Int32) (u : SS) => P_X12_swornSet σ0 τ0 r u.1 u.2) (WB D cA ad) (AA ad)) 0 0 (AA ad) := by
  refine Met.ofW (cc := cX12_swornSet) (maxL := 3) (ret := (some .int)) (by decide) rfl ?_
  intro p e s m args below meth c s₁ B hml hv
  obtain ⟨rfl, hP, hK, hN⟩ := hv
  have C : Cy p s m _ meth c cX12_swornSet 3 wsX12_swornSet RX12 D cA ad (some .int) := ⟨B.exec, B.bytes, hml, findClass_of_methodNamed B.named, atoms_spec (ws := wsX12_swornSet) B.pre, hK, B.notSynchronized, B.returns, hI, hN⟩
  have hl := lv_entry ([.ref (ad 387)]) (n := 3) (Nat.le_of_ble_eq_true rfl)
  rw [lg_entry_eq]
  generalize (lg_sl ([.ref (ad 387)]) ++ List.replicate (3 - (lg_sl ([.ref (ad 387)])).length) Slot.unset).toArray = ls at hl ⊢
  have hl : lv_has ls 3 [(0, .ref (ad 387))] := hl
  have hS : va_S (AA ad) s.heap s.heap [] := va_S.rf
  have hF : Fr L_X12_swornSet σ0 σ0 := Fr.rf
  have hFL : FrL LL_X12_swornSet τ0 τ0 := FrL.rf
  have hA := A_X12_swornSet p l e s m _ below meth c D cA ad σ0 τ0 C  42
  have K4 := hA
  clear hA
  obtain ⟨hx, hb, _, hown, hts, _, hk, hr, _, _⟩ := C
  refine r_iconst hx hb dX12_swornSet_0 (by decide) (fun z1 ez1 => ?_)
  refine lv_istore_n (lv' := [(1, .int z1), (0, .ref (ad 387))]) hx hb dX12_swornSet_1 rfl hl (by decide) rfl (fun ls hl => ?_)
  refine r_iconst hx hb dX12_swornSet_2 (by decide) (fun z2 ez2 => ?_)
  refine lv_istore_n (lv' := [(2, .int z2), (1, .int z1), (0, .ref (ad 387))]) hx hb dX12_swornSet_3 rfl hl (by decide) rfl (fun ls hl => ?_)
  exact K4 σ0 τ0 s.heap [] z1 z2 ls hR hF hFL hP hS (by omega) (lv_sub hl [2, 1, 0] rfl) (by omega)
theorem in_X12_now_12 : ∀ w ∈ u_ws RX12 TX12 47, w ∈ wsX12_now := by decide +kernel
theorem lk_X12_now_1 : Cond.fieldLink RX12 1 "CuckooSharesModel" "thrown" "I" ∈ wsX12_now := by decide +kernel
theorem lk_X12_now_33 : Cond.fieldLink RX12 33 "CuckooSharesModel" "s" "[I" ∈ wsX12_now := by decide +kernel
abbrev L_X12_now : List Rc := [(387, 387, 0, 0)]
abbrev LL_X12_now : List Rc := []
def P_X12_now (σ0 : Nat → Nat → Int32) (τ0 : Nat → Nat → Int64) (a1 : Int32) (r : Int32) (σ : Nat → Nat → Int32) (τ : Nat → Nat → Int64) : Prop := Rg σ ∧ Fr L_X12_now σ0 σ ∧ FrL LL_X12_now τ0 τ
set_option maxHeartbeats 4000000 in
theorem c_X12_now (l : Launch) (D : va_G) (cA : Nat → ClassId) (ad : Nat → Nat) (hI : Inj ad) (σ0 : Nat → Nat → Int32) (τ0 : Nat → Nat → Int64) (hR : Rg σ0) (a1 : Int32)  : Met l yX12_now wsX12_now ({ frames := 2, cells := 0, slots := 0, locals := 43 } : Room) (WQc D cA ad [.ref (ad 387), .int a1] σ0 τ0) (va_Qi (fun (r : Int32) (u : SS) => P_X12_now σ0 τ0 a1 r u.1 u.2) (WB D cA ad) (AA ad)) 0 0 (AA ad) := by
  refine Met.ofW (cc := cX12_now) (maxL := 2) (ret := (some .int)) (by decide) rfl ?_
  intro p e s m args below meth c s₁ B hml hv
  obtain ⟨rfl, hP, hK, hN⟩ := hv
  have C : Cy p s m _ meth c cX12_now 2 wsX12_now RX12 D cA ad (some .int) := ⟨B.exec, B.bytes, hml, findClass_of_methodNamed B.named, atoms_spec (ws := wsX12_now) B.pre, hK, B.notSynchronized, B.returns, hI, hN⟩
  have hl := lv_entry ([.ref (ad 387), .int a1]) (n := 2) (Nat.le_of_ble_eq_true rfl)
  rw [lg_entry_eq]
  generalize (lg_sl ([.ref (ad 387), .int a1]) ++ List.replicate (2 - (lg_sl ([.ref (ad 387), .int a1])).length) Slot.unset).toArray = ls at hl ⊢
  have hl : lv_has ls 2 [(0, .ref (ad 387)), (1, .int a1)] := hl
  have hS : va_S (AA ad) s.heap s.heap [] := va_S.rf
  have hF : Fr L_X12_now σ0 σ0 := Fr.rf
  have hFL : FrL LL_X12_now τ0 τ0 := FrL.rf
  obtain ⟨hx, hb, _, hown, hts, _, hk, hr, _, _⟩ := C
  refine lv_aload_n hx hb dX12_now_0 rfl (lv_at hl 0 rfl) ?_
  refine r_iconst hx hb dX12_now_1 (by decide) (fun z1 ez1 => ?_)
  refine fp_12_0 (k := 387) hx hb hts in_X12_now_12 hown hK hP (by decide) (by decide) (hts _ lk_X12_now_1) hI hR hS (by omega) dX12_now_2 (fun σ2 H2 locs2 u2 v2 hR hP hS => ?_)
  have hF := hF.puts u2 0 rfl (by decide) (by decide) (by decide) (by decide)
  refine lv_iload_n hx hb dX12_now_5 rfl (lv_at hl 1 rfl) ?_
  by_cases c3 : a1.toInt = 0
  · refine lv_tableIn (off := 42) (tgt := 48) hx hb dX12_now_6 (by omega) (by omega) (by rw [c3]; rfl) (by decide) ?_
    refine lv_aload_n hx hb dX12_now_48 rfl (lv_at hl 0 rfl) ?_
    refine fg_12_6 (k := 387) hx hb hts in_X12_now_12 hown hK hP (by decide) (by decide) (hts _ lk_X12_now_33) dX12_now_49 ?_
    refine r_sipush hx hb dX12_now_52 (by decide) (fun z4 ez4 => ?_)
    refine ad_ms (k := 389) (j := 211) hx hb hK hP (by decide) (by decide) (by omega) (by omega) dX12_now_55 ?_
    exact r_iret hx hb hr hK hP hS hk dX12_now_56 (show P_X12_now σ0 τ0 a1 (σ2 389 211) σ2 τ0 from ⟨hR, hF, hFL⟩)
  by_cases c5 : a1.toInt = 1
  · refine lv_tableIn (off := 51) (tgt := 57) hx hb dX12_now_6 (by omega) (by omega) (by rw [c5]; rfl) (by decide) ?_
    refine lv_aload_n hx hb dX12_now_57 rfl (lv_at hl 0 rfl) ?_
    refine fg_12_6 (k := 387) hx hb hts in_X12_now_12 hown hK hP (by decide) (by decide) (hts _ lk_X12_now_33) dX12_now_58 ?_
    refine r_sipush hx hb dX12_now_61 (by decide) (fun z6 ez6 => ?_)
    refine ad_ms (k := 389) (j := 212) hx hb hK hP (by decide) (by decide) (by omega) (by omega) dX12_now_64 ?_
    have hr7 := ra_ms_5 hR (k := 389) (j := 212) (by decide) (by decide) (by decide) (by decide)
    refine r_iconst hx hb dX12_now_65 (by decide) (fun z8 ez8 => ?_)
    refine r_isub hx hb dX12_now_66 (by omega) (fun z9 ez9 => ?_)
    exact r_iret hx hb hr hK hP hS hk dX12_now_67 (show P_X12_now σ0 τ0 a1 z9 σ2 τ0 from ⟨hR, hF, hFL⟩)
  by_cases c10 : a1.toInt = 2
  · refine lv_tableIn (off := 62) (tgt := 68) hx hb dX12_now_6 (by omega) (by omega) (by rw [c10]; rfl) (by decide) ?_
    refine lv_aload_n hx hb dX12_now_68 rfl (lv_at hl 0 rfl) ?_
    refine fg_12_6 (k := 387) hx hb hts in_X12_now_12 hown hK hP (by decide) (by decide) (hts _ lk_X12_now_33) dX12_now_69 ?_
    refine r_sipush hx hb dX12_now_72 (by decide) (fun z11 ez11 => ?_)
    refine ad_ms (k := 389) (j := 213) hx hb hK hP (by decide) (by decide) (by omega) (by omega) dX12_now_75 ?_
    exact r_iret hx hb hr hK hP hS hk dX12_now_76 (show P_X12_now σ0 τ0 a1 (σ2 389 213) σ2 τ0 from ⟨hR, hF, hFL⟩)
  by_cases c12 : a1.toInt = 3
  · refine lv_tableIn (off := 71) (tgt := 77) hx hb dX12_now_6 (by omega) (by omega) (by rw [c12]; rfl) (by decide) ?_
    refine lv_aload_n hx hb dX12_now_77 rfl (lv_at hl 0 rfl) ?_
    refine r_cVi (k := 387) (As := []) (rest := []) ⟨hx, hb, hml, hown, hts⟩ hK hP hN hS (c_X12_pastOf l D cA ad hI σ2 τ0 hR) (cwV 0 hts gX12_now_X12_pastOf rfl rfl rfl (by decide +kernel) ⟨by decide, by decide⟩) (rv_M hK hP (by decide) (by decide)) rfl hl.1 rfl (Nat.le_of_ble_eq_true rfl) dX12_now_78 (Nat.zero_le _) (Nat.zero_le _) (fun r13 u13 H13 locs13 hp13 hP hS => ?_)
    obtain ⟨σ13, τ13⟩ := u13
    obtain ⟨hR, f13, fL13, hq13⟩ : P_X12_pastOf σ2 τ0 r13 σ13 τ13 := hp13
    have hP : va_P D vwCl (gw cA ad σ13 τ13) H13 := hP
    obtain rfl := FrL.nil fL13
    obtain rfl := Fr.nil f13
    exact r_iret hx hb hr hK hP hS hk dX12_now_81 (show P_X12_now σ0 τ0 a1 r13 σ2 τ0 from ⟨hR, hF, hFL⟩)
  by_cases c14 : a1.toInt = 4
  · refine lv_tableIn (off := 76) (tgt := 82) hx hb dX12_now_6 (by omega) (by omega) (by rw [c14]; rfl) (by decide) ?_
    refine lv_aload_n hx hb dX12_now_82 rfl (lv_at hl 0 rfl) ?_
    refine r_cVi (k := 387) (As := []) (rest := []) ⟨hx, hb, hml, hown, hts⟩ hK hP hN hS (c_X12_swornSet l D cA ad hI σ2 τ0 hR) (cwV 0 hts gX12_now_X12_swornSet rfl rfl rfl (by decide +kernel) ⟨by decide, by decide⟩) (rv_M hK hP (by decide) (by decide)) rfl hl.1 rfl (Nat.le_of_ble_eq_true rfl) dX12_now_83 (Nat.zero_le _) (Nat.zero_le _) (fun r15 u15 H15 locs15 hp15 hP hS => ?_)
    obtain ⟨σ15, τ15⟩ := u15
    obtain ⟨hR, f15, fL15⟩ : P_X12_swornSet σ2 τ0 r15 σ15 τ15 := hp15
    have hP : va_P D vwCl (gw cA ad σ15 τ15) H15 := hP
    obtain rfl := FrL.nil fL15
    obtain rfl := Fr.nil f15
    exact r_iret hx hb hr hK hP hS hk dX12_now_86 (show P_X12_now σ0 τ0 a1 r15 σ2 τ0 from ⟨hR, hF, hFL⟩)
  by_cases c16 : a1.toInt = 5
  · refine lv_tableIn (off := 81) (tgt := 87) hx hb dX12_now_6 (by omega) (by omega) (by rw [c16]; rfl) (by decide) ?_
    refine lv_aload_n hx hb dX12_now_87 rfl (lv_at hl 0 rfl) ?_
    refine r_sipush hx hb dX12_now_88 (by decide) (fun z17 ez17 => ?_)
    refine r_cVi (k := 387) (As := [.int z17]) (rest := []) ⟨hx, hb, hml, hown, hts⟩ hK hP hN hS (c_X12_sum l D cA ad hI σ2 τ0 hR z17 (by omega)) (cwV 1 hts gX12_now_X12_sum rfl rfl rfl (by decide +kernel) ⟨by decide, by decide⟩) (rv_M hK hP (by decide) (by decide)) rfl hl.1 rfl (Nat.le_of_ble_eq_true rfl) dX12_now_91 (Nat.zero_le _) (Nat.zero_le _) (fun r18 u18 H18 locs18 hp18 hP hS => ?_)
    obtain ⟨σ18, τ18⟩ := u18
    obtain ⟨hR, f18, fL18⟩ : P_X12_sum σ2 τ0 z17 r18 σ18 τ18 := hp18
    have hP : va_P D vwCl (gw cA ad σ18 τ18) H18 := hP
    obtain rfl := FrL.nil fL18
    obtain rfl := Fr.nil f18
    exact r_iret hx hb hr hK hP hS hk dX12_now_94 (show P_X12_now σ0 τ0 a1 r18 σ2 τ0 from ⟨hR, hF, hFL⟩)
  by_cases c19 : a1.toInt = 6
  · refine lv_tableIn (off := 89) (tgt := 95) hx hb dX12_now_6 (by omega) (by omega) (by rw [c19]; rfl) (by decide) ?_
    refine lv_aload_n hx hb dX12_now_95 rfl (lv_at hl 0 rfl) ?_
    refine r_sipush hx hb dX12_now_96 (by decide) (fun z20 ez20 => ?_)
    refine r_cVi (k := 387) (As := [.int z20]) (rest := []) ⟨hx, hb, hml, hown, hts⟩ hK hP hN hS (c_X12_sum l D cA ad hI σ2 τ0 hR z20 (by omega)) (cwV 1 hts gX12_now_X12_sum rfl rfl rfl (by decide +kernel) ⟨by decide, by decide⟩) (rv_M hK hP (by decide) (by decide)) rfl hl.1 rfl (Nat.le_of_ble_eq_true rfl) dX12_now_99 (Nat.zero_le _) (Nat.zero_le _) (fun r21 u21 H21 locs21 hp21 hP hS => ?_)
    obtain ⟨σ21, τ21⟩ := u21
    obtain ⟨hR, f21, fL21⟩ : P_X12_sum σ2 τ0 z20 r21 σ21 τ21 := hp21
    have hP : va_P D vwCl (gw cA ad σ21 τ21) H21 := hP
    obtain rfl := FrL.nil fL21
    obtain rfl := Fr.nil f21
    exact r_iret hx hb hr hK hP hS hk dX12_now_102 (show P_X12_now σ0 τ0 a1 r21 σ2 τ0 from ⟨hR, hF, hFL⟩)
  refine lv_tableOut (tgt := 103) hx hb dX12_now_6 (by omega) (by decide) ?_
  refine r_iconst hx hb dX12_now_103 (by decide) (fun z22 ez22 => ?_)
  exact r_iret hx hb hr hK hP hS hk dX12_now_104 (show P_X12_now σ0 τ0 a1 z22 σ2 τ0 from ⟨hR, hF, hFL⟩)
theorem in_X12_keep_12 : ∀ w ∈ u_ws RX12 TX12 47, w ∈ wsX12_keep := by decide +kernel
theorem lk_X12_keep_256 : Cond.fieldLink RX12 256 "CuckooSharesModel" "undoMany" "I" ∈ wsX12_keep := by decide +kernel
theorem lk_X12_keep_33 : Cond.fieldLink RX12 33 "CuckooSharesModel" "s" "[I" ∈ wsX12_keep := by decide +kernel
theorem lk_X12_keep_62 : Cond.fieldLink RX12 62 "CuckooSharesModel" "undone" "[I" ∈ wsX12_keep := by decide +kernel
abbrev L_X12_keep : List Rc := [(387, 387, 29, 29), (398, 398, 0, 279)]
abbrev LL_X12_keep : List Rc := []
def P_X12_keep (σ0 : Nat → Nat → Int32) (τ0 : Nat → Nat → Int64)  (σ : Nat → Nat → Int32) (τ : Nat → Nat → Int64) : Prop := Rg σ ∧ Fr L_X12_keep σ0 σ ∧ FrL LL_X12_keep τ0 τ ∧ (1 ≤ (σ 387 29).toInt)
def J_X12_keep_11 (p : Program) (l : Launch) (e : Env) (s : State) (m : MethodId) (args : Array Value) (below : List Frame) (meth : Method) (c : Code) (D : va_G) (cA : Nat → ClassId) (ad : Nat → Nat) (σ0 : Nat → Nat → Int32) (τ0 : Nat → Nat → Int64)  (n : Nat) : Prop := ∀ (σ : Nat → Nat → Int32) (τ : Nat → Nat → Int64) (H : Heap) (locs : List Loc) (x1 : Int32) (ls : Array Slot), Rg σ → Fr L_X12_keep σ0 σ → FrL LL_X12_keep τ0 τ → va_P D vwCl (gw cA ad σ τ) H → va_S (AA ad) s.heap H locs → (0 ≤ x1.toInt ∧ x1.toInt ≤ 255) → (8 ≤ (σ 387 29).toInt ∧ (σ 387 29).toInt ≤ 8) → lv_has ls 2 [(0, .ref (ad 387)), (1, .int x1)] → 83 * (255 - x1.toInt) + 82 < (n : Int) → W p l e ({ frames := 0, cells := 0, slots := 0, locals := 0 } : Room) s m args below meth c H locs 0 0 (MQ below (va_Qv (fun u : SS => P_X12_keep σ0 τ0 u.1 u.2) (WB D cA ad) (AA ad)) args s 0 0 (AA ad)) (F0 m 11 ls [])
def J_X12_keep_47 (p : Program) (l : Launch) (e : Env) (s : State) (m : MethodId) (args : Array Value) (below : List Frame) (meth : Method) (c : Code) (D : va_G) (cA : Nat → ClassId) (ad : Nat → Nat) (σ0 : Nat → Nat → Int32) (τ0 : Nat → Nat → Int64)  (n : Nat) : Prop := ∀ (σ : Nat → Nat → Int32) (τ : Nat → Nat → Int64) (H : Heap) (locs : List Loc) (x1 : Int32) (ls : Array Slot), Rg σ → Fr L_X12_keep σ0 σ → FrL LL_X12_keep τ0 τ → va_P D vwCl (gw cA ad σ τ) H → va_S (AA ad) s.heap H locs → (0 ≤ x1.toInt ∧ x1.toInt ≤ 39) → (0 ≤ (σ 387 29).toInt ∧ (σ 387 29).toInt ≤ 7) → lv_has ls 2 [(0, .ref (ad 387)), (1, .int x1)] → 2 * (39 - x1.toInt) + 1 < (n : Int) → W p l e ({ frames := 0, cells := 0, slots := 0, locals := 0 } : Room) s m args below meth c H locs 0 0 (MQ below (va_Qv (fun u : SS => P_X12_keep σ0 τ0 u.1 u.2) (WB D cA ad) (AA ad)) args s 0 0 (AA ad)) (F0 m 47 ls [])
set_option maxHeartbeats 4000000 in
theorem B_X12_keep_11 (p : Program) (l : Launch) (e : Env) (s : State) (m : MethodId) (args : Array Value) (below : List Frame) (meth : Method) (c : Code) (D : va_G) (cA : Nat → ClassId) (ad : Nat → Nat) (σ0 : Nat → Nat → Int32) (τ0 : Nat → Nat → Int64)  (n : Nat) (C : Cy p s m args meth c cX12_keep 2 wsX12_keep RX12 D cA ad none)  (K11 : J_X12_keep_11 p l e s m args below meth c D cA ad σ0 τ0 n) (K47 : J_X12_keep_47 p l e s m args below meth c D cA ad σ0 τ0 n) : J_X12_keep_11 p l e s m args below meth c D cA ad σ0 τ0 (n + 1) := by
  obtain ⟨hx, hb, hml, hown, hts, hK, hk, hr, hI, hN⟩ := C
  intro σ τ H locs x1 ls hR hF hFL hP hS hc0 hc1 hl hm
  obtain rfl := FrL.nil hFL
  refine lv_iload_n hx hb dX12_keep_11 rfl (lv_at hl 1 rfl) ?_
  refine r_sipush hx hb dX12_keep_12 (by decide) (fun z1 ez1 => ?_)
  refine r_icmp_ge (tgt := 39) hx hb dX12_keep_15 (by decide) (fun c2 => ?_) (fun c2 => ?_)
  · refine lv_aload_n hx hb dX12_keep_39 rfl (lv_at hl 0 rfl) ?_
    refine r_bipush hx hb dX12_keep_40 (by decide) (fun z3 ez3 => ?_)
    refine fp_12_29 (k := 387) hx hb hts in_X12_keep_12 hown hK hP (by decide) (by decide) (hts _ lk_X12_keep_256) hI hR hS (by omega) dX12_keep_42 (fun σ4 H4 locs4 u4 v4 hR hP hS => ?_)
    have hF := hF.puts u4 0 rfl (by decide) (by decide) (by decide) (by decide)
    refine r_iconst hx hb dX12_keep_45 (by decide) (fun z5 ez5 => ?_)
    refine lv_istore_n (lv' := [(1, .int z5), (0, .ref (ad 387))]) hx hb dX12_keep_46 rfl hl (by decide) rfl (fun ls hl => ?_)
    exact K47 σ4 τ0 H4 locs4 z5 ls hR hF hFL hP hS (by omega) (by omega) (lv_sub hl [1, 0] rfl) (by omega)
  · refine lv_aload_n hx hb dX12_keep_18 rfl (lv_at hl 0 rfl) ?_
    refine fg_12_27 (k := 387) hx hb hts in_X12_keep_12 hown hK hP (by decide) (by decide) (hts _ lk_X12_keep_62) dX12_keep_19 ?_
    refine lv_iload_n hx hb dX12_keep_22 rfl (lv_at hl 1 rfl) ?_
    refine lv_aload_n hx hb dX12_keep_23 rfl (lv_at hl 0 rfl) ?_
    refine fg_12_27 (k := 387) hx hb hts in_X12_keep_12 hown hK hP (by decide) (by decide) (hts _ lk_X12_keep_62) dX12_keep_24 ?_
    refine lv_iload_n hx hb dX12_keep_27 rfl (lv_at hl 1 rfl) ?_
    refine r_bipush hx hb dX12_keep_28 (by decide) (fun z6 ez6 => ?_)
    refine r_iadd hx hb dX12_keep_30 (by omega) (fun z7 ez7 => ?_)
    obtain ⟨j8, ej8⟩ : ∃ j : Nat, z7.toInt = (j : Int) := ⟨_, ti_nat (by omega)⟩
    refine ad_mundone (k := 398) (j := j8) hx hb hK hP (by decide) (by decide) ej8 (by omega) dX12_keep_31 ?_
    obtain ⟨j9, ej9⟩ : ∃ j : Nat, x1.toInt = (j : Int) := ⟨_, ti_nat (by omega)⟩
    refine as_mundone (k := 398) (j := j9) hx hb hK hP hI hR hS (by decide) (by decide) ej9 (by omega) (mc_uu hR (by omega) (by omega)) dX12_keep_32 (fun σ10 H10 locs10 u10 v10 hR hP hS => ?_)
    have hF := hF.puts u10 1 rfl (by decide) (by decide) (by omega) (by omega)
    have t11 : (σ10 387 29).toInt = (σ 387 29).toInt := congrArg Int32.toInt (u10 387 29 (by omega))
    refine r_iinc (k := 1) (lv1 := fun z12 => [(1, .int z12), (0, .ref (ad 387))]) hx hb dX12_keep_33 hl rfl (by decide) (fun _ => rfl) (by decide) (by omega) (fun z12 ls ez12 hl => ?_)
    refine lv_goto (tgt := 11) hx hb dX12_keep_36 (by decide) ?_
    exact K11 σ10 τ0 H10 locs10 z12 ls hR hF hFL hP hS (by omega) (by omega) (lv_sub hl [1, 0] rfl) (by omega)
set_option maxHeartbeats 4000000 in
theorem B_X12_keep_47 (p : Program) (l : Launch) (e : Env) (s : State) (m : MethodId) (args : Array Value) (below : List Frame) (meth : Method) (c : Code) (D : va_G) (cA : Nat → ClassId) (ad : Nat → Nat) (σ0 : Nat → Nat → Int32) (τ0 : Nat → Nat → Int64)  (n : Nat) (C : Cy p s m args meth c cX12_keep 2 wsX12_keep RX12 D cA ad none)  (K11 : J_X12_keep_11 p l e s m args below meth c D cA ad σ0 τ0 n) (K47 : J_X12_keep_47 p l e s m args below meth c D cA ad σ0 τ0 n) : J_X12_keep_47 p l e s m args below meth c D cA ad σ0 τ0 (n + 1) := by
  obtain ⟨hx, hb, hml, hown, hts, hK, hk, hr, hI, hN⟩ := C
  intro σ τ H locs x1 ls hR hF hFL hP hS hc0 hc1 hl hm
  obtain rfl := FrL.nil hFL
  refine lv_iload_n hx hb dX12_keep_47 rfl (lv_at hl 1 rfl) ?_
  refine r_bipush hx hb dX12_keep_48 (by decide) (fun z1 ez1 => ?_)
  refine r_icmp_ge (tgt := 83) hx hb dX12_keep_50 (by decide) (fun c2 => ?_) (fun c2 => ?_)
  · refine lv_aload_n hx hb dX12_keep_83 rfl (lv_at hl 0 rfl) ?_
    refine lv_dup hx hb dX12_keep_84 rfl ?_
    refine fg_12_29 (k := 387) hx hb hts in_X12_keep_12 hown hK hP (by decide) (by decide) (hts _ lk_X12_keep_256) dX12_keep_85 ?_
    refine r_iconst hx hb dX12_keep_88 (by decide) (fun z3 ez3 => ?_)
    refine r_iadd hx hb dX12_keep_89 (by omega) (fun z4 ez4 => ?_)
    refine fp_12_29 (k := 387) hx hb hts in_X12_keep_12 hown hK hP (by decide) (by decide) (hts _ lk_X12_keep_256) hI hR hS (by omega) dX12_keep_90 (fun σ5 H5 locs5 u5 v5 hR hP hS => ?_)
    have hF := hF.puts u5 0 rfl (by decide) (by decide) (by decide) (by decide)
    exact r_vret hx hb hr hK hP hS hk dX12_keep_93 (show P_X12_keep σ0 τ0 σ5 τ0 from ⟨hR, hF, hFL, by omega⟩)
  · refine lv_aload_n hx hb dX12_keep_53 rfl (lv_at hl 0 rfl) ?_
    refine fg_12_27 (k := 387) hx hb hts in_X12_keep_12 hown hK hP (by decide) (by decide) (hts _ lk_X12_keep_62) dX12_keep_54 ?_
    refine r_bipush hx hb dX12_keep_57 (by decide) (fun z6 ez6 => ?_)
    refine lv_aload_n hx hb dX12_keep_59 rfl (lv_at hl 0 rfl) ?_
    refine fg_12_29 (k := 387) hx hb hts in_X12_keep_12 hown hK hP (by decide) (by decide) (hts _ lk_X12_keep_256) dX12_keep_60 ?_
    refine r_imulL (n := 35) hx hb dX12_keep_63 (by omega) (by omega) (fun z7 ez7 => ?_)
    refine lv_iload_n hx hb dX12_keep_64 rfl (lv_at hl 1 rfl) ?_
    refine r_iadd hx hb dX12_keep_65 (by omega) (fun z8 ez8 => ?_)
    refine lv_aload_n hx hb dX12_keep_66 rfl (lv_at hl 0 rfl) ?_
    refine fg_12_6 (k := 387) hx hb hts in_X12_keep_12 hown hK hP (by decide) (by decide) (hts _ lk_X12_keep_33) dX12_keep_67 ?_
    refine r_sipush hx hb dX12_keep_70 (by decide) (fun z9 ez9 => ?_)
    refine lv_iload_n hx hb dX12_keep_73 rfl (lv_at hl 1 rfl) ?_
    refine r_iadd hx hb dX12_keep_74 (by omega) (fun z10 ez10 => ?_)
    obtain ⟨j11, ej11⟩ : ∃ j : Nat, z10.toInt = (j : Int) := ⟨_, ti_nat (by omega)⟩
    refine ad_ms (k := 389) (j := j11) hx hb hK hP (by decide) (by decide) ej11 (by omega) dX12_keep_75 ?_
    obtain ⟨j12, ej12⟩ : ∃ j : Nat, z8.toInt = (j : Int) := ⟨_, ti_nat (by omega)⟩
    refine as_mundone (k := 398) (j := j12) hx hb hK hP hI hR hS (by decide) (by decide) ej12 (by omega) (mc_us hR ((σ 387 29).toInt.toNat) (x1.toInt.toNat) (by omega) (by omega) (by omega) (by omega)) dX12_keep_76 (fun σ13 H13 locs13 u13 v13 hR hP hS => ?_)
    have hF := hF.puts u13 1 rfl (by decide) (by decide) (by omega) (by omega)
    have t14 : (σ13 387 29).toInt = (σ 387 29).toInt := congrArg Int32.toInt (u13 387 29 (by omega))
    refine r_iinc (k := 1) (lv1 := fun z15 => [(1, .int z15), (0, .ref (ad 387))]) hx hb dX12_keep_77 hl rfl (by decide) (fun _ => rfl) (by decide) (by omega) (fun z15 ls ez15 hl => ?_)
    refine lv_goto (tgt := 47) hx hb dX12_keep_80 (by decide) ?_
    exact K47 σ13 τ0 H13 locs13 z15 ls hR hF hFL hP hS (by omega) (by omega) (lv_sub hl [1, 0] rfl) (by omega)
theorem A_X12_keep (p : Program) (l : Launch) (e : Env) (s : State) (m : MethodId) (args : Array Value) (below : List Frame) (meth : Method) (c : Code) (D : va_G) (cA : Nat → ClassId) (ad : Nat → Nat) (σ0 : Nat → Nat → Int32) (τ0 : Nat → Nat → Int64)  (C : Cy p s m args meth c cX12_keep 2 wsX12_keep RX12 D cA ad none)  : ∀ n : Nat, J_X12_keep_11 p l e s m args below meth c D cA ad σ0 τ0 n ∧ J_X12_keep_47 p l e s m args below meth c D cA ad σ0 τ0 n := by
  intro n
  induction n with
  | zero =>
    exact ⟨(by intro σ τ H locs x1 ls hR hF hFL hP hS hc0 hc1 hl hm; exfalso; omega), (by intro σ τ H locs x1 ls hR hF hFL hP hS hc0 hc1 hl hm; exfalso; omega)⟩
  | succ n ih =>
    exact ⟨B_X12_keep_11 p l e s m args below meth c D cA ad σ0 τ0 n C  ih.1 ih.2, B_X12_keep_47 p l e s m args below meth c D cA ad σ0 τ0 n C  ih.1 ih.2⟩
set_option maxHeartbeats 4000000 in
theorem c_X12_keep (l : Launch) (D : va_G) (cA : Nat → ClassId) (ad : Nat → Nat) (hI : Inj ad) (σ0 : Nat → Nat → Int32) (τ0 : Nat → Nat → Int64) (hR : Rg σ0)   : Met l yX12_keep wsX12_keep ({ frames := 0, cells := 0, slots := 0, locals := 0 } : Room) (WQc D cA ad [.ref (ad 387)] σ0 τ0) (va_Qv (fun u : SS => P_X12_keep σ0 τ0 u.1 u.2) (WB D cA ad) (AA ad)) 0 0 (AA ad) := by
  refine Met.ofW (cc := cX12_keep) (maxL := 2) (ret := none) (by decide) rfl ?_
  intro p e s m args below meth c s₁ B hml hv
  obtain ⟨rfl, hP, hK, hN⟩ := hv
  have C : Cy p s m _ meth c cX12_keep 2 wsX12_keep RX12 D cA ad none := ⟨B.exec, B.bytes, hml, findClass_of_methodNamed B.named, atoms_spec (ws := wsX12_keep) B.pre, hK, B.notSynchronized, B.returns, hI, hN⟩
  have hl := lv_entry ([.ref (ad 387)]) (n := 2) (Nat.le_of_ble_eq_true rfl)
  rw [lg_entry_eq]
  generalize (lg_sl ([.ref (ad 387)]) ++ List.replicate (2 - (lg_sl ([.ref (ad 387)])).length) Slot.unset).toArray = ls at hl ⊢
  have hl : lv_has ls 2 [(0, .ref (ad 387))] := hl
  have hS : va_S (AA ad) s.heap s.heap [] := va_S.rf
  have hF : Fr L_X12_keep σ0 σ0 := Fr.rf
  have hFL : FrL LL_X12_keep τ0 τ0 := FrL.rf
  have hA := A_X12_keep p l e s m _ below meth c D cA ad σ0 τ0 C  42663
  have K11 := hA.1
  have K47 := hA.2
  clear hA
  obtain ⟨hx, hb, _, hown, hts, _, hk, hr, _, _⟩ := C
  have hrt29 := rg_12_29 hR (k := 387) (by decide) (by decide)
  refine lv_aload_n hx hb dX12_keep_0 rfl (lv_at hl 0 rfl) ?_
  refine fg_12_29 (k := 387) hx hb hts in_X12_keep_12 hown hK hP (by decide) (by decide) (hts _ lk_X12_keep_256) dX12_keep_1 ?_
  refine r_bipush hx hb dX12_keep_4 (by decide) (fun z1 ez1 => ?_)
  refine r_icmp_ne (tgt := 45) hx hb dX12_keep_6 (by decide) (fun c2 => ?_) (fun c2 => ?_)
  · refine r_iconst hx hb dX12_keep_45 (by decide) (fun z3 ez3 => ?_)
    refine lv_istore_n (lv' := [(1, .int z3), (0, .ref (ad 387))]) hx hb dX12_keep_46 rfl hl (by decide) rfl (fun ls hl => ?_)
    exact K47 σ0 τ0 s.heap [] z3 ls hR hF hFL hP hS (by omega) (by omega) (lv_sub hl [1, 0] rfl) (by omega)
  · refine r_iconst hx hb dX12_keep_9 (by decide) (fun z4 ez4 => ?_)
    refine lv_istore_n (lv' := [(1, .int z4), (0, .ref (ad 387))]) hx hb dX12_keep_10 rfl hl (by decide) rfl (fun ls hl => ?_)
    exact K11 σ0 τ0 s.heap [] z4 ls hR hF hFL hP hS (by omega) (by omega) (lv_sub hl [1, 0] rfl) (by omega)
theorem in_X12_comes_12 : ∀ w ∈ u_ws RX12 TX12 47, w ∈ wsX12_comes := by decide +kernel
theorem lk_X12_comes_1 : Cond.fieldLink RX12 1 "CuckooSharesModel" "thrown" "I" ∈ wsX12_comes := by decide +kernel
theorem lk_X12_comes_33 : Cond.fieldLink RX12 33 "CuckooSharesModel" "s" "[I" ∈ wsX12_comes := by decide +kernel
abbrev L_X12_comes : List Rc := [(387, 387, 0, 0), (387, 387, 29, 29), (398, 398, 0, 279), (389, 389, 212, 212)]
abbrev LL_X12_comes : List Rc := []
def P_X12_comes (σ0 : Nat → Nat → Int32) (τ0 : Nat → Nat → Int64) (a1 : Int32) (r : Int32) (σ : Nat → Nat → Int32) (τ : Nat → Nat → Int64) : Prop := Rg σ ∧ Fr L_X12_comes σ0 σ ∧ FrL LL_X12_comes τ0 τ ∧ (-1 ≤ r.toInt ∧ r.toInt ≤ 1)
set_option maxHeartbeats 4000000 in
theorem c_X12_comes (l : Launch) (D : va_G) (cA : Nat → ClassId) (ad : Nat → Nat) (hI : Inj ad) (σ0 : Nat → Nat → Int32) (τ0 : Nat → Nat → Int64) (hR : Rg σ0) (a1 : Int32)  : Met l yX12_comes wsX12_comes ({ frames := 2, cells := 0, slots := 0, locals := 43 } : Room) (WQc D cA ad [.ref (ad 387), .int a1] σ0 τ0) (va_Qi (fun (r : Int32) (u : SS) => P_X12_comes σ0 τ0 a1 r u.1 u.2) (WB D cA ad) (AA ad)) 0 0 (AA ad) := by
  refine Met.ofW (cc := cX12_comes) (maxL := 2) (ret := (some .int)) (by decide) rfl ?_
  intro p e s m args below meth c s₁ B hml hv
  obtain ⟨rfl, hP, hK, hN⟩ := hv
  have C : Cy p s m _ meth c cX12_comes 2 wsX12_comes RX12 D cA ad (some .int) := ⟨B.exec, B.bytes, hml, findClass_of_methodNamed B.named, atoms_spec (ws := wsX12_comes) B.pre, hK, B.notSynchronized, B.returns, hI, hN⟩
  have hl := lv_entry ([.ref (ad 387), .int a1]) (n := 2) (Nat.le_of_ble_eq_true rfl)
  rw [lg_entry_eq]
  generalize (lg_sl ([.ref (ad 387), .int a1]) ++ List.replicate (2 - (lg_sl ([.ref (ad 387), .int a1])).length) Slot.unset).toArray = ls at hl ⊢
  have hl : lv_has ls 2 [(0, .ref (ad 387)), (1, .int a1)] := hl
  have hS : va_S (AA ad) s.heap s.heap [] := va_S.rf
  have hF : Fr L_X12_comes σ0 σ0 := Fr.rf
  have hFL : FrL LL_X12_comes τ0 τ0 := FrL.rf
  obtain ⟨hx, hb, _, hown, hts, _, hk, hr, _, _⟩ := C
  refine lv_aload_n hx hb dX12_comes_0 rfl (lv_at hl 0 rfl) ?_
  refine r_iconst hx hb dX12_comes_1 (by decide) (fun z1 ez1 => ?_)
  refine fp_12_0 (k := 387) hx hb hts in_X12_comes_12 hown hK hP (by decide) (by decide) (hts _ lk_X12_comes_1) hI hR hS (by omega) dX12_comes_2 (fun σ2 H2 locs2 u2 v2 hR hP hS => ?_)
  have hF := hF.puts u2 0 rfl (by decide) (by decide) (by decide) (by decide)
  refine lv_aload_n hx hb dX12_comes_5 rfl (lv_at hl 0 rfl) ?_
  refine lv_iload_n hx hb dX12_comes_6 rfl (lv_at hl 1 rfl) ?_
  refine r_cVi (k := 387) (As := [.int a1]) (rest := []) ⟨hx, hb, hml, hown, hts⟩ hK hP hN hS (c_X12_isFlight l D cA ad hI σ2 τ0 hR a1) (cwV 1 hts gX12_comes_X12_isFlight rfl rfl rfl (by decide +kernel) ⟨by decide, by decide⟩) (rv_M hK hP (by decide) (by decide)) rfl hl.1 rfl (Nat.le_of_ble_eq_true rfl) dX12_comes_7 (Nat.zero_le _) (Nat.zero_le _) (fun r3 u3 H3 locs3 hp3 hP hS => ?_)
  obtain ⟨σ3, τ3⟩ := u3
  obtain ⟨hR, f3, fL3, hq3, hp3_0⟩ : P_X12_isFlight σ2 τ0 a1 r3 σ3 τ3 := hp3
  have hP : va_P D vwCl (gw cA ad σ3 τ3) H3 := hP
  obtain rfl := FrL.nil fL3
  obtain rfl := Fr.nil f3
  refine r_if_ne (tgt := 15) hx hb dX12_comes_10 (by decide) (fun c4 => ?_) (fun c4 => ?_)
  · replace hp3_0 := hp3_0.resolve_left (by omega)
    refine lv_aload_n hx hb dX12_comes_15 rfl (lv_at hl 0 rfl) ?_
    refine fg_12_6 (k := 387) hx hb hts in_X12_comes_12 hown hK hP (by decide) (by decide) (hts _ lk_X12_comes_33) dX12_comes_16 ?_
    refine r_sipush hx hb dX12_comes_19 (by decide) (fun z5 ez5 => ?_)
    refine ad_ms (k := 389) (j := 212) hx hb hK hP (by decide) (by decide) (by omega) (by omega) dX12_comes_22 ?_
    have hr6 := ra_ms_5 hR (k := 389) (j := 212) (by decide) (by decide) (by decide) (by decide)
    refine r_if_le (tgt := 28) hx hb dX12_comes_23 (by decide) (fun c7 => ?_) (fun c7 => ?_)
    · refine lv_aload_n hx hb dX12_comes_28 rfl (lv_at hl 0 rfl) ?_
      refine r_cVv (k := 387) (As := []) (rest := []) ⟨hx, hb, hml, hown, hts⟩ hK hP hN hS (c_X12_keep l D cA ad hI σ2 τ0 hR) (cwV 0 hts gX12_comes_X12_keep rfl rfl rfl (by decide +kernel) ⟨by decide, by decide⟩) (rv_M hK hP (by decide) (by decide)) rfl hl.1 rfl (Nat.le_of_ble_eq_true rfl) dX12_comes_29 (Nat.zero_le _) (Nat.zero_le _) (fun u8 H8 locs8 hp8 hP hS => ?_)
      obtain ⟨σ8, τ8⟩ := u8
      obtain ⟨hR, f8, fL8, hp8_0⟩ : P_X12_keep σ2 τ0 σ8 τ8 := hp8
      have hP : va_P D vwCl (gw cA ad σ8 τ8) H8 := hP
      obtain rfl := FrL.nil fL8
      have hF := hF.step f8 (by decide)
      refine lv_aload_n hx hb dX12_comes_32 rfl (lv_at hl 0 rfl) ?_
      refine fg_12_6 (k := 387) hx hb hts in_X12_comes_12 hown hK hP (by decide) (by decide) (hts _ lk_X12_comes_33) dX12_comes_33 ?_
      refine r_sipush hx hb dX12_comes_36 (by decide) (fun z9 ez9 => ?_)
      refine lv_iload_n hx hb dX12_comes_39 rfl (lv_at hl 1 rfl) ?_
      refine r_iconst hx hb dX12_comes_40 (by decide) (fun z10 ez10 => ?_)
      refine r_iadd hx hb dX12_comes_41 (by omega) (fun z11 ez11 => ?_)
      refine as_ms (k := 389) (j := 212) hx hb hK hP hI hR hS (by decide) (by decide) (by omega) (by omega) (rw_ms_5 (by decide) (by decide) (by decide) (by decide) (by omega)) dX12_comes_42 (fun σ12 H12 locs12 u12 v12 hR hP hS => ?_)
      have hF := hF.puts u12 3 rfl (by decide) (by decide) (by decide) (by decide)
      have t13 : (σ12 387 29).toInt = (σ8 387 29).toInt := congrArg Int32.toInt (u12 387 29 (by omega))
      refine r_iconst hx hb dX12_comes_43 (by decide) (fun z14 ez14 => ?_)
      exact r_iret hx hb hr hK hP hS hk dX12_comes_44 (show P_X12_comes σ0 τ0 a1 z14 σ12 τ0 from ⟨hR, hF, hFL, by omega⟩)
    · refine r_iconst hx hb dX12_comes_26 (by decide) (fun z15 ez15 => ?_)
      exact r_iret hx hb hr hK hP hS hk dX12_comes_27 (show P_X12_comes σ0 τ0 a1 z15 σ2 τ0 from ⟨hR, hF, hFL, by omega⟩)
  · clear hp3_0
    refine r_iconst hx hb dX12_comes_13 (by decide) (fun z16 ez16 => ?_)
    exact r_iret hx hb hr hK hP hS hk dX12_comes_14 (show P_X12_comes σ0 τ0 a1 z16 σ2 τ0 from ⟨hR, hF, hFL, by omega⟩)
abbrev L_X12_lesser : List Rc := []
abbrev LL_X12_lesser : List Rc := []
def P_X12_lesser (σ0 : Nat → Nat → Int32) (τ0 : Nat → Nat → Int64) (a0 : Int32) (a1 : Int32) (r : Int32) (σ : Nat → Nat → Int32) (τ : Nat → Nat → Int64) : Prop := Rg σ ∧ Fr L_X12_lesser σ0 σ ∧ FrL LL_X12_lesser τ0 τ ∧ (r.toInt ≤ 99)
set_option maxHeartbeats 4000000 in
theorem c_X12_lesser (l : Launch) (D : va_G) (cA : Nat → ClassId) (ad : Nat → Nat) (hI : Inj ad) (σ0 : Nat → Nat → Int32) (τ0 : Nat → Nat → Int64) (hR : Rg σ0) (a0 : Int32) (a1 : Int32) (ha0 : 99 ≤ a0.toInt ∧ a0.toInt ≤ 99) : Met l yX12_lesser wsX12_lesser ({ frames := 0, cells := 0, slots := 0, locals := 0 } : Room) (WQc D cA ad [.int a0, .int a1] σ0 τ0) (va_Qi (fun (r : Int32) (u : SS) => P_X12_lesser σ0 τ0 a0 a1 r u.1 u.2) (WB D cA ad) (AA ad)) 0 0 (AA ad) := by
  refine Met.ofW (cc := cX12_lesser) (maxL := 2) (ret := (some .int)) (by decide) rfl ?_
  intro p e s m args below meth c s₁ B hml hv
  obtain ⟨rfl, hP, hK, hN⟩ := hv
  have C : Cy p s m _ meth c cX12_lesser 2 wsX12_lesser RX12 D cA ad (some .int) := ⟨B.exec, B.bytes, hml, findClass_of_methodNamed B.named, atoms_spec (ws := wsX12_lesser) B.pre, hK, B.notSynchronized, B.returns, hI, hN⟩
  have hl := lv_entry ([.int a0, .int a1]) (n := 2) (Nat.le_of_ble_eq_true rfl)
  rw [lg_entry_eq]
  generalize (lg_sl ([.int a0, .int a1]) ++ List.replicate (2 - (lg_sl ([.int a0, .int a1])).length) Slot.unset).toArray = ls at hl ⊢
  have hl : lv_has ls 2 [(0, .int a0), (1, .int a1)] := hl
  have hS : va_S (AA ad) s.heap s.heap [] := va_S.rf
  have hF : Fr L_X12_lesser σ0 σ0 := Fr.rf
  have hFL : FrL LL_X12_lesser τ0 τ0 := FrL.rf
  obtain ⟨hx, hb, _, hown, hts, _, hk, hr, _, _⟩ := C
  refine lv_iload_n hx hb dX12_lesser_0 rfl (lv_at hl 0 rfl) ?_
  refine lv_iload_n hx hb dX12_lesser_1 rfl (lv_at hl 1 rfl) ?_
  refine r_icmp_ge (tgt := 9) hx hb dX12_lesser_2 (by decide) (fun c1 => ?_) (fun c1 => ?_)
  · refine lv_iload_n hx hb dX12_lesser_9 rfl (lv_at hl 1 rfl) ?_
    exact r_iret hx hb hr hK hP hS hk dX12_lesser_10 (show P_X12_lesser σ0 τ0 a0 a1 a1 σ0 τ0 from ⟨hR, hF, hFL, by omega⟩)
  · refine lv_iload_n hx hb dX12_lesser_5 rfl (lv_at hl 0 rfl) ?_
    refine lv_goto (tgt := 10) hx hb dX12_lesser_6 (by decide) ?_
    exact r_iret hx hb hr hK hP hS hk dX12_lesser_10 (show P_X12_lesser σ0 τ0 a0 a1 a0 σ0 τ0 from ⟨hR, hF, hFL, by omega⟩)
theorem in_X12_hours_12 : ∀ w ∈ u_ws RX12 TX12 47, w ∈ wsX12_hours := by decide +kernel
theorem lk_X12_hours_1 : Cond.fieldLink RX12 1 "CuckooSharesModel" "thrown" "I" ∈ wsX12_hours := by decide +kernel
theorem lk_X12_hours_33 : Cond.fieldLink RX12 33 "CuckooSharesModel" "s" "[I" ∈ wsX12_hours := by decide +kernel
abbrev L_X12_hours : List Rc := [(387, 387, 0, 0), (387, 387, 29, 29), (398, 398, 0, 279), (389, 389, 213, 213)]
abbrev LL_X12_hours : List Rc := []
def P_X12_hours (σ0 : Nat → Nat → Int32) (τ0 : Nat → Nat → Int64) (a1 : Int32) (r : Int32) (σ : Nat → Nat → Int32) (τ : Nat → Nat → Int64) : Prop := Rg σ ∧ Fr L_X12_hours σ0 σ ∧ FrL LL_X12_hours τ0 τ ∧ (r.toInt ≤ 99)
set_option maxHeartbeats 4000000 in
theorem c_X12_hours (l : Launch) (D : va_G) (cA : Nat → ClassId) (ad : Nat → Nat) (hI : Inj ad) (σ0 : Nat → Nat → Int32) (τ0 : Nat → Nat → Int64) (hR : Rg σ0) (a1 : Int32)  : Met l yX12_hours wsX12_hours ({ frames := 1, cells := 0, slots := 0, locals := 22 } : Room) (WQc D cA ad [.ref (ad 387), .int a1] σ0 τ0) (va_Qi (fun (r : Int32) (u : SS) => P_X12_hours σ0 τ0 a1 r u.1 u.2) (WB D cA ad) (AA ad)) 0 0 (AA ad) := by
  refine Met.ofW (cc := cX12_hours) (maxL := 2) (ret := (some .int)) (by decide) rfl ?_
  intro p e s m args below meth c s₁ B hml hv
  obtain ⟨rfl, hP, hK, hN⟩ := hv
  have C : Cy p s m _ meth c cX12_hours 2 wsX12_hours RX12 D cA ad (some .int) := ⟨B.exec, B.bytes, hml, findClass_of_methodNamed B.named, atoms_spec (ws := wsX12_hours) B.pre, hK, B.notSynchronized, B.returns, hI, hN⟩
  have hl := lv_entry ([.ref (ad 387), .int a1]) (n := 2) (Nat.le_of_ble_eq_true rfl)
  rw [lg_entry_eq]
  generalize (lg_sl ([.ref (ad 387), .int a1]) ++ List.replicate (2 - (lg_sl ([.ref (ad 387), .int a1])).length) Slot.unset).toArray = ls at hl ⊢
  have hl : lv_has ls 2 [(0, .ref (ad 387)), (1, .int a1)] := hl
  have hS : va_S (AA ad) s.heap s.heap [] := va_S.rf
  have hF : Fr L_X12_hours σ0 σ0 := Fr.rf
  have hFL : FrL LL_X12_hours τ0 τ0 := FrL.rf
  obtain ⟨hx, hb, _, hown, hts, _, hk, hr, _, _⟩ := C
  refine lv_aload_n hx hb dX12_hours_0 rfl (lv_at hl 0 rfl) ?_
  refine r_iconst hx hb dX12_hours_1 (by decide) (fun z1 ez1 => ?_)
  refine fp_12_0 (k := 387) hx hb hts in_X12_hours_12 hown hK hP (by decide) (by decide) (hts _ lk_X12_hours_1) hI hR hS (by omega) dX12_hours_2 (fun σ2 H2 locs2 u2 v2 hR hP hS => ?_)
  have hF := hF.puts u2 0 rfl (by decide) (by decide) (by decide) (by decide)
  refine lv_iload_n hx hb dX12_hours_5 rfl (lv_at hl 1 rfl) ?_
  refine r_iconst hx hb dX12_hours_6 (by decide) (fun z3 ez3 => ?_)
  refine r_bipush hx hb dX12_hours_7 (by decide) (fun z4 ez4 => ?_)
  refine r_cSi (As := [.int a1, .int z3, .int z4]) (rest := []) ⟨hx, hb, hml, hown, hts⟩ hK hP hN hS (c_X12_isIn l D cA ad hI σ2 τ0 hR a1 z3 z4) (va_cwS 3 hts gX12_hours_X12_isIn rfl rfl rfl (by decide +kernel) ⟨by decide, by decide⟩) rfl hl.1 rfl (Nat.le_of_ble_eq_true rfl) dX12_hours_9 (Nat.zero_le _) (Nat.zero_le _) (fun r5 u5 H5 locs5 hp5 hP hS => ?_)
  obtain ⟨σ5, τ5⟩ := u5
  obtain ⟨hR, f5, fL5, hq5, hp5_0, hp5_1⟩ : P_X12_isIn σ2 τ0 a1 z3 z4 r5 σ5 τ5 := hp5
  have hP : va_P D vwCl (gw cA ad σ5 τ5) H5 := hP
  obtain rfl := FrL.nil fL5
  obtain rfl := Fr.nil f5
  refine r_if_ne (tgt := 17) hx hb dX12_hours_12 (by decide) (fun c6 => ?_) (fun c6 => ?_)
  · replace hp5_0 := hp5_0.resolve_left (by omega)
    refine lv_aload_n hx hb dX12_hours_17 rfl (lv_at hl 0 rfl) ?_
    refine r_cVv (k := 387) (As := []) (rest := []) ⟨hx, hb, hml, hown, hts⟩ hK hP hN hS (c_X12_keep l D cA ad hI σ2 τ0 hR) (cwV 0 hts gX12_hours_X12_keep rfl rfl rfl (by decide +kernel) ⟨by decide, by decide⟩) (rv_M hK hP (by decide) (by decide)) rfl hl.1 rfl (Nat.le_of_ble_eq_true rfl) dX12_hours_18 (Nat.zero_le _) (Nat.zero_le _) (fun u7 H7 locs7 hp7 hP hS => ?_)
    obtain ⟨σ7, τ7⟩ := u7
    obtain ⟨hR, f7, fL7, hp7_0⟩ : P_X12_keep σ2 τ0 σ7 τ7 := hp7
    have hP : va_P D vwCl (gw cA ad σ7 τ7) H7 := hP
    obtain rfl := FrL.nil fL7
    have hF := hF.step f7 (by decide)
    refine lv_aload_n hx hb dX12_hours_21 rfl (lv_at hl 0 rfl) ?_
    refine fg_12_6 (k := 387) hx hb hts in_X12_hours_12 hown hK hP (by decide) (by decide) (hts _ lk_X12_hours_33) dX12_hours_22 ?_
    refine r_sipush hx hb dX12_hours_25 (by decide) (fun z8 ez8 => ?_)
    refine r_bipush hx hb dX12_hours_28 (by decide) (fun z9 ez9 => ?_)
    refine lv_aload_n hx hb dX12_hours_30 rfl (lv_at hl 0 rfl) ?_
    refine fg_12_6 (k := 387) hx hb hts in_X12_hours_12 hown hK hP (by decide) (by decide) (hts _ lk_X12_hours_33) dX12_hours_31 ?_
    refine r_sipush hx hb dX12_hours_34 (by decide) (fun z10 ez10 => ?_)
    refine ad_ms (k := 389) (j := 213) hx hb hK hP (by decide) (by decide) (by omega) (by omega) dX12_hours_37 ?_
    refine lv_iload_n hx hb dX12_hours_38 rfl (lv_at hl 1 rfl) ?_
    refine r_iaddU hx hb dX12_hours_39 (fun z11 => ?_)
    refine r_cSi (As := [.int z9, .int z11]) (rest := [.int z8, .ref (ad 389)]) ⟨hx, hb, hml, hown, hts⟩ hK hP hN hS (c_X12_lesser l D cA ad hI σ7 τ0 hR z9 z11 (by omega)) (va_cwS 2 hts gX12_hours_X12_lesser rfl rfl rfl (by decide +kernel) ⟨by decide, by decide⟩) rfl hl.1 rfl (Nat.le_of_ble_eq_true rfl) dX12_hours_40 (Nat.zero_le _) (Nat.zero_le _) (fun r12 u12 H12 locs12 hp12 hP hS => ?_)
    obtain ⟨σ12, τ12⟩ := u12
    obtain ⟨hR, f12, fL12, hq12⟩ : P_X12_lesser σ7 τ0 z9 z11 r12 σ12 τ12 := hp12
    have hP : va_P D vwCl (gw cA ad σ12 τ12) H12 := hP
    obtain rfl := FrL.nil fL12
    obtain rfl := Fr.nil f12
    refine as_ms (k := 389) (j := 213) hx hb hK hP hI hR hS (by decide) (by decide) (by omega) (by omega) (rx_ms_213 (by decide) (by decide) (by decide) (by decide)) dX12_hours_43 (fun σ13 H13 locs13 u13 v13 hR hP hS => ?_)
    have hF := hF.puts u13 3 rfl (by decide) (by decide) (by decide) (by decide)
    have t14 : (σ13 387 29).toInt = (σ7 387 29).toInt := congrArg Int32.toInt (u13 387 29 (by omega))
    refine lv_aload_n hx hb dX12_hours_44 rfl (lv_at hl 0 rfl) ?_
    refine fg_12_6 (k := 387) hx hb hts in_X12_hours_12 hown hK hP (by decide) (by decide) (hts _ lk_X12_hours_33) dX12_hours_45 ?_
    refine r_sipush hx hb dX12_hours_48 (by decide) (fun z15 ez15 => ?_)
    refine ad_ms (k := 389) (j := 213) hx hb hK hP (by decide) (by decide) (by omega) (by omega) dX12_hours_51 ?_
    exact r_iret hx hb hr hK hP hS hk dX12_hours_52 (show P_X12_hours σ0 τ0 a1 (σ13 389 213) σ13 τ0 from ⟨hR, hF, hFL, by omega⟩)
  · clear hp5_0
    refine r_iconst hx hb dX12_hours_15 (by decide) (fun z16 ez16 => ?_)
    exact r_iret hx hb hr hK hP hS hk dX12_hours_16 (show P_X12_hours σ0 τ0 a1 z16 σ2 τ0 from ⟨hR, hF, hFL, by omega⟩)
