theorem in_X12_isMan_12 : ∀ w ∈ u_ws RX12 TX12 47, w ∈ wsX12_isMan := by decide +kernel
theorem lk_X12_isMan_33 : Cond.fieldLink RX12 33 "CuckooSharesModel" "s" "[I" ∈ wsX12_isMan := by decide +kernel
abbrev L_X12_isMan : List Rc := []
abbrev LL_X12_isMan : List Rc := []
def P_X12_isMan (σ0 : Nat → Nat → Int32) (τ0 : Nat → Nat → Int64) (a1 : Int32) (r : Int32) (σ : Nat → Nat → Int32) (τ : Nat → Nat → Int64) : Prop := Rg σ ∧ Fr L_X12_isMan σ0 σ ∧ FrL LL_X12_isMan τ0 τ ∧ (0 ≤ r.toInt ∧ r.toInt ≤ 1) ∧ (r.toInt = 0 ∨ (r.toInt = 1 ∧ 0 ≤ a1.toInt ∧ a1.toInt ≤ 7))
set_option maxHeartbeats 4000000 in
theorem c_X12_isMan (l : Launch) (D : va_G) (cA : Nat → ClassId) (ad : Nat → Nat) (hI : Inj ad) (σ0 : Nat → Nat → Int32) (τ0 : Nat → Nat → Int64) (hR : Rg σ0) (a1 : Int32)  : Met l yX12_isMan wsX12_isMan ({ frames := 1, cells := 0, slots := 0, locals := 22 } : Room) (WQc D cA ad [.ref (ad 387), .int a1] σ0 τ0) (va_Qi (fun (r : Int32) (u : SS) => P_X12_isMan σ0 τ0 a1 r u.1 u.2) (WB D cA ad) (AA ad)) 0 0 (AA ad) := by
  refine Met.ofW (cc := cX12_isMan) (maxL := 2) (ret := (some .boolean)) (by decide) rfl ?_
  intro p e s m args below meth c s₁ B hml hv
  obtain ⟨rfl, hP, hK, hN⟩ := hv
  have C : Cy p s m _ meth c cX12_isMan 2 wsX12_isMan RX12 D cA ad (some .boolean) := ⟨B.exec, B.bytes, hml, findClass_of_methodNamed B.named, atoms_spec (ws := wsX12_isMan) B.pre, hK, B.notSynchronized, B.returns, hI, hN⟩
  have hl := lv_entry ([.ref (ad 387), .int a1]) (n := 2) (Nat.le_of_ble_eq_true rfl)
  rw [lg_entry_eq]
  generalize (lg_sl ([.ref (ad 387), .int a1]) ++ List.replicate (2 - (lg_sl ([.ref (ad 387), .int a1])).length) Slot.unset).toArray = ls at hl ⊢
  have hl : lv_has ls 2 [(0, .ref (ad 387)), (1, .int a1)] := hl
  have hS : va_S (AA ad) s.heap s.heap [] := va_S.rf
  have hF : Fr L_X12_isMan σ0 σ0 := Fr.rf
  have hFL : FrL LL_X12_isMan τ0 τ0 := FrL.rf
  obtain ⟨hx, hb, _, hown, hts, _, hk, hr, _, _⟩ := C
  refine lv_iload_n hx hb dX12_isMan_0 rfl (lv_at hl 1 rfl) ?_
  refine r_iconst hx hb dX12_isMan_1 (by decide) (fun z1 ez1 => ?_)
  refine lv_aload_n hx hb dX12_isMan_2 rfl (lv_at hl 0 rfl) ?_
  refine fg_12_6 (k := 387) hx hb hts in_X12_isMan_12 hown hK hP (by decide) (by decide) (hts _ lk_X12_isMan_33) dX12_isMan_3 ?_
  refine r_iconst hx hb dX12_isMan_6 (by decide) (fun z2 ez2 => ?_)
  refine ad_ms (k := 389) (j := 1) hx hb hK hP (by decide) (by decide) (by omega) (by omega) dX12_isMan_7 ?_
  have hr3 := ra_ms_0 hR (k := 389) (j := 1) (by decide) (by decide) (by decide) (by decide)
  refine r_iconst hx hb dX12_isMan_8 (by decide) (fun z4 ez4 => ?_)
  refine r_isub hx hb dX12_isMan_9 (by omega) (fun z5 ez5 => ?_)
  refine r_cSi (As := [.int a1, .int z1, .int z5]) (rest := []) ⟨hx, hb, hml, hown, hts⟩ hK hP hN hS (c_X12_isIn l D cA ad hI σ0 τ0 hR a1 z1 z5) (va_cwS 3 hts gX12_isMan_X12_isIn rfl rfl rfl (by decide +kernel) ⟨by decide, by decide⟩) rfl hl.1 rfl (Nat.le_of_ble_eq_true rfl) dX12_isMan_10 (Nat.zero_le _) (Nat.zero_le _) (fun r6 u6 H6 locs6 hp6 hP hS => ?_)
  obtain ⟨σ6, τ6⟩ := u6
  obtain ⟨hR, f6, fL6, hq6, hp6_0, hp6_1⟩ : P_X12_isIn σ0 τ0 a1 z1 z5 r6 σ6 τ6 := hp6
  have hP : va_P D vwCl (gw cA ad σ6 τ6) H6 := hP
  obtain rfl := FrL.nil fL6
  obtain rfl := Fr.nil f6
  exact r_zret hx hb hr hK hP hS hk (by omega) dX12_isMan_13 (show P_X12_isMan σ0 τ0 a1 r6 σ0 τ0 from ⟨hR, hF, hFL, by omega, by omega⟩)
theorem in_X12_throwsIf_12 : ∀ w ∈ u_ws RX12 TX12 47, w ∈ wsX12_throwsIf := by decide +kernel
theorem lk_X12_throwsIf_1 : Cond.fieldLink RX12 1 "CuckooSharesModel" "thrown" "I" ∈ wsX12_throwsIf := by decide +kernel
abbrev L_X12_throwsIf : List Rc := [(387, 387, 0, 0)]
abbrev LL_X12_throwsIf : List Rc := []
def P_X12_throwsIf (σ0 : Nat → Nat → Int32) (τ0 : Nat → Nat → Int64) (a1 : Int32) (r : Int32) (σ : Nat → Nat → Int32) (τ : Nat → Nat → Int64) : Prop := Rg σ ∧ Fr L_X12_throwsIf σ0 σ ∧ FrL LL_X12_throwsIf τ0 τ ∧ (0 ≤ r.toInt ∧ r.toInt ≤ 1) ∧ (r.toInt = a1.toInt)
set_option maxHeartbeats 4000000 in
theorem c_X12_throwsIf (l : Launch) (D : va_G) (cA : Nat → ClassId) (ad : Nat → Nat) (hI : Inj ad) (σ0 : Nat → Nat → Int32) (τ0 : Nat → Nat → Int64) (hR : Rg σ0) (a1 : Int32) (ha1 : 0 ≤ a1.toInt ∧ a1.toInt ≤ 1) : Met l yX12_throwsIf wsX12_throwsIf ({ frames := 0, cells := 0, slots := 0, locals := 0 } : Room) (WQc D cA ad [.ref (ad 387), .int a1] σ0 τ0) (va_Qi (fun (r : Int32) (u : SS) => P_X12_throwsIf σ0 τ0 a1 r u.1 u.2) (WB D cA ad) (AA ad)) 0 0 (AA ad) := by
  refine Met.ofW (cc := cX12_throwsIf) (maxL := 2) (ret := (some .boolean)) (by decide) rfl ?_
  intro p e s m args below meth c s₁ B hml hv
  obtain ⟨rfl, hP, hK, hN⟩ := hv
  have C : Cy p s m _ meth c cX12_throwsIf 2 wsX12_throwsIf RX12 D cA ad (some .boolean) := ⟨B.exec, B.bytes, hml, findClass_of_methodNamed B.named, atoms_spec (ws := wsX12_throwsIf) B.pre, hK, B.notSynchronized, B.returns, hI, hN⟩
  have hl := lv_entry ([.ref (ad 387), .int a1]) (n := 2) (Nat.le_of_ble_eq_true rfl)
  rw [lg_entry_eq]
  generalize (lg_sl ([.ref (ad 387), .int a1]) ++ List.replicate (2 - (lg_sl ([.ref (ad 387), .int a1])).length) Slot.unset).toArray = ls at hl ⊢
  have hl : lv_has ls 2 [(0, .ref (ad 387)), (1, .int a1)] := hl
  have hS : va_S (AA ad) s.heap s.heap [] := va_S.rf
  have hF : Fr L_X12_throwsIf σ0 σ0 := Fr.rf
  have hFL : FrL LL_X12_throwsIf τ0 τ0 := FrL.rf
  obtain ⟨hx, hb, _, hown, hts, _, hk, hr, _, _⟩ := C
  refine lv_aload_n hx hb dX12_throwsIf_0 rfl (lv_at hl 0 rfl) ?_
  refine lv_iload_n hx hb dX12_throwsIf_1 rfl (lv_at hl 1 rfl) ?_
  refine r_if_eq (tgt := 9) hx hb dX12_throwsIf_2 (by decide) (fun c1 => ?_) (fun c1 => ?_)
  · refine r_iconst hx hb dX12_throwsIf_9 (by decide) (fun z2 ez2 => ?_)
    refine fp_12_0 (k := 387) hx hb hts in_X12_throwsIf_12 hown hK hP (by decide) (by decide) (hts _ lk_X12_throwsIf_1) hI hR hS (by omega) dX12_throwsIf_10 (fun σ3 H3 locs3 u3 v3 hR hP hS => ?_)
    have hF := hF.puts u3 0 rfl (by decide) (by decide) (by decide) (by decide)
    refine lv_iload_n hx hb dX12_throwsIf_13 rfl (lv_at hl 1 rfl) ?_
    exact r_zret hx hb hr hK hP hS hk (by omega) dX12_throwsIf_14 (show P_X12_throwsIf σ0 τ0 a1 a1 σ3 τ0 from ⟨hR, hF, hFL, by omega, by omega⟩)
  · refine r_iconst hx hb dX12_throwsIf_5 (by decide) (fun z4 ez4 => ?_)
    refine lv_goto (tgt := 10) hx hb dX12_throwsIf_6 (by decide) ?_
    refine fp_12_0 (k := 387) hx hb hts in_X12_throwsIf_12 hown hK hP (by decide) (by decide) (hts _ lk_X12_throwsIf_1) hI hR hS (by omega) dX12_throwsIf_10 (fun σ5 H5 locs5 u5 v5 hR hP hS => ?_)
    have hF := hF.puts u5 0 rfl (by decide) (by decide) (by decide) (by decide)
    refine lv_iload_n hx hb dX12_throwsIf_13 rfl (lv_at hl 1 rfl) ?_
    exact r_zret hx hb hr hK hP hS hk (by omega) dX12_throwsIf_14 (show P_X12_throwsIf σ0 τ0 a1 a1 σ5 τ0 from ⟨hR, hF, hFL, by omega, by omega⟩)
theorem in_X12_man_12 : ∀ w ∈ u_ws RX12 TX12 47, w ∈ wsX12_man := by decide +kernel
theorem lk_X12_man_33 : Cond.fieldLink RX12 33 "CuckooSharesModel" "s" "[I" ∈ wsX12_man := by decide +kernel
abbrev L_X12_man : List Rc := [(387, 387, 0, 0)]
abbrev LL_X12_man : List Rc := []
def P_X12_man (σ0 : Nat → Nat → Int32) (τ0 : Nat → Nat → Int64) (a1 : Int32) (a2 : Int32) (r : Int32) (σ : Nat → Nat → Int32) (τ : Nat → Nat → Int64) : Prop := Rg σ ∧ Fr L_X12_man σ0 σ ∧ FrL LL_X12_man τ0 τ
set_option maxHeartbeats 4000000 in
theorem c_X12_man (l : Launch) (D : va_G) (cA : Nat → ClassId) (ad : Nat → Nat) (hI : Inj ad) (σ0 : Nat → Nat → Int32) (τ0 : Nat → Nat → Int64) (hR : Rg σ0) (a1 : Int32) (a2 : Int32)  : Met l yX12_man wsX12_man ({ frames := 2, cells := 0, slots := 0, locals := 43 } : Room) (WQc D cA ad [.ref (ad 387), .int a1, .int a2] σ0 τ0) (va_Qi (fun (r : Int32) (u : SS) => P_X12_man σ0 τ0 a1 a2 r u.1 u.2) (WB D cA ad) (AA ad)) 0 0 (AA ad) := by
  refine Met.ofW (cc := cX12_man) (maxL := 3) (ret := (some .int)) (by decide) rfl ?_
  intro p e s m args below meth c s₁ B hml hv
  obtain ⟨rfl, hP, hK, hN⟩ := hv
  have C : Cy p s m _ meth c cX12_man 3 wsX12_man RX12 D cA ad (some .int) := ⟨B.exec, B.bytes, hml, findClass_of_methodNamed B.named, atoms_spec (ws := wsX12_man) B.pre, hK, B.notSynchronized, B.returns, hI, hN⟩
  have hl := lv_entry ([.ref (ad 387), .int a1, .int a2]) (n := 3) (Nat.le_of_ble_eq_true rfl)
  rw [lg_entry_eq]
  generalize (lg_sl ([.ref (ad 387), .int a1, .int a2]) ++ List.replicate (3 - (lg_sl ([.ref (ad 387), .int a1, .int a2])).length) Slot.unset).toArray = ls at hl ⊢
  have hl : lv_has ls 3 [(0, .ref (ad 387)), (1, .int a1), (2, .int a2)] := hl
  have hS : va_S (AA ad) s.heap s.heap [] := va_S.rf
  have hF : Fr L_X12_man σ0 σ0 := Fr.rf
  have hFL : FrL LL_X12_man τ0 τ0 := FrL.rf
  obtain ⟨hx, hb, _, hown, hts, _, hk, hr, _, _⟩ := C
  refine lv_aload_n hx hb dX12_man_0 rfl (lv_at hl 0 rfl) ?_
  refine lv_aload_n hx hb dX12_man_1 rfl (lv_at hl 0 rfl) ?_
  refine lv_iload_n hx hb dX12_man_2 rfl (lv_at hl 1 rfl) ?_
  refine r_cVi (k := 387) (As := [.int a1]) (rest := [.ref (ad 387)]) ⟨hx, hb, hml, hown, hts⟩ hK hP hN hS (c_X12_isMan l D cA ad hI σ0 τ0 hR a1) (cwV 1 hts gX12_man_X12_isMan rfl rfl rfl (by decide +kernel) ⟨by decide, by decide⟩) (rv_M hK hP (by decide) (by decide)) rfl hl.1 rfl (Nat.le_of_ble_eq_true rfl) dX12_man_3 (Nat.zero_le _) (Nat.zero_le _) (fun r1 u1 H1 locs1 hp1 hP hS => ?_)
  obtain ⟨σ1, τ1⟩ := u1
  obtain ⟨hR, f1, fL1, hq1, hp1_0⟩ : P_X12_isMan σ0 τ0 a1 r1 σ1 τ1 := hp1
  have hP : va_P D vwCl (gw cA ad σ1 τ1) H1 := hP
  obtain rfl := FrL.nil fL1
  obtain rfl := Fr.nil f1
  refine r_if_eq (tgt := 19) hx hb dX12_man_6 (by decide) (fun c2 => ?_) (fun c2 => ?_)
  · clear hp1_0
    refine r_iconst hx hb dX12_man_19 (by decide) (fun z3 ez3 => ?_)
    refine lv_goto (tgt := 24) hx hb dX12_man_20 (by decide) ?_
    refine r_cVi (k := 387) (As := [.int z3]) (rest := []) ⟨hx, hb, hml, hown, hts⟩ hK hP hN hS (c_X12_throwsIf l D cA ad hI σ0 τ0 hR z3 (by omega)) (cwV 1 hts gX12_man_X12_throwsIf rfl rfl rfl (by decide +kernel) ⟨by decide, by decide⟩) (rv_M hK hP (by decide) (by decide)) rfl hl.1 rfl (Nat.le_of_ble_eq_true rfl) dX12_man_24 (Nat.zero_le _) (Nat.zero_le _) (fun r4 u4 H4 locs4 hp4 hP hS => ?_)
    obtain ⟨σ4, τ4⟩ := u4
    obtain ⟨hR, f4, fL4, hq4, hp4_0⟩ : P_X12_throwsIf σ0 τ0 z3 r4 σ4 τ4 := hp4
    have hP : va_P D vwCl (gw cA ad σ4 τ4) H4 := hP
    obtain rfl := FrL.nil fL4
    have hF := hF.step f4 (by decide)
    refine r_if_eq (tgt := 32) hx hb dX12_man_27 (by decide) (fun c5 => ?_) (fun c5 => ?_)
    · exfalso; omega
    · refine r_iconst hx hb dX12_man_30 (by decide) (fun z6 ez6 => ?_)
      exact r_iret hx hb hr hK hP hS hk dX12_man_31 (show P_X12_man σ0 τ0 a1 a2 z6 σ4 τ0 from ⟨hR, hF, hFL⟩)
  · replace hp1_0 := hp1_0.resolve_left (by omega)
    refine lv_iload_n hx hb dX12_man_9 rfl (lv_at hl 2 rfl) ?_
    refine r_iconst hx hb dX12_man_10 (by decide) (fun z7 ez7 => ?_)
    refine r_bipush hx hb dX12_man_11 (by decide) (fun z8 ez8 => ?_)
    refine r_cSi (As := [.int a2, .int z7, .int z8]) (rest := [.ref (ad 387)]) ⟨hx, hb, hml, hown, hts⟩ hK hP hN hS (c_X12_isIn l D cA ad hI σ0 τ0 hR a2 z7 z8) (va_cwS 3 hts gX12_man_X12_isIn rfl rfl rfl (by decide +kernel) ⟨by decide, by decide⟩) rfl hl.1 rfl (Nat.le_of_ble_eq_true rfl) dX12_man_13 (Nat.zero_le _) (Nat.zero_le _) (fun r9 u9 H9 locs9 hp9 hP hS => ?_)
    obtain ⟨σ9, τ9⟩ := u9
    obtain ⟨hR, f9, fL9, hq9, hp9_0, hp9_1⟩ : P_X12_isIn σ0 τ0 a2 z7 z8 r9 σ9 τ9 := hp9
    have hP : va_P D vwCl (gw cA ad σ9 τ9) H9 := hP
    obtain rfl := FrL.nil fL9
    obtain rfl := Fr.nil f9
    refine r_if_ne (tgt := 23) hx hb dX12_man_16 (by decide) (fun c10 => ?_) (fun c10 => ?_)
    · replace hp9_0 := hp9_0.resolve_left (by omega)
      refine r_iconst hx hb dX12_man_23 (by decide) (fun z11 ez11 => ?_)
      refine r_cVi (k := 387) (As := [.int z11]) (rest := []) ⟨hx, hb, hml, hown, hts⟩ hK hP hN hS (c_X12_throwsIf l D cA ad hI σ0 τ0 hR z11 (by omega)) (cwV 1 hts gX12_man_X12_throwsIf rfl rfl rfl (by decide +kernel) ⟨by decide, by decide⟩) (rv_M hK hP (by decide) (by decide)) rfl hl.1 rfl (Nat.le_of_ble_eq_true rfl) dX12_man_24 (Nat.zero_le _) (Nat.zero_le _) (fun r12 u12 H12 locs12 hp12 hP hS => ?_)
      obtain ⟨σ12, τ12⟩ := u12
      obtain ⟨hR, f12, fL12, hq12, hp12_0⟩ : P_X12_throwsIf σ0 τ0 z11 r12 σ12 τ12 := hp12
      have hP : va_P D vwCl (gw cA ad σ12 τ12) H12 := hP
      obtain rfl := FrL.nil fL12
      have hF := hF.step f12 (by decide)
      refine r_if_eq (tgt := 32) hx hb dX12_man_27 (by decide) (fun c13 => ?_) (fun c13 => ?_)
      · refine lv_iload_n hx hb dX12_man_32 rfl (lv_at hl 2 rfl) ?_
        by_cases c14 : a2.toInt = 0
        · refine lv_tableIn (off := 43) (tgt := 76) hx hb dX12_man_33 (by omega) (by omega) (by rw [c14]; rfl) (by decide) ?_
          refine lv_aload_n hx hb dX12_man_76 rfl (lv_at hl 0 rfl) ?_
          refine fg_12_6 (k := 387) hx hb hts in_X12_man_12 hown hK hP (by decide) (by decide) (hts _ lk_X12_man_33) dX12_man_77 ?_
          refine r_sipush hx hb dX12_man_80 (by decide) (fun z15 ez15 => ?_)
          refine lv_iload_n hx hb dX12_man_83 rfl (lv_at hl 1 rfl) ?_
          refine r_iadd hx hb dX12_man_84 (by omega) (fun z16 ez16 => ?_)
          obtain ⟨j17, ej17⟩ : ∃ j : Nat, z16.toInt = (j : Int) := ⟨_, ti_nat (by omega)⟩
          refine ad_ms (k := 389) (j := j17) hx hb hK hP (by decide) (by decide) ej17 (by omega) dX12_man_85 ?_
          have hr18 := ra_ms_6 hR (k := 389) (j := j17) (by decide) (by decide) (by omega) (by omega)
          exact r_iret hx hb hr hK hP hS hk dX12_man_86 (show P_X12_man σ0 τ0 a1 a2 (σ12 389 j17) σ12 τ0 from ⟨hR, hF, hFL⟩)
        by_cases c19 : a2.toInt = 1
        · refine lv_tableIn (off := 54) (tgt := 87) hx hb dX12_man_33 (by omega) (by omega) (by rw [c19]; rfl) (by decide) ?_
          refine lv_aload_n hx hb dX12_man_87 rfl (lv_at hl 0 rfl) ?_
          refine fg_12_6 (k := 387) hx hb hts in_X12_man_12 hown hK hP (by decide) (by decide) (hts _ lk_X12_man_33) dX12_man_88 ?_
          refine r_bipush hx hb dX12_man_91 (by decide) (fun z20 ez20 => ?_)
          refine lv_iload_n hx hb dX12_man_93 rfl (lv_at hl 1 rfl) ?_
          refine r_iadd hx hb dX12_man_94 (by omega) (fun z21 ez21 => ?_)
          obtain ⟨j22, ej22⟩ : ∃ j : Nat, z21.toInt = (j : Int) := ⟨_, ti_nat (by omega)⟩
          refine ad_ms (k := 389) (j := j22) hx hb hK hP (by decide) (by decide) ej22 (by omega) dX12_man_95 ?_
          exact r_iret hx hb hr hK hP hS hk dX12_man_96 (show P_X12_man σ0 τ0 a1 a2 (σ12 389 j22) σ12 τ0 from ⟨hR, hF, hFL⟩)
        by_cases c23 : a2.toInt = 2
        · refine lv_tableIn (off := 64) (tgt := 97) hx hb dX12_man_33 (by omega) (by omega) (by rw [c23]; rfl) (by decide) ?_
          refine lv_aload_n hx hb dX12_man_97 rfl (lv_at hl 0 rfl) ?_
          refine fg_12_6 (k := 387) hx hb hts in_X12_man_12 hown hK hP (by decide) (by decide) (hts _ lk_X12_man_33) dX12_man_98 ?_
          refine r_sipush hx hb dX12_man_101 (by decide) (fun z24 ez24 => ?_)
          refine lv_iload_n hx hb dX12_man_104 rfl (lv_at hl 1 rfl) ?_
          refine r_iadd hx hb dX12_man_105 (by omega) (fun z25 ez25 => ?_)
          obtain ⟨j26, ej26⟩ : ∃ j : Nat, z25.toInt = (j : Int) := ⟨_, ti_nat (by omega)⟩
          refine ad_ms (k := 389) (j := j26) hx hb hK hP (by decide) (by decide) ej26 (by omega) dX12_man_106 ?_
          exact r_iret hx hb hr hK hP hS hk dX12_man_107 (show P_X12_man σ0 τ0 a1 a2 (σ12 389 j26) σ12 τ0 from ⟨hR, hF, hFL⟩)
        by_cases c27 : a2.toInt = 3
        · refine lv_tableIn (off := 75) (tgt := 108) hx hb dX12_man_33 (by omega) (by omega) (by rw [c27]; rfl) (by decide) ?_
          refine lv_aload_n hx hb dX12_man_108 rfl (lv_at hl 0 rfl) ?_
          refine fg_12_6 (k := 387) hx hb hts in_X12_man_12 hown hK hP (by decide) (by decide) (hts _ lk_X12_man_33) dX12_man_109 ?_
          refine r_bipush hx hb dX12_man_112 (by decide) (fun z28 ez28 => ?_)
          refine lv_iload_n hx hb dX12_man_114 rfl (lv_at hl 1 rfl) ?_
          refine r_iadd hx hb dX12_man_115 (by omega) (fun z29 ez29 => ?_)
          obtain ⟨j30, ej30⟩ : ∃ j : Nat, z29.toInt = (j : Int) := ⟨_, ti_nat (by omega)⟩
          refine ad_ms (k := 389) (j := j30) hx hb hK hP (by decide) (by decide) ej30 (by omega) dX12_man_116 ?_
          exact r_iret hx hb hr hK hP hS hk dX12_man_117 (show P_X12_man σ0 τ0 a1 a2 (σ12 389 j30) σ12 τ0 from ⟨hR, hF, hFL⟩)
        by_cases c31 : a2.toInt = 4
        · refine lv_tableIn (off := 85) (tgt := 118) hx hb dX12_man_33 (by omega) (by omega) (by rw [c31]; rfl) (by decide) ?_
          refine lv_aload_n hx hb dX12_man_118 rfl (lv_at hl 0 rfl) ?_
          refine fg_12_6 (k := 387) hx hb hts in_X12_man_12 hown hK hP (by decide) (by decide) (hts _ lk_X12_man_33) dX12_man_119 ?_
          refine r_bipush hx hb dX12_man_122 (by decide) (fun z32 ez32 => ?_)
          refine lv_iload_n hx hb dX12_man_124 rfl (lv_at hl 1 rfl) ?_
          refine r_iadd hx hb dX12_man_125 (by omega) (fun z33 ez33 => ?_)
          obtain ⟨j34, ej34⟩ : ∃ j : Nat, z33.toInt = (j : Int) := ⟨_, ti_nat (by omega)⟩
          refine ad_ms (k := 389) (j := j34) hx hb hK hP (by decide) (by decide) ej34 (by omega) dX12_man_126 ?_
          have hr35 := ra_ms_3 hR (k := 389) (j := j34) (by decide) (by decide) (by omega) (by omega)
          refine r_iconst hx hb dX12_man_127 (by decide) (fun z36 ez36 => ?_)
          refine r_isub hx hb dX12_man_128 (by omega) (fun z37 ez37 => ?_)
          exact r_iret hx hb hr hK hP hS hk dX12_man_129 (show P_X12_man σ0 τ0 a1 a2 z37 σ12 τ0 from ⟨hR, hF, hFL⟩)
        by_cases c38 : a2.toInt = 5
        · refine lv_tableIn (off := 97) (tgt := 130) hx hb dX12_man_33 (by omega) (by omega) (by rw [c38]; rfl) (by decide) ?_
          refine lv_aload_n hx hb dX12_man_130 rfl (lv_at hl 0 rfl) ?_
          refine fg_12_6 (k := 387) hx hb hts in_X12_man_12 hown hK hP (by decide) (by decide) (hts _ lk_X12_man_33) dX12_man_131 ?_
          refine r_sipush hx hb dX12_man_134 (by decide) (fun z39 ez39 => ?_)
          refine lv_iload_n hx hb dX12_man_137 rfl (lv_at hl 1 rfl) ?_
          refine r_iadd hx hb dX12_man_138 (by omega) (fun z40 ez40 => ?_)
          obtain ⟨j41, ej41⟩ : ∃ j : Nat, z40.toInt = (j : Int) := ⟨_, ti_nat (by omega)⟩
          refine ad_ms (k := 389) (j := j41) hx hb hK hP (by decide) (by decide) ej41 (by omega) dX12_man_139 ?_
          have hr42 := ra_ms_7 hR (k := 389) (j := j41) (by decide) (by decide) (by omega) (by omega)
          refine r_iconst hx hb dX12_man_140 (by decide) (fun z43 ez43 => ?_)
          refine r_isub hx hb dX12_man_141 (by omega) (fun z44 ez44 => ?_)
          exact r_iret hx hb hr hK hP hS hk dX12_man_142 (show P_X12_man σ0 τ0 a1 a2 z44 σ12 τ0 from ⟨hR, hF, hFL⟩)
        by_cases c45 : a2.toInt = 6
        · refine lv_tableIn (off := 110) (tgt := 143) hx hb dX12_man_33 (by omega) (by omega) (by rw [c45]; rfl) (by decide) ?_
          refine lv_aload_n hx hb dX12_man_143 rfl (lv_at hl 0 rfl) ?_
          refine fg_12_6 (k := 387) hx hb hts in_X12_man_12 hown hK hP (by decide) (by decide) (hts _ lk_X12_man_33) dX12_man_144 ?_
          refine r_sipush hx hb dX12_man_147 (by decide) (fun z46 ez46 => ?_)
          refine lv_iload_n hx hb dX12_man_150 rfl (lv_at hl 1 rfl) ?_
          refine r_iadd hx hb dX12_man_151 (by omega) (fun z47 ez47 => ?_)
          obtain ⟨j48, ej48⟩ : ∃ j : Nat, z47.toInt = (j : Int) := ⟨_, ti_nat (by omega)⟩
          refine ad_ms (k := 389) (j := j48) hx hb hK hP (by decide) (by decide) ej48 (by omega) dX12_man_152 ?_
          exact r_iret hx hb hr hK hP hS hk dX12_man_153 (show P_X12_man σ0 τ0 a1 a2 (σ12 389 j48) σ12 τ0 from ⟨hR, hF, hFL⟩)
        refine lv_tableOut (tgt := 154) hx hb dX12_man_33 (by omega) (by decide) ?_
        refine lv_aload_n hx hb dX12_man_154 rfl (lv_at hl 0 rfl) ?_
        refine fg_12_6 (k := 387) hx hb hts in_X12_man_12 hown hK hP (by decide) (by decide) (hts _ lk_X12_man_33) dX12_man_155 ?_
        refine r_bipush hx hb dX12_man_158 (by decide) (fun z49 ez49 => ?_)
        refine lv_iload_n hx hb dX12_man_160 rfl (lv_at hl 1 rfl) ?_
        refine r_iadd hx hb dX12_man_161 (by omega) (fun z50 ez50 => ?_)
        obtain ⟨j51, ej51⟩ : ∃ j : Nat, z50.toInt = (j : Int) := ⟨_, ti_nat (by omega)⟩
        refine ad_ms (k := 389) (j := j51) hx hb hK hP (by decide) (by decide) ej51 (by omega) dX12_man_162 ?_
        refine r_iconst hx hb dX12_man_163 (by decide) (fun z52 ez52 => ?_)
        refine r_isubU hx hb dX12_man_164 (fun z53 => ?_)
        exact r_iret hx hb hr hK hP hS hk dX12_man_165 (show P_X12_man σ0 τ0 a1 a2 z53 σ12 τ0 from ⟨hR, hF, hFL⟩)
      · exfalso; omega
    · clear hp9_0
      refine r_iconst hx hb dX12_man_19 (by decide) (fun z54 ez54 => ?_)
      refine lv_goto (tgt := 24) hx hb dX12_man_20 (by decide) ?_
      refine r_cVi (k := 387) (As := [.int z54]) (rest := []) ⟨hx, hb, hml, hown, hts⟩ hK hP hN hS (c_X12_throwsIf l D cA ad hI σ0 τ0 hR z54 (by omega)) (cwV 1 hts gX12_man_X12_throwsIf rfl rfl rfl (by decide +kernel) ⟨by decide, by decide⟩) (rv_M hK hP (by decide) (by decide)) rfl hl.1 rfl (Nat.le_of_ble_eq_true rfl) dX12_man_24 (Nat.zero_le _) (Nat.zero_le _) (fun r55 u55 H55 locs55 hp55 hP hS => ?_)
      obtain ⟨σ55, τ55⟩ := u55
      obtain ⟨hR, f55, fL55, hq55, hp55_0⟩ : P_X12_throwsIf σ0 τ0 z54 r55 σ55 τ55 := hp55
      have hP : va_P D vwCl (gw cA ad σ55 τ55) H55 := hP
      obtain rfl := FrL.nil fL55
      have hF := hF.step f55 (by decide)
      refine r_if_eq (tgt := 32) hx hb dX12_man_27 (by decide) (fun c56 => ?_) (fun c56 => ?_)
      · exfalso; omega
      · refine r_iconst hx hb dX12_man_30 (by decide) (fun z57 ez57 => ?_)
        exact r_iret hx hb hr hK hP hS hk dX12_man_31 (show P_X12_man σ0 τ0 a1 a2 z57 σ55 τ0 from ⟨hR, hF, hFL⟩)
theorem in_X12_isFlight_12 : ∀ w ∈ u_ws RX12 TX12 47, w ∈ wsX12_isFlight := by decide +kernel
theorem lk_X12_isFlight_33 : Cond.fieldLink RX12 33 "CuckooSharesModel" "s" "[I" ∈ wsX12_isFlight := by decide +kernel
abbrev L_X12_isFlight : List Rc := []
abbrev LL_X12_isFlight : List Rc := []
def P_X12_isFlight (σ0 : Nat → Nat → Int32) (τ0 : Nat → Nat → Int64) (a1 : Int32) (r : Int32) (σ : Nat → Nat → Int32) (τ : Nat → Nat → Int64) : Prop := Rg σ ∧ Fr L_X12_isFlight σ0 σ ∧ FrL LL_X12_isFlight τ0 τ ∧ (0 ≤ r.toInt ∧ r.toInt ≤ 1) ∧ (r.toInt = 0 ∨ (r.toInt = 1 ∧ 0 ≤ a1.toInt ∧ a1.toInt ≤ 3)) ∧ ((r.toInt = 1 ∧ 0 ≤ a1.toInt ∧ a1.toInt < (σ0 389 2).toInt) ∨ (r.toInt = 0 ∧ (a1.toInt < 0 ∨ (σ0 389 2).toInt ≤ a1.toInt)))
set_option maxHeartbeats 4000000 in
theorem c_X12_isFlight (l : Launch) (D : va_G) (cA : Nat → ClassId) (ad : Nat → Nat) (hI : Inj ad) (σ0 : Nat → Nat → Int32) (τ0 : Nat → Nat → Int64) (hR : Rg σ0) (a1 : Int32)  : Met l yX12_isFlight wsX12_isFlight ({ frames := 1, cells := 0, slots := 0, locals := 22 } : Room) (WQc D cA ad [.ref (ad 387), .int a1] σ0 τ0) (va_Qi (fun (r : Int32) (u : SS) => P_X12_isFlight σ0 τ0 a1 r u.1 u.2) (WB D cA ad) (AA ad)) 0 0 (AA ad) := by
  refine Met.ofW (cc := cX12_isFlight) (maxL := 2) (ret := (some .boolean)) (by decide) rfl ?_
  intro p e s m args below meth c s₁ B hml hv
  obtain ⟨rfl, hP, hK, hN⟩ := hv
  have C : Cy p s m _ meth c cX12_isFlight 2 wsX12_isFlight RX12 D cA ad (some .boolean) := ⟨B.exec, B.bytes, hml, findClass_of_methodNamed B.named, atoms_spec (ws := wsX12_isFlight) B.pre, hK, B.notSynchronized, B.returns, hI, hN⟩
  have hl := lv_entry ([.ref (ad 387), .int a1]) (n := 2) (Nat.le_of_ble_eq_true rfl)
  rw [lg_entry_eq]
  generalize (lg_sl ([.ref (ad 387), .int a1]) ++ List.replicate (2 - (lg_sl ([.ref (ad 387), .int a1])).length) Slot.unset).toArray = ls at hl ⊢
  have hl : lv_has ls 2 [(0, .ref (ad 387)), (1, .int a1)] := hl
  have hS : va_S (AA ad) s.heap s.heap [] := va_S.rf
  have hF : Fr L_X12_isFlight σ0 σ0 := Fr.rf
  have hFL : FrL LL_X12_isFlight τ0 τ0 := FrL.rf
  obtain ⟨hx, hb, _, hown, hts, _, hk, hr, _, _⟩ := C
  refine lv_iload_n hx hb dX12_isFlight_0 rfl (lv_at hl 1 rfl) ?_
  refine r_iconst hx hb dX12_isFlight_1 (by decide) (fun z1 ez1 => ?_)
  refine lv_aload_n hx hb dX12_isFlight_2 rfl (lv_at hl 0 rfl) ?_
  refine fg_12_6 (k := 387) hx hb hts in_X12_isFlight_12 hown hK hP (by decide) (by decide) (hts _ lk_X12_isFlight_33) dX12_isFlight_3 ?_
  refine r_iconst hx hb dX12_isFlight_6 (by decide) (fun z2 ez2 => ?_)
  refine ad_ms (k := 389) (j := 2) hx hb hK hP (by decide) (by decide) (by omega) (by omega) dX12_isFlight_7 ?_
  have hr3 := ra_ms_1 hR (k := 389) (j := 2) (by decide) (by decide) (by decide) (by decide)
  refine r_iconst hx hb dX12_isFlight_8 (by decide) (fun z4 ez4 => ?_)
  refine r_isub hx hb dX12_isFlight_9 (by omega) (fun z5 ez5 => ?_)
  refine r_cSi (As := [.int a1, .int z1, .int z5]) (rest := []) ⟨hx, hb, hml, hown, hts⟩ hK hP hN hS (c_X12_isIn l D cA ad hI σ0 τ0 hR a1 z1 z5) (va_cwS 3 hts gX12_isFlight_X12_isIn rfl rfl rfl (by decide +kernel) ⟨by decide, by decide⟩) rfl hl.1 rfl (Nat.le_of_ble_eq_true rfl) dX12_isFlight_10 (Nat.zero_le _) (Nat.zero_le _) (fun r6 u6 H6 locs6 hp6 hP hS => ?_)
  obtain ⟨σ6, τ6⟩ := u6
  obtain ⟨hR, f6, fL6, hq6, hp6_0, hp6_1⟩ : P_X12_isIn σ0 τ0 a1 z1 z5 r6 σ6 τ6 := hp6
  have hP : va_P D vwCl (gw cA ad σ6 τ6) H6 := hP
  obtain rfl := FrL.nil fL6
  obtain rfl := Fr.nil f6
  exact r_zret hx hb hr hK hP hS hk (by omega) dX12_isFlight_13 (show P_X12_isFlight σ0 τ0 a1 r6 σ0 τ0 from ⟨hR, hF, hFL, by omega, by omega, by omega⟩)
theorem in_X12_flight_12 : ∀ w ∈ u_ws RX12 TX12 47, w ∈ wsX12_flight := by decide +kernel
theorem lk_X12_flight_1 : Cond.fieldLink RX12 1 "CuckooSharesModel" "thrown" "I" ∈ wsX12_flight := by decide +kernel
theorem lk_X12_flight_33 : Cond.fieldLink RX12 33 "CuckooSharesModel" "s" "[I" ∈ wsX12_flight := by decide +kernel
abbrev L_X12_flight : List Rc := [(387, 387, 0, 0)]
abbrev LL_X12_flight : List Rc := []
def P_X12_flight (σ0 : Nat → Nat → Int32) (τ0 : Nat → Nat → Int64) (a1 : Int32) (a2 : Int32) (r : Int32) (σ : Nat → Nat → Int32) (τ : Nat → Nat → Int64) : Prop := Rg σ ∧ Fr L_X12_flight σ0 σ ∧ FrL LL_X12_flight τ0 τ ∧ (r.toInt = flH (fun j : Nat => (σ0 389 j).toInt) a1.toInt a2.toInt)
set_option maxHeartbeats 4000000 in
theorem c_X12_flight (l : Launch) (D : va_G) (cA : Nat → ClassId) (ad : Nat → Nat) (hI : Inj ad) (σ0 : Nat → Nat → Int32) (τ0 : Nat → Nat → Int64) (hR : Rg σ0) (a1 : Int32) (a2 : Int32)  : Met l yX12_flight wsX12_flight ({ frames := 2, cells := 0, slots := 0, locals := 43 } : Room) (WQc D cA ad [.ref (ad 387), .int a1, .int a2] σ0 τ0) (va_Qi (fun (r : Int32) (u : SS) => P_X12_flight σ0 τ0 a1 a2 r u.1 u.2) (WB D cA ad) (AA ad)) 0 0 (AA ad) := by
  refine Met.ofW (cc := cX12_flight) (maxL := 3) (ret := (some .int)) (by decide) rfl ?_
  intro p e s m args below meth c s₁ B hml hv
  obtain ⟨rfl, hP, hK, hN⟩ := hv
  have C : Cy p s m _ meth c cX12_flight 3 wsX12_flight RX12 D cA ad (some .int) := ⟨B.exec, B.bytes, hml, findClass_of_methodNamed B.named, atoms_spec (ws := wsX12_flight) B.pre, hK, B.notSynchronized, B.returns, hI, hN⟩
  have hl := lv_entry ([.ref (ad 387), .int a1, .int a2]) (n := 3) (Nat.le_of_ble_eq_true rfl)
  rw [lg_entry_eq]
  generalize (lg_sl ([.ref (ad 387), .int a1, .int a2]) ++ List.replicate (3 - (lg_sl ([.ref (ad 387), .int a1, .int a2])).length) Slot.unset).toArray = ls at hl ⊢
  have hl : lv_has ls 3 [(0, .ref (ad 387)), (1, .int a1), (2, .int a2)] := hl
  have hS : va_S (AA ad) s.heap s.heap [] := va_S.rf
  have hF : Fr L_X12_flight σ0 σ0 := Fr.rf
  have hFL : FrL LL_X12_flight τ0 τ0 := FrL.rf
  obtain ⟨hx, hb, _, hown, hts, _, hk, hr, _, _⟩ := C
  refine lv_aload_n hx hb dX12_flight_0 rfl (lv_at hl 0 rfl) ?_
  refine r_iconst hx hb dX12_flight_1 (by decide) (fun z1 ez1 => ?_)
  refine fp_12_0 (k := 387) hx hb hts in_X12_flight_12 hown hK hP (by decide) (by decide) (hts _ lk_X12_flight_1) hI hR hS (by omega) dX12_flight_2 (fun σ2 H2 locs2 u2 v2 hR hP hS => ?_)
  have u0 := u2
  have v0 := v2
  have hF := hF.puts u2 0 rfl (by decide) (by decide) (by decide) (by decide)
  refine lv_aload_n hx hb dX12_flight_5 rfl (lv_at hl 0 rfl) ?_
  refine lv_iload_n hx hb dX12_flight_6 rfl (lv_at hl 1 rfl) ?_
  refine r_cVi (k := 387) (As := [.int a1]) (rest := []) ⟨hx, hb, hml, hown, hts⟩ hK hP hN hS (c_X12_isFlight l D cA ad hI σ2 τ0 hR a1) (cwV 1 hts gX12_flight_X12_isFlight rfl rfl rfl (by decide +kernel) ⟨by decide, by decide⟩) (rv_M hK hP (by decide) (by decide)) rfl hl.1 rfl (Nat.le_of_ble_eq_true rfl) dX12_flight_7 (Nat.zero_le _) (Nat.zero_le _) (fun r3 u3 H3 locs3 hp3 hP hS => ?_)
  obtain ⟨σ3, τ3⟩ := u3
  obtain ⟨hR, f3, fL3, hq3, hp3_0, hp3_1⟩ : P_X12_isFlight σ2 τ0 a1 r3 σ3 τ3 := hp3
  have hP : va_P D vwCl (gw cA ad σ3 τ3) H3 := hP
  obtain rfl := FrL.nil fL3
  obtain rfl := Fr.nil f3
  refine r_if_ne (tgt := 15) hx hb dX12_flight_10 (by decide) (fun c4 => ?_) (fun c4 => ?_)
  · replace hp3_0 := hp3_0.resolve_left (by omega)
    refine lv_iload_n hx hb dX12_flight_15 rfl (lv_at hl 2 rfl) ?_
    refine r_if_ne (tgt := 31) hx hb dX12_flight_16 (by decide) (fun c5 => ?_) (fun c5 => ?_)
    · refine lv_iload_n hx hb dX12_flight_31 rfl (lv_at hl 2 rfl) ?_
      refine r_iconst hx hb dX12_flight_32 (by decide) (fun z6 ez6 => ?_)
      refine r_icmp_ne (tgt := 48) hx hb dX12_flight_33 (by decide) (fun c7 => ?_) (fun c7 => ?_)
      · refine lv_iload_n hx hb dX12_flight_48 rfl (lv_at hl 2 rfl) ?_
        refine r_iconst hx hb dX12_flight_49 (by decide) (fun z8 ez8 => ?_)
        refine r_icmp_ne (tgt := 65) hx hb dX12_flight_50 (by decide) (fun c9 => ?_) (fun c9 => ?_)
        · refine r_iconst hx hb dX12_flight_65 (by decide) (fun z10 ez10 => ?_)
          exact r_iret hx hb hr hK hP hS hk dX12_flight_66 (show P_X12_flight σ0 τ0 a1 a2 z10 σ2 τ0 from ⟨hR, hF, hFL, by rw [← MS0 u0]; first | (rw [flH_no (by omega)]; omega) | exact flM (o := 79) (by omega) (by omega) (by omega) (by omega) | exact flM (o := 83) (by omega) (by omega) (by omega) (by omega) | exact flM (o := 87) (by omega) (by omega) (by omega) (by omega)⟩)
        · refine lv_aload_n hx hb dX12_flight_53 rfl (lv_at hl 0 rfl) ?_
          refine fg_12_6 (k := 387) hx hb hts in_X12_flight_12 hown hK hP (by decide) (by decide) (hts _ lk_X12_flight_33) dX12_flight_54 ?_
          refine r_bipush hx hb dX12_flight_57 (by decide) (fun z11 ez11 => ?_)
          refine lv_iload_n hx hb dX12_flight_59 rfl (lv_at hl 1 rfl) ?_
          refine r_iadd hx hb dX12_flight_60 (by omega) (fun z12 ez12 => ?_)
          obtain ⟨j13, ej13⟩ : ∃ j : Nat, z12.toInt = (j : Int) := ⟨_, ti_nat (by omega)⟩
          refine ad_ms (k := 389) (j := j13) hx hb hK hP (by decide) (by decide) ej13 (by omega) dX12_flight_61 ?_
          have hr14 := ra_ms_4 hR (k := 389) (j := j13) (by decide) (by decide) (by omega) (by omega)
          refine lv_goto (tgt := 66) hx hb dX12_flight_62 (by decide) ?_
          exact r_iret hx hb hr hK hP hS hk dX12_flight_66 (show P_X12_flight σ0 τ0 a1 a2 (σ2 389 j13) σ2 τ0 from ⟨hR, hF, hFL, by rw [← MS0 u0]; first | (rw [flH_no (by omega)]; omega) | exact flM (o := 79) (by omega) (by omega) (by omega) (by omega) | exact flM (o := 83) (by omega) (by omega) (by omega) (by omega) | exact flM (o := 87) (by omega) (by omega) (by omega) (by omega)⟩)
      · refine lv_aload_n hx hb dX12_flight_36 rfl (lv_at hl 0 rfl) ?_
        refine fg_12_6 (k := 387) hx hb hts in_X12_flight_12 hown hK hP (by decide) (by decide) (hts _ lk_X12_flight_33) dX12_flight_37 ?_
        refine r_bipush hx hb dX12_flight_40 (by decide) (fun z15 ez15 => ?_)
        refine lv_iload_n hx hb dX12_flight_42 rfl (lv_at hl 1 rfl) ?_
        refine r_iadd hx hb dX12_flight_43 (by omega) (fun z16 ez16 => ?_)
        obtain ⟨j17, ej17⟩ : ∃ j : Nat, z16.toInt = (j : Int) := ⟨_, ti_nat (by omega)⟩
        refine ad_ms (k := 389) (j := j17) hx hb hK hP (by decide) (by decide) ej17 (by omega) dX12_flight_44 ?_
        refine lv_goto (tgt := 66) hx hb dX12_flight_45 (by decide) ?_
        exact r_iret hx hb hr hK hP hS hk dX12_flight_66 (show P_X12_flight σ0 τ0 a1 a2 (σ2 389 j17) σ2 τ0 from ⟨hR, hF, hFL, by rw [← MS0 u0]; first | (rw [flH_no (by omega)]; omega) | exact flM (o := 79) (by omega) (by omega) (by omega) (by omega) | exact flM (o := 83) (by omega) (by omega) (by omega) (by omega) | exact flM (o := 87) (by omega) (by omega) (by omega) (by omega)⟩)
    · refine lv_aload_n hx hb dX12_flight_19 rfl (lv_at hl 0 rfl) ?_
      refine fg_12_6 (k := 387) hx hb hts in_X12_flight_12 hown hK hP (by decide) (by decide) (hts _ lk_X12_flight_33) dX12_flight_20 ?_
      refine r_bipush hx hb dX12_flight_23 (by decide) (fun z18 ez18 => ?_)
      refine lv_iload_n hx hb dX12_flight_25 rfl (lv_at hl 1 rfl) ?_
      refine r_iadd hx hb dX12_flight_26 (by omega) (fun z19 ez19 => ?_)
      obtain ⟨j20, ej20⟩ : ∃ j : Nat, z19.toInt = (j : Int) := ⟨_, ti_nat (by omega)⟩
      refine ad_ms (k := 389) (j := j20) hx hb hK hP (by decide) (by decide) ej20 (by omega) dX12_flight_27 ?_
      refine lv_goto (tgt := 66) hx hb dX12_flight_28 (by decide) ?_
      exact r_iret hx hb hr hK hP hS hk dX12_flight_66 (show P_X12_flight σ0 τ0 a1 a2 (σ2 389 j20) σ2 τ0 from ⟨hR, hF, hFL, by rw [← MS0 u0]; first | (rw [flH_no (by omega)]; omega) | exact flM (o := 79) (by omega) (by omega) (by omega) (by omega) | exact flM (o := 83) (by omega) (by omega) (by omega) (by omega) | exact flM (o := 87) (by omega) (by omega) (by omega) (by omega)⟩)
  · clear hp3_0
    refine r_iconst hx hb dX12_flight_13 (by decide) (fun z21 ez21 => ?_)
    exact r_iret hx hb hr hK hP hS hk dX12_flight_14 (show P_X12_flight σ0 τ0 a1 a2 z21 σ2 τ0 from ⟨hR, hF, hFL, by rw [← MS0 u0]; first | (rw [flH_no (by omega)]; omega) | exact flM (o := 79) (by omega) (by omega) (by omega) (by omega) | exact flM (o := 83) (by omega) (by omega) (by omega) (by omega) | exact flM (o := 87) (by omega) (by omega) (by omega) (by omega)⟩)
theorem in_X12_isCall_12 : ∀ w ∈ u_ws RX12 TX12 47, w ∈ wsX12_isCall := by decide +kernel
theorem lk_X12_isCall_33 : Cond.fieldLink RX12 33 "CuckooSharesModel" "s" "[I" ∈ wsX12_isCall := by decide +kernel
abbrev L_X12_isCall : List Rc := []
abbrev LL_X12_isCall : List Rc := []
def P_X12_isCall (σ0 : Nat → Nat → Int32) (τ0 : Nat → Nat → Int64) (a1 : Int32) (a2 : Int32) (r : Int32) (σ : Nat → Nat → Int32) (τ : Nat → Nat → Int64) : Prop := Rg σ ∧ Fr L_X12_isCall σ0 σ ∧ FrL LL_X12_isCall τ0 τ ∧ (0 ≤ r.toInt ∧ r.toInt ≤ 1) ∧ (r.toInt = 0 ∨ (r.toInt = 1 ∧ 0 ≤ a1.toInt ∧ a1.toInt ≤ 3 ∧ 0 ≤ a2.toInt ∧ a2.toInt ≤ 9)) ∧ ((r.toInt = 1 ∧ 0 ≤ a1.toInt ∧ a1.toInt < (σ0 389 2).toInt ∧ 0 ≤ a2.toInt ∧ a2.toInt < (σ0 389 (87 + a1.toInt.toNat)).toInt) ∨ (r.toInt = 0 ∧ (a1.toInt < 0 ∨ (σ0 389 2).toInt ≤ a1.toInt ∨ a2.toInt < 0 ∨ (σ0 389 (87 + a1.toInt.toNat)).toInt ≤ a2.toInt)))
set_option maxHeartbeats 4000000 in
theorem c_X12_isCall (l : Launch) (D : va_G) (cA : Nat → ClassId) (ad : Nat → Nat) (hI : Inj ad) (σ0 : Nat → Nat → Int32) (τ0 : Nat → Nat → Int64) (hR : Rg σ0) (a1 : Int32) (a2 : Int32)  : Met l yX12_isCall wsX12_isCall ({ frames := 2, cells := 0, slots := 0, locals := 43 } : Room) (WQc D cA ad [.ref (ad 387), .int a1, .int a2] σ0 τ0) (va_Qi (fun (r : Int32) (u : SS) => P_X12_isCall σ0 τ0 a1 a2 r u.1 u.2) (WB D cA ad) (AA ad)) 0 0 (AA ad) := by
  refine Met.ofW (cc := cX12_isCall) (maxL := 3) (ret := (some .boolean)) (by decide) rfl ?_
  intro p e s m args below meth c s₁ B hml hv
  obtain ⟨rfl, hP, hK, hN⟩ := hv
  have C : Cy p s m _ meth c cX12_isCall 3 wsX12_isCall RX12 D cA ad (some .boolean) := ⟨B.exec, B.bytes, hml, findClass_of_methodNamed B.named, atoms_spec (ws := wsX12_isCall) B.pre, hK, B.notSynchronized, B.returns, hI, hN⟩
  have hl := lv_entry ([.ref (ad 387), .int a1, .int a2]) (n := 3) (Nat.le_of_ble_eq_true rfl)
  rw [lg_entry_eq]
  generalize (lg_sl ([.ref (ad 387), .int a1, .int a2]) ++ List.replicate (3 - (lg_sl ([.ref (ad 387), .int a1, .int a2])).length) Slot.unset).toArray = ls at hl ⊢
  have hl : lv_has ls 3 [(0, .ref (ad 387)), (1, .int a1), (2, .int a2)] := hl
  have hS : va_S (AA ad) s.heap s.heap [] := va_S.rf
  have hF : Fr L_X12_isCall σ0 σ0 := Fr.rf
  have hFL : FrL LL_X12_isCall τ0 τ0 := FrL.rf
  obtain ⟨hx, hb, _, hown, hts, _, hk, hr, _, _⟩ := C
  refine lv_aload_n hx hb dX12_isCall_0 rfl (lv_at hl 0 rfl) ?_
  refine lv_iload_n hx hb dX12_isCall_1 rfl (lv_at hl 1 rfl) ?_
  refine r_cVi (k := 387) (As := [.int a1]) (rest := []) ⟨hx, hb, hml, hown, hts⟩ hK hP hN hS (c_X12_isFlight l D cA ad hI σ0 τ0 hR a1) (cwV 1 hts gX12_isCall_X12_isFlight rfl rfl rfl (by decide +kernel) ⟨by decide, by decide⟩) (rv_M hK hP (by decide) (by decide)) rfl hl.1 rfl (Nat.le_of_ble_eq_true rfl) dX12_isCall_2 (Nat.zero_le _) (Nat.zero_le _) (fun r1 u1 H1 locs1 hp1 hP hS => ?_)
  obtain ⟨σ1, τ1⟩ := u1
  obtain ⟨hR, f1, fL1, hq1, hp1_0, hp1_1⟩ : P_X12_isFlight σ0 τ0 a1 r1 σ1 τ1 := hp1
  have hP : va_P D vwCl (gw cA ad σ1 τ1) H1 := hP
  obtain rfl := FrL.nil fL1
  obtain rfl := Fr.nil f1
  refine r_if_eq (tgt := 31) hx hb dX12_isCall_5 (by decide) (fun c2 => ?_) (fun c2 => ?_)
  · clear hp1_0
    refine r_iconst hx hb dX12_isCall_31 (by decide) (fun z3 ez3 => ?_)
    exact r_zret hx hb hr hK hP hS hk (by omega) dX12_isCall_32 (show P_X12_isCall σ0 τ0 a1 a2 z3 σ0 τ0 from ⟨hR, hF, hFL, by omega, by omega, by omega⟩)
  · replace hp1_0 := hp1_0.resolve_left (by omega)
    refine lv_iload_n hx hb dX12_isCall_8 rfl (lv_at hl 2 rfl) ?_
    refine r_iconst hx hb dX12_isCall_9 (by decide) (fun z4 ez4 => ?_)
    refine lv_aload_n hx hb dX12_isCall_10 rfl (lv_at hl 0 rfl) ?_
    refine fg_12_6 (k := 387) hx hb hts in_X12_isCall_12 hown hK hP (by decide) (by decide) (hts _ lk_X12_isCall_33) dX12_isCall_11 ?_
    refine r_bipush hx hb dX12_isCall_14 (by decide) (fun z5 ez5 => ?_)
    refine lv_iload_n hx hb dX12_isCall_16 rfl (lv_at hl 1 rfl) ?_
    refine r_iadd hx hb dX12_isCall_17 (by omega) (fun z6 ez6 => ?_)
    obtain ⟨j7, ej7⟩ : ∃ j : Nat, z6.toInt = (j : Int) := ⟨_, ti_nat (by omega)⟩
    refine ad_ms (k := 389) (j := j7) hx hb hK hP (by decide) (by decide) ej7 (by omega) dX12_isCall_18 ?_
    have hr8 := ra_ms_4 hR (k := 389) (j := j7) (by decide) (by decide) (by omega) (by omega)
    have hc87 : (σ0 389 (87 + a1.toInt.toNat)).toInt = (σ0 389 j7).toInt := by rw [show 87 + a1.toInt.toNat = j7 by omega]
    refine r_iconst hx hb dX12_isCall_19 (by decide) (fun z9 ez9 => ?_)
    refine r_isub hx hb dX12_isCall_20 (by omega) (fun z10 ez10 => ?_)
    refine r_cSi (As := [.int a2, .int z4, .int z10]) (rest := []) ⟨hx, hb, hml, hown, hts⟩ hK hP hN hS (c_X12_isIn l D cA ad hI σ0 τ0 hR a2 z4 z10) (va_cwS 3 hts gX12_isCall_X12_isIn rfl rfl rfl (by decide +kernel) ⟨by decide, by decide⟩) rfl hl.1 rfl (Nat.le_of_ble_eq_true rfl) dX12_isCall_21 (Nat.zero_le _) (Nat.zero_le _) (fun r11 u11 H11 locs11 hp11 hP hS => ?_)
    obtain ⟨σ11, τ11⟩ := u11
    obtain ⟨hR, f11, fL11, hq11, hp11_0, hp11_1⟩ : P_X12_isIn σ0 τ0 a2 z4 z10 r11 σ11 τ11 := hp11
    have hP : va_P D vwCl (gw cA ad σ11 τ11) H11 := hP
    obtain rfl := FrL.nil fL11
    obtain rfl := Fr.nil f11
    refine r_if_eq (tgt := 31) hx hb dX12_isCall_24 (by decide) (fun c12 => ?_) (fun c12 => ?_)
    · clear hp11_0
      refine r_iconst hx hb dX12_isCall_31 (by decide) (fun z13 ez13 => ?_)
      exact r_zret hx hb hr hK hP hS hk (by omega) dX12_isCall_32 (show P_X12_isCall σ0 τ0 a1 a2 z13 σ0 τ0 from ⟨hR, hF, hFL, by omega, by omega, by omega⟩)
    · replace hp11_0 := hp11_0.resolve_left (by omega)
      refine r_iconst hx hb dX12_isCall_27 (by decide) (fun z14 ez14 => ?_)
      refine lv_goto (tgt := 32) hx hb dX12_isCall_28 (by decide) ?_
      exact r_zret hx hb hr hK hP hS hk (by omega) dX12_isCall_32 (show P_X12_isCall σ0 τ0 a1 a2 z14 σ0 τ0 from ⟨hR, hF, hFL, by omega, by omega, by omega⟩)
theorem in_X12_call_12 : ∀ w ∈ u_ws RX12 TX12 47, w ∈ wsX12_call := by decide +kernel
theorem lk_X12_call_1 : Cond.fieldLink RX12 1 "CuckooSharesModel" "thrown" "I" ∈ wsX12_call := by decide +kernel
theorem lk_X12_call_33 : Cond.fieldLink RX12 33 "CuckooSharesModel" "s" "[I" ∈ wsX12_call := by decide +kernel
abbrev L_X12_call : List Rc := [(387, 387, 0, 0)]
abbrev LL_X12_call : List Rc := []
def P_X12_call (σ0 : Nat → Nat → Int32) (τ0 : Nat → Nat → Int64) (a1 : Int32) (a2 : Int32) (a3 : Int32) (r : Int32) (σ : Nat → Nat → Int32) (τ : Nat → Nat → Int64) : Prop := Rg σ ∧ Fr L_X12_call σ0 σ ∧ FrL LL_X12_call τ0 τ ∧ (r.toInt = caH (fun j : Nat => (σ0 389 j).toInt) a1.toInt a2.toInt a3.toInt)
set_option maxHeartbeats 4000000 in
theorem c_X12_call (l : Launch) (D : va_G) (cA : Nat → ClassId) (ad : Nat → Nat) (hI : Inj ad) (σ0 : Nat → Nat → Int32) (τ0 : Nat → Nat → Int64) (hR : Rg σ0) (a1 : Int32) (a2 : Int32) (a3 : Int32)  : Met l yX12_call wsX12_call ({ frames := 3, cells := 0, slots := 0, locals := 65 } : Room) (WQc D cA ad [.ref (ad 387), .int a1, .int a2, .int a3] σ0 τ0) (va_Qi (fun (r : Int32) (u : SS) => P_X12_call σ0 τ0 a1 a2 a3 r u.1 u.2) (WB D cA ad) (AA ad)) 0 0 (AA ad) := by
  refine Met.ofW (cc := cX12_call) (maxL := 5) (ret := (some .int)) (by decide) rfl ?_
  intro p e s m args below meth c s₁ B hml hv
  obtain ⟨rfl, hP, hK, hN⟩ := hv
  have C : Cy p s m _ meth c cX12_call 5 wsX12_call RX12 D cA ad (some .int) := ⟨B.exec, B.bytes, hml, findClass_of_methodNamed B.named, atoms_spec (ws := wsX12_call) B.pre, hK, B.notSynchronized, B.returns, hI, hN⟩
  have hl := lv_entry ([.ref (ad 387), .int a1, .int a2, .int a3]) (n := 5) (Nat.le_of_ble_eq_true rfl)
  rw [lg_entry_eq]
  generalize (lg_sl ([.ref (ad 387), .int a1, .int a2, .int a3]) ++ List.replicate (5 - (lg_sl ([.ref (ad 387), .int a1, .int a2, .int a3])).length) Slot.unset).toArray = ls at hl ⊢
  have hl : lv_has ls 5 [(0, .ref (ad 387)), (1, .int a1), (2, .int a2), (3, .int a3)] := hl
  have hS : va_S (AA ad) s.heap s.heap [] := va_S.rf
  have hF : Fr L_X12_call σ0 σ0 := Fr.rf
  have hFL : FrL LL_X12_call τ0 τ0 := FrL.rf
  obtain ⟨hx, hb, _, hown, hts, _, hk, hr, _, _⟩ := C
  refine lv_aload_n hx hb dX12_call_0 rfl (lv_at hl 0 rfl) ?_
  refine r_iconst hx hb dX12_call_1 (by decide) (fun z1 ez1 => ?_)
  refine fp_12_0 (k := 387) hx hb hts in_X12_call_12 hown hK hP (by decide) (by decide) (hts _ lk_X12_call_1) hI hR hS (by omega) dX12_call_2 (fun σ2 H2 locs2 u2 v2 hR hP hS => ?_)
  have u0 := u2
  have v0 := v2
  have hF := hF.puts u2 0 rfl (by decide) (by decide) (by decide) (by decide)
  refine lv_aload_n hx hb dX12_call_5 rfl (lv_at hl 0 rfl) ?_
  refine lv_iload_n hx hb dX12_call_6 rfl (lv_at hl 1 rfl) ?_
  refine lv_iload_n hx hb dX12_call_7 rfl (lv_at hl 2 rfl) ?_
  refine r_cVi (k := 387) (As := [.int a1, .int a2]) (rest := []) ⟨hx, hb, hml, hown, hts⟩ hK hP hN hS (c_X12_isCall l D cA ad hI σ2 τ0 hR a1 a2) (cwV 2 hts gX12_call_X12_isCall rfl rfl rfl (by decide +kernel) ⟨by decide, by decide⟩) (rv_M hK hP (by decide) (by decide)) rfl hl.1 rfl (Nat.le_of_ble_eq_true rfl) dX12_call_8 (Nat.zero_le _) (Nat.zero_le _) (fun r3 u3 H3 locs3 hp3 hP hS => ?_)
  obtain ⟨σ3, τ3⟩ := u3
  obtain ⟨hR, f3, fL3, hq3, hp3_0, hp3_1⟩ : P_X12_isCall σ2 τ0 a1 a2 r3 σ3 τ3 := hp3
  have hP : va_P D vwCl (gw cA ad σ3 τ3) H3 := hP
  obtain rfl := FrL.nil fL3
  obtain rfl := Fr.nil f3
  refine r_if_ne (tgt := 16) hx hb dX12_call_11 (by decide) (fun c4 => ?_) (fun c4 => ?_)
  · replace hp3_0 := hp3_0.resolve_left (by omega)
    refine r_bipush hx hb dX12_call_16 (by decide) (fun z5 ez5 => ?_)
    refine lv_iload_n hx hb dX12_call_18 rfl (lv_at hl 1 rfl) ?_
    refine r_imulL (n := 10) hx hb dX12_call_19 (by omega) (by omega) (fun z6 ez6 => ?_)
    refine lv_iload_n hx hb dX12_call_20 rfl (lv_at hl 2 rfl) ?_
    refine r_iadd hx hb dX12_call_21 (by omega) (fun z7 ez7 => ?_)
    refine lv_istore (lv' := [(4, .int z7), (0, .ref (ad 387)), (1, .int a1), (2, .int a2), (3, .int a3)]) hx hb dX12_call_22 hl (by decide) rfl (fun ls hl => ?_)
    refine lv_iload_n hx hb dX12_call_24 rfl (lv_at hl 4 rfl) ?_
    by_cases c8 : a3.toInt = 0
    · refine lv_tableIn (off := 31) (tgt := 56) hx hb dX12_call_25 (by omega) (by omega) (by rw [c8]; rfl) (by decide) ?_
      refine lv_aload_n hx hb dX12_call_56 rfl (lv_at hl 1 rfl) ?_
      refine fg_12_6 (k := 387) hx hb hts in_X12_call_12 hown hK hP (by decide) (by decide) (hts _ lk_X12_call_33) dX12_call_57 ?_
      refine r_bipush hx hb dX12_call_60 (by decide) (fun z9 ez9 => ?_)
      refine lv_iload hx hb dX12_call_62 (lv_at hl 0 rfl) ?_
      refine r_iadd hx hb dX12_call_64 (by omega) (fun z10 ez10 => ?_)
      obtain ⟨j11, ej11⟩ : ∃ j : Nat, z10.toInt = (j : Int) := ⟨_, ti_nat (by omega)⟩
      refine ad_ms (k := 389) (j := j11) hx hb hK hP (by decide) (by decide) ej11 (by omega) dX12_call_65 ?_
      exact r_iret hx hb hr hK hP hS hk dX12_call_66 (show P_X12_call σ0 τ0 a1 a2 a3 (σ2 389 j11) σ2 τ0 from ⟨hR, hF, hFL, by rw [← MS0 u0]; first | (rw [caH_no (by omega)]; omega) | exact caM (o := 91) (by omega) (by omega) (by omega) (by omega) (by omega) (by omega) | exact caM (o := 131) (by omega) (by omega) (by omega) (by omega) (by omega) (by omega) | exact caM (o := 171) (by omega) (by omega) (by omega) (by omega) (by omega) (by omega) | exact caM3 (j := j11) (by omega) (by omega) (by omega) (by omega) (by omega) (by omega) (by omega)⟩)
    by_cases c12 : a3.toInt = 1
    · refine lv_tableIn (off := 42) (tgt := 67) hx hb dX12_call_25 (by omega) (by omega) (by rw [c12]; rfl) (by decide) ?_
      refine lv_aload_n hx hb dX12_call_67 rfl (lv_at hl 1 rfl) ?_
      refine fg_12_6 (k := 387) hx hb hts in_X12_call_12 hown hK hP (by decide) (by decide) (hts _ lk_X12_call_33) dX12_call_68 ?_
      refine r_sipush hx hb dX12_call_71 (by decide) (fun z13 ez13 => ?_)
      refine lv_iload hx hb dX12_call_74 (lv_at hl 0 rfl) ?_
      refine r_iadd hx hb dX12_call_76 (by omega) (fun z14 ez14 => ?_)
      obtain ⟨j15, ej15⟩ : ∃ j : Nat, z14.toInt = (j : Int) := ⟨_, ti_nat (by omega)⟩
      refine ad_ms (k := 389) (j := j15) hx hb hK hP (by decide) (by decide) ej15 (by omega) dX12_call_77 ?_
      exact r_iret hx hb hr hK hP hS hk dX12_call_78 (show P_X12_call σ0 τ0 a1 a2 a3 (σ2 389 j15) σ2 τ0 from ⟨hR, hF, hFL, by rw [← MS0 u0]; first | (rw [caH_no (by omega)]; omega) | exact caM (o := 91) (by omega) (by omega) (by omega) (by omega) (by omega) (by omega) | exact caM (o := 131) (by omega) (by omega) (by omega) (by omega) (by omega) (by omega) | exact caM (o := 171) (by omega) (by omega) (by omega) (by omega) (by omega) (by omega) | exact caM3 (j := j15) (by omega) (by omega) (by omega) (by omega) (by omega) (by omega) (by omega)⟩)
    by_cases c16 : a3.toInt = 2
    · refine lv_tableIn (off := 54) (tgt := 79) hx hb dX12_call_25 (by omega) (by omega) (by rw [c16]; rfl) (by decide) ?_
      refine lv_aload_n hx hb dX12_call_79 rfl (lv_at hl 1 rfl) ?_
      refine fg_12_6 (k := 387) hx hb hts in_X12_call_12 hown hK hP (by decide) (by decide) (hts _ lk_X12_call_33) dX12_call_80 ?_
      refine r_sipush hx hb dX12_call_83 (by decide) (fun z17 ez17 => ?_)
      refine lv_iload hx hb dX12_call_86 (lv_at hl 0 rfl) ?_
      refine r_iadd hx hb dX12_call_88 (by omega) (fun z18 ez18 => ?_)
      obtain ⟨j19, ej19⟩ : ∃ j : Nat, z18.toInt = (j : Int) := ⟨_, ti_nat (by omega)⟩
      refine ad_ms (k := 389) (j := j19) hx hb hK hP (by decide) (by decide) ej19 (by omega) dX12_call_89 ?_
      exact r_iret hx hb hr hK hP hS hk dX12_call_90 (show P_X12_call σ0 τ0 a1 a2 a3 (σ2 389 j19) σ2 τ0 from ⟨hR, hF, hFL, by rw [← MS0 u0]; first | (rw [caH_no (by omega)]; omega) | exact caM (o := 91) (by omega) (by omega) (by omega) (by omega) (by omega) (by omega) | exact caM (o := 131) (by omega) (by omega) (by omega) (by omega) (by omega) (by omega) | exact caM (o := 171) (by omega) (by omega) (by omega) (by omega) (by omega) (by omega) | exact caM3 (j := j19) (by omega) (by omega) (by omega) (by omega) (by omega) (by omega) (by omega)⟩)
    by_cases c20 : a3.toInt = 3
    · refine lv_tableIn (off := 66) (tgt := 91) hx hb dX12_call_25 (by omega) (by omega) (by rw [c20]; rfl) (by decide) ?_
      refine lv_aload_n hx hb dX12_call_91 rfl (lv_at hl 1 rfl) ?_
      refine lv_aload_n hx hb dX12_call_92 rfl (lv_at hl 1 rfl) ?_
      refine fg_12_6 (k := 387) hx hb hts in_X12_call_12 hown hK hP (by decide) (by decide) (hts _ lk_X12_call_33) dX12_call_93 ?_
      refine r_sipush hx hb dX12_call_96 (by decide) (fun z21 ez21 => ?_)
      refine lv_iload hx hb dX12_call_99 (lv_at hl 0 rfl) ?_
      refine r_iadd hx hb dX12_call_101 (by omega) (fun z22 ez22 => ?_)
      obtain ⟨j23, ej23⟩ : ∃ j : Nat, z22.toInt = (j : Int) := ⟨_, ti_nat (by omega)⟩
      refine ad_ms (k := 389) (j := j23) hx hb hK hP (by decide) (by decide) ej23 (by omega) dX12_call_102 ?_
      refine r_cVi (k := 387) (As := [.int (σ2 389 j23)]) (rest := []) ⟨hx, hb, hml, hown, hts⟩ hK hP hN hS (c_X12_valleyOf l D cA ad hI σ2 τ0 hR (σ2 389 j23)) (cwV 1 hts gX12_call_X12_valleyOf rfl rfl rfl (by decide +kernel) ⟨by decide, by decide⟩) (rv_M hK hP (by decide) (by decide)) rfl hl.1 rfl (Nat.le_of_ble_eq_true rfl) dX12_call_103 (Nat.zero_le _) (Nat.zero_le _) (fun r24 u24 H24 locs24 hp24 hP hS => ?_)
      obtain ⟨σ24, τ24⟩ := u24
      obtain ⟨hR, f24, fL24, hq24, hp24_0⟩ : P_X12_valleyOf σ2 τ0 (σ2 389 j23) r24 σ24 τ24 := hp24
      have hP : va_P D vwCl (gw cA ad σ24 τ24) H24 := hP
      obtain rfl := FrL.nil fL24
      obtain rfl := Fr.nil f24
      exact r_iret hx hb hr hK hP hS hk dX12_call_106 (show P_X12_call σ0 τ0 a1 a2 a3 r24 σ2 τ0 from ⟨hR, hF, hFL, by rw [← MS0 u0]; first | (rw [caH_no (by omega)]; omega) | exact caM (o := 91) (by omega) (by omega) (by omega) (by omega) (by omega) (by omega) | exact caM (o := 131) (by omega) (by omega) (by omega) (by omega) (by omega) (by omega) | exact caM (o := 171) (by omega) (by omega) (by omega) (by omega) (by omega) (by omega) | exact caM3 (j := j23) (by omega) (by omega) (by omega) (by omega) (by omega) (by omega) (by omega)⟩)
    refine lv_tableOut (tgt := 107) hx hb dX12_call_25 (by omega) (by decide) ?_
    refine r_iconst hx hb dX12_call_107 (by decide) (fun z25 ez25 => ?_)
    exact r_iret hx hb hr hK hP hS hk dX12_call_108 (show P_X12_call σ0 τ0 a1 a2 a3 z25 σ2 τ0 from ⟨hR, hF, hFL, by rw [← MS0 u0]; first | (rw [caH_no (by omega)]; omega) | exact caM (o := 91) (by omega) (by omega) (by omega) (by omega) (by omega) (by omega) | exact caM (o := 131) (by omega) (by omega) (by omega) (by omega) (by omega) (by omega) | exact caM (o := 171) (by omega) (by omega) (by omega) (by omega) (by omega) (by omega) | exact caM3 (j := 0) (by omega) (by omega) (by omega) (by omega) (by omega) (by omega) (by omega)⟩)
  · clear hp3_0
    refine r_iconst hx hb dX12_call_14 (by decide) (fun z26 ez26 => ?_)
    exact r_iret hx hb hr hK hP hS hk dX12_call_15 (show P_X12_call σ0 τ0 a1 a2 a3 z26 σ2 τ0 from ⟨hR, hF, hFL, by rw [← MS0 u0]; first | (rw [caH_no (by omega)]; omega) | exact caM (o := 91) (by omega) (by omega) (by omega) (by omega) (by omega) (by omega) | exact caM (o := 131) (by omega) (by omega) (by omega) (by omega) (by omega) (by omega) | exact caM (o := 171) (by omega) (by omega) (by omega) (by omega) (by omega) (by omega) | exact caM3 (j := 0) (by omega) (by omega) (by omega) (by omega) (by omega) (by omega) (by omega)⟩)
