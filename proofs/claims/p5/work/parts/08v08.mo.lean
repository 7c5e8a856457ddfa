theorem in_X12_isTrue_12 : ∀ w ∈ u_ws RX12 TX12 47, w ∈ wsX12_isTrue := by decide +kernel
theorem lk_X12_isTrue_33 : Cond.fieldLink RX12 33 "CuckooSharesModel" "s" "[I" ∈ wsX12_isTrue := by decide +kernel
abbrev L_X12_isTrue : List Rc := [(394, 394, 0, 7), (395, 395, 0, 7), (396, 396, 0, 7)]
abbrev LL_X12_isTrue : List Rc := []
def P_X12_isTrue (σ0 : Nat → Nat → Int32) (τ0 : Nat → Nat → Int64) (a1 : Int32) (r : Int32) (σ : Nat → Nat → Int32) (τ : Nat → Nat → Int64) : Prop := Rg σ ∧ Fr L_X12_isTrue σ0 σ ∧ FrL LL_X12_isTrue τ0 τ ∧ (0 ≤ r.toInt ∧ r.toInt ≤ 1)
set_option maxHeartbeats 4000000 in
theorem c_X12_isTrue (l : Launch) (D : va_G) (cA : Nat → ClassId) (ad : Nat → Nat) (hI : Inj ad) (σ0 : Nat → Nat → Int32) (τ0 : Nat → Nat → Int64) (hR : Rg σ0) (a1 : Int32) (ha1 : 0 ≤ a1.toInt ∧ a1.toInt ≤ 7) : Met l yX12_isTrue wsX12_isTrue ({ frames := 3, cells := 0, slots := 0, locals := 69 } : Room) (WQc D cA ad [.ref (ad 387), .int a1] σ0 τ0) (va_Qi (fun (r : Int32) (u : SS) => P_X12_isTrue σ0 τ0 a1 r u.1 u.2) (WB D cA ad) (AA ad)) 0 0 (AA ad) := by
  refine Met.ofW (cc := cX12_isTrue) (maxL := 2) (ret := (some .boolean)) (by decide) rfl ?_
  intro p e s m args below meth c s₁ B hml hv
  obtain ⟨rfl, hP, hK, hN⟩ := hv
  have C : Cy p s m _ meth c cX12_isTrue 2 wsX12_isTrue RX12 D cA ad (some .boolean) := ⟨B.exec, B.bytes, hml, findClass_of_methodNamed B.named, atoms_spec (ws := wsX12_isTrue) B.pre, hK, B.notSynchronized, B.returns, hI, hN⟩
  have hl := lv_entry ([.ref (ad 387), .int a1]) (n := 2) (Nat.le_of_ble_eq_true rfl)
  rw [lg_entry_eq]
  generalize (lg_sl ([.ref (ad 387), .int a1]) ++ List.replicate (2 - (lg_sl ([.ref (ad 387), .int a1])).length) Slot.unset).toArray = ls at hl ⊢
  have hl : lv_has ls 2 [(0, .ref (ad 387)), (1, .int a1)] := hl
  have hS : va_S (AA ad) s.heap s.heap [] := va_S.rf
  have hF : Fr L_X12_isTrue σ0 σ0 := Fr.rf
  have hFL : FrL LL_X12_isTrue τ0 τ0 := FrL.rf
  obtain ⟨hx, hb, _, hown, hts, _, hk, hr, _, _⟩ := C
  refine lv_aload_n hx hb dX12_isTrue_0 rfl (lv_at hl 0 rfl) ?_
  refine r_cVv (k := 387) (As := []) (rest := []) ⟨hx, hb, hml, hown, hts⟩ hK hP hN hS (c_X12_asNow l D cA ad hI σ0 τ0 hR) (cwV 0 hts gX12_isTrue_X12_asNow rfl rfl rfl (by decide +kernel) ⟨by decide, by decide⟩) (rv_M hK hP (by decide) (by decide)) rfl hl.1 rfl (Nat.le_of_ble_eq_true rfl) dX12_isTrue_1 (Nat.zero_le _) (Nat.zero_le _) (fun u1 H1 locs1 hp1 hP hS => ?_)
  obtain ⟨σ1, τ1⟩ := u1
  obtain ⟨hR, f1, fL1⟩ : P_X12_asNow σ0 τ0 σ1 τ1 := hp1
  have hP : va_P D vwCl (gw cA ad σ1 τ1) H1 := hP
  obtain rfl := FrL.nil fL1
  have hF := hF.step f1 (by decide)
  refine lv_aload_n hx hb dX12_isTrue_4 rfl (lv_at hl 0 rfl) ?_
  refine lv_iload_n hx hb dX12_isTrue_5 rfl (lv_at hl 1 rfl) ?_
  refine lv_aload_n hx hb dX12_isTrue_6 rfl (lv_at hl 0 rfl) ?_
  refine fg_12_6 (k := 387) hx hb hts in_X12_isTrue_12 hown hK hP (by decide) (by decide) (hts _ lk_X12_isTrue_33) dX12_isTrue_7 ?_
  refine r_sipush hx hb dX12_isTrue_10 (by decide) (fun z2 ez2 => ?_)
  refine ad_ms (k := 389) (j := 212) hx hb hK hP (by decide) (by decide) (by omega) (by omega) dX12_isTrue_13 ?_
  have hr3 := ra_ms_5 hR (k := 389) (j := 212) (by decide) (by decide) (by decide) (by decide)
  refine r_iconst hx hb dX12_isTrue_14 (by decide) (fun z4 ez4 => ?_)
  refine r_isub hx hb dX12_isTrue_15 (by omega) (fun z5 ez5 => ?_)
  refine lv_aload_n hx hb dX12_isTrue_16 rfl (lv_at hl 0 rfl) ?_
  refine fg_12_6 (k := 387) hx hb hts in_X12_isTrue_12 hown hK hP (by decide) (by decide) (hts _ lk_X12_isTrue_33) dX12_isTrue_17 ?_
  refine r_sipush hx hb dX12_isTrue_20 (by decide) (fun z6 ez6 => ?_)
  refine lv_iload_n hx hb dX12_isTrue_23 rfl (lv_at hl 1 rfl) ?_
  refine r_iadd hx hb dX12_isTrue_24 (by omega) (fun z7 ez7 => ?_)
  obtain ⟨j8, ej8⟩ : ∃ j : Nat, z7.toInt = (j : Int) := ⟨_, ti_nat (by omega)⟩
  refine ad_ms (k := 389) (j := j8) hx hb hK hP (by decide) (by decide) ej8 (by omega) dX12_isTrue_25 ?_
  have hr9 := ra_ms_7 hR (k := 389) (j := j8) (by decide) (by decide) (by omega) (by omega)
  refine r_iconst hx hb dX12_isTrue_26 (by decide) (fun z10 ez10 => ?_)
  refine r_isub hx hb dX12_isTrue_27 (by omega) (fun z11 ez11 => ?_)
  refine r_cVi (k := 387) (As := [.int a1, .int z5, .int z11]) (rest := []) ⟨hx, hb, hml, hown, hts⟩ hK hP hN hS (c_X12_canHear l D cA ad hI σ1 τ0 hR a1 z5 z11 (by omega) (by omega) (by omega)) (cwV 3 hts gX12_isTrue_X12_canHear rfl rfl rfl (by decide +kernel) ⟨by decide, by decide⟩) (rv_M hK hP (by decide) (by decide)) rfl hl.1 rfl (Nat.le_of_ble_eq_true rfl) dX12_isTrue_28 (Nat.zero_le _) (Nat.zero_le _) (fun r12 u12 H12 locs12 hp12 hP hS => ?_)
  obtain ⟨σ12, τ12⟩ := u12
  obtain ⟨hR, f12, fL12, hq12⟩ : P_X12_canHear σ1 τ0 a1 z5 z11 r12 σ12 τ12 := hp12
  have hP : va_P D vwCl (gw cA ad σ12 τ12) H12 := hP
  obtain rfl := FrL.nil fL12
  obtain rfl := Fr.nil f12
  exact r_zret hx hb hr hK hP hS hk (by omega) dX12_isTrue_31 (show P_X12_isTrue σ0 τ0 a1 r12 σ1 τ0 from ⟨hR, hF, hFL, by omega⟩)
theorem in_X12_accuses_12 : ∀ w ∈ u_ws RX12 TX12 47, w ∈ wsX12_accuses := by decide +kernel
theorem lk_X12_accuses_33 : Cond.fieldLink RX12 33 "CuckooSharesModel" "s" "[I" ∈ wsX12_accuses := by decide +kernel
abbrev L_X12_accuses : List Rc := [(394, 394, 0, 7), (395, 395, 0, 7), (396, 396, 0, 7), (389, 389, 222, 237)]
abbrev LL_X12_accuses : List Rc := []
def P_X12_accuses (σ0 : Nat → Nat → Int32) (τ0 : Nat → Nat → Int64) (a1 : Int32) (a2 : Int32) (σ : Nat → Nat → Int32) (τ : Nat → Nat → Int64) : Prop := Rg σ ∧ Fr L_X12_accuses σ0 σ ∧ FrL LL_X12_accuses τ0 τ
set_option maxHeartbeats 4000000 in
theorem c_X12_accuses (l : Launch) (D : va_G) (cA : Nat → ClassId) (ad : Nat → Nat) (hI : Inj ad) (σ0 : Nat → Nat → Int32) (τ0 : Nat → Nat → Int64) (hR : Rg σ0) (a1 : Int32) (a2 : Int32) (ha1 : 0 ≤ a1.toInt ∧ a1.toInt ≤ 7) (ha2 : 0 ≤ a2.toInt ∧ a2.toInt ≤ 7) : Met l yX12_accuses wsX12_accuses ({ frames := 4, cells := 0, slots := 0, locals := 90 } : Room) (WQc D cA ad [.ref (ad 387), .int a1, .int a2] σ0 τ0) (va_Qv (fun u : SS => P_X12_accuses σ0 τ0 a1 a2 u.1 u.2) (WB D cA ad) (AA ad)) 0 0 (AA ad) := by
  refine Met.ofW (cc := cX12_accuses) (maxL := 3) (ret := none) (by decide) rfl ?_
  intro p e s m args below meth c s₁ B hml hv
  obtain ⟨rfl, hP, hK, hN⟩ := hv
  have C : Cy p s m _ meth c cX12_accuses 3 wsX12_accuses RX12 D cA ad none := ⟨B.exec, B.bytes, hml, findClass_of_methodNamed B.named, atoms_spec (ws := wsX12_accuses) B.pre, hK, B.notSynchronized, B.returns, hI, hN⟩
  have hl := lv_entry ([.ref (ad 387), .int a1, .int a2]) (n := 3) (Nat.le_of_ble_eq_true rfl)
  rw [lg_entry_eq]
  generalize (lg_sl ([.ref (ad 387), .int a1, .int a2]) ++ List.replicate (3 - (lg_sl ([.ref (ad 387), .int a1, .int a2])).length) Slot.unset).toArray = ls at hl ⊢
  have hl : lv_has ls 3 [(0, .ref (ad 387)), (1, .int a1), (2, .int a2)] := hl
  have hS : va_S (AA ad) s.heap s.heap [] := va_S.rf
  have hF : Fr L_X12_accuses σ0 σ0 := Fr.rf
  have hFL : FrL LL_X12_accuses τ0 τ0 := FrL.rf
  obtain ⟨hx, hb, _, hown, hts, _, hk, hr, _, _⟩ := C
  refine lv_aload_n hx hb dX12_accuses_0 rfl (lv_at hl 0 rfl) ?_
  refine lv_iload_n hx hb dX12_accuses_1 rfl (lv_at hl 2 rfl) ?_
  refine r_cVi (k := 387) (As := [.int a2]) (rest := []) ⟨hx, hb, hml, hown, hts⟩ hK hP hN hS (c_X12_isTrue l D cA ad hI σ0 τ0 hR a2 (by omega)) (cwV 1 hts gX12_accuses_X12_isTrue rfl rfl rfl (by decide +kernel) ⟨by decide, by decide⟩) (rv_M hK hP (by decide) (by decide)) rfl hl.1 rfl (Nat.le_of_ble_eq_true rfl) dX12_accuses_2 (Nat.zero_le _) (Nat.zero_le _) (fun r1 u1 H1 locs1 hp1 hP hS => ?_)
  obtain ⟨σ1, τ1⟩ := u1
  obtain ⟨hR, f1, fL1, hq1⟩ : P_X12_isTrue σ0 τ0 a2 r1 σ1 τ1 := hp1
  have hP : va_P D vwCl (gw cA ad σ1 τ1) H1 := hP
  obtain rfl := FrL.nil fL1
  have hF := hF.step f1 (by decide)
  refine r_if_eq (tgt := 25) hx hb dX12_accuses_5 (by decide) (fun c2 => ?_) (fun c2 => ?_)
  · refine lv_aload_n hx hb dX12_accuses_25 rfl (lv_at hl 0 rfl) ?_
    refine fg_12_6 (k := 387) hx hb hts in_X12_accuses_12 hown hK hP (by decide) (by decide) (hts _ lk_X12_accuses_33) dX12_accuses_26 ?_
    refine r_sipush hx hb dX12_accuses_29 (by decide) (fun z3 ez3 => ?_)
    refine lv_iload_n hx hb dX12_accuses_32 rfl (lv_at hl 2 rfl) ?_
    refine r_iadd hx hb dX12_accuses_33 (by omega) (fun z4 ez4 => ?_)
    refine r_iconst hx hb dX12_accuses_34 (by decide) (fun z5 ez5 => ?_)
    obtain ⟨j6, ej6⟩ : ∃ j : Nat, z4.toInt = (j : Int) := ⟨_, ti_nat (by omega)⟩
    refine as_ms (k := 389) (j := j6) hx hb hK hP hI hR hS (by decide) (by decide) ej6 (by omega) (rw_ms_7 (by decide) (by decide) (by omega) (by omega) (by omega)) dX12_accuses_35 (fun σ7 H7 locs7 u7 v7 hR hP hS => ?_)
    have hF := hF.puts u7 3 rfl (by decide) (by decide) (by omega) (by omega)
    exact r_vret hx hb hr hK hP hS hk dX12_accuses_36 (show P_X12_accuses σ0 τ0 a1 a2 σ7 τ0 from ⟨hR, hF, hFL⟩)
  · refine lv_aload_n hx hb dX12_accuses_8 rfl (lv_at hl 0 rfl) ?_
    refine fg_12_6 (k := 387) hx hb hts in_X12_accuses_12 hown hK hP (by decide) (by decide) (hts _ lk_X12_accuses_33) dX12_accuses_9 ?_
    refine r_sipush hx hb dX12_accuses_12 (by decide) (fun z8 ez8 => ?_)
    refine lv_iload_n hx hb dX12_accuses_15 rfl (lv_at hl 1 rfl) ?_
    refine r_iadd hx hb dX12_accuses_16 (by omega) (fun z9 ez9 => ?_)
    refine lv_dup2_11 hx hb dX12_accuses_17 rfl rfl ?_
    obtain ⟨j10, ej10⟩ : ∃ j : Nat, z9.toInt = (j : Int) := ⟨_, ti_nat (by omega)⟩
    refine ad_ms (k := 389) (j := j10) hx hb hK hP (by decide) (by decide) ej10 (by omega) dX12_accuses_18 ?_
    refine r_iconst hx hb dX12_accuses_19 (by decide) (fun z11 ez11 => ?_)
    refine r_isubU hx hb dX12_accuses_20 (fun z12 => ?_)
    refine as_ms (k := 389) (j := j10) hx hb hK hP hI hR hS (by decide) (by decide) ej10 (by omega) (rx_ms_222 (by decide) (by decide) (by omega) (by omega)) dX12_accuses_21 (fun σ13 H13 locs13 u13 v13 hR hP hS => ?_)
    have hF := hF.puts u13 3 rfl (by decide) (by decide) (by omega) (by omega)
    refine lv_goto (tgt := 36) hx hb dX12_accuses_22 (by decide) ?_
    exact r_vret hx hb hr hK hP hS hk dX12_accuses_36 (show P_X12_accuses σ0 τ0 a1 a2 σ13 τ0 from ⟨hR, hF, hFL⟩)
theorem in_X12_whyAccuse_12 : ∀ w ∈ u_ws RX12 TX12 47, w ∈ wsX12_whyAccuse := by decide +kernel
theorem lk_X12_whyAccuse_33 : Cond.fieldLink RX12 33 "CuckooSharesModel" "s" "[I" ∈ wsX12_whyAccuse := by decide +kernel
abbrev L_X12_whyAccuse : List Rc := [(394, 394, 0, 7), (395, 395, 0, 7), (396, 396, 0, 7)]
abbrev LL_X12_whyAccuse : List Rc := []
def P_X12_whyAccuse (σ0 : Nat → Nat → Int32) (τ0 : Nat → Nat → Int64) (a1 : Int32) (a2 : Int32) (r : Int32) (σ : Nat → Nat → Int32) (τ : Nat → Nat → Int64) : Prop := Rg σ ∧ Fr L_X12_whyAccuse σ0 σ ∧ FrL LL_X12_whyAccuse τ0 τ ∧ (0 ≤ r.toInt ∧ r.toInt ≤ 4)
set_option maxHeartbeats 4000000 in
theorem c_X12_whyAccuse (l : Launch) (D : va_G) (cA : Nat → ClassId) (ad : Nat → Nat) (hI : Inj ad) (σ0 : Nat → Nat → Int32) (τ0 : Nat → Nat → Int64) (hR : Rg σ0) (a1 : Int32) (a2 : Int32) (ha1 : 0 ≤ a1.toInt ∧ a1.toInt ≤ 7) (ha2 : 0 ≤ a2.toInt ∧ a2.toInt ≤ 7) : Met l yX12_whyAccuse wsX12_whyAccuse ({ frames := 2, cells := 0, slots := 0, locals := 44 } : Room) (WQc D cA ad [.ref (ad 387), .int a1, .int a2] σ0 τ0) (va_Qi (fun (r : Int32) (u : SS) => P_X12_whyAccuse σ0 τ0 a1 a2 r u.1 u.2) (WB D cA ad) (AA ad)) 0 0 (AA ad) := by
  refine Met.ofW (cc := cX12_whyAccuse) (maxL := 5) (ret := (some .int)) (by decide) rfl ?_
  intro p e s m args below meth c s₁ B hml hv
  obtain ⟨rfl, hP, hK, hN⟩ := hv
  have C : Cy p s m _ meth c cX12_whyAccuse 5 wsX12_whyAccuse RX12 D cA ad (some .int) := ⟨B.exec, B.bytes, hml, findClass_of_methodNamed B.named, atoms_spec (ws := wsX12_whyAccuse) B.pre, hK, B.notSynchronized, B.returns, hI, hN⟩
  have hl := lv_entry ([.ref (ad 387), .int a1, .int a2]) (n := 5) (Nat.le_of_ble_eq_true rfl)
  rw [lg_entry_eq]
  generalize (lg_sl ([.ref (ad 387), .int a1, .int a2]) ++ List.replicate (5 - (lg_sl ([.ref (ad 387), .int a1, .int a2])).length) Slot.unset).toArray = ls at hl ⊢
  have hl : lv_has ls 5 [(0, .ref (ad 387)), (1, .int a1), (2, .int a2)] := hl
  have hS : va_S (AA ad) s.heap s.heap [] := va_S.rf
  have hF : Fr L_X12_whyAccuse σ0 σ0 := Fr.rf
  have hFL : FrL LL_X12_whyAccuse τ0 τ0 := FrL.rf
  obtain ⟨hx, hb, _, hown, hts, _, hk, hr, _, _⟩ := C
  refine lv_aload_n hx hb dX12_whyAccuse_0 rfl (lv_at hl 0 rfl) ?_
  refine fg_12_6 (k := 387) hx hb hts in_X12_whyAccuse_12 hown hK hP (by decide) (by decide) (hts _ lk_X12_whyAccuse_33) dX12_whyAccuse_1 ?_
  refine r_sipush hx hb dX12_whyAccuse_4 (by decide) (fun z1 ez1 => ?_)
  refine lv_iload_n hx hb dX12_whyAccuse_7 rfl (lv_at hl 2 rfl) ?_
  refine r_iadd hx hb dX12_whyAccuse_8 (by omega) (fun z2 ez2 => ?_)
  obtain ⟨j3, ej3⟩ : ∃ j : Nat, z2.toInt = (j : Int) := ⟨_, ti_nat (by omega)⟩
  refine ad_ms (k := 389) (j := j3) hx hb hK hP (by decide) (by decide) ej3 (by omega) dX12_whyAccuse_9 ?_
  have hr4 := ra_ms_7 hR (k := 389) (j := j3) (by decide) (by decide) (by omega) (by omega)
  refine r_if_ne (tgt := 15) hx hb dX12_whyAccuse_10 (by decide) (fun c5 => ?_) (fun c5 => ?_)
  · refine lv_aload_n hx hb dX12_whyAccuse_15 rfl (lv_at hl 0 rfl) ?_
    refine r_cVv (k := 387) (As := []) (rest := []) ⟨hx, hb, hml, hown, hts⟩ hK hP hN hS (c_X12_asNow l D cA ad hI σ0 τ0 hR) (cwV 0 hts gX12_whyAccuse_X12_asNow rfl rfl rfl (by decide +kernel) ⟨by decide, by decide⟩) (rv_M hK hP (by decide) (by decide)) rfl hl.1 rfl (Nat.le_of_ble_eq_true rfl) dX12_whyAccuse_16 (Nat.zero_le _) (Nat.zero_le _) (fun u6 H6 locs6 hp6 hP hS => ?_)
    obtain ⟨σ6, τ6⟩ := u6
    obtain ⟨hR, f6, fL6⟩ : P_X12_asNow σ0 τ0 σ6 τ6 := hp6
    have hP : va_P D vwCl (gw cA ad σ6 τ6) H6 := hP
    obtain rfl := FrL.nil fL6
    have hF := hF.step f6 (by decide)
    refine lv_aload_n hx hb dX12_whyAccuse_19 rfl (lv_at hl 0 rfl) ?_
    refine fg_12_6 (k := 387) hx hb hts in_X12_whyAccuse_12 hown hK hP (by decide) (by decide) (hts _ lk_X12_whyAccuse_33) dX12_whyAccuse_20 ?_
    refine r_sipush hx hb dX12_whyAccuse_23 (by decide) (fun z7 ez7 => ?_)
    refine ad_ms (k := 389) (j := 212) hx hb hK hP (by decide) (by decide) (by omega) (by omega) dX12_whyAccuse_26 ?_
    have hr8 := ra_ms_5 hR (k := 389) (j := 212) (by decide) (by decide) (by decide) (by decide)
    refine r_iconst hx hb dX12_whyAccuse_27 (by decide) (fun z9 ez9 => ?_)
    refine r_isub hx hb dX12_whyAccuse_28 (by omega) (fun z10 ez10 => ?_)
    refine lv_istore_n (lv' := [(3, .int z10), (0, .ref (ad 387)), (1, .int a1), (2, .int a2)]) hx hb dX12_whyAccuse_29 rfl hl (by decide) rfl (fun ls hl => ?_)
    refine lv_aload_n hx hb dX12_whyAccuse_30 rfl (lv_at hl 1 rfl) ?_
    refine fg_12_6 (k := 387) hx hb hts in_X12_whyAccuse_12 hown hK hP (by decide) (by decide) (hts _ lk_X12_whyAccuse_33) dX12_whyAccuse_31 ?_
    refine r_sipush hx hb dX12_whyAccuse_34 (by decide) (fun z11 ez11 => ?_)
    refine lv_iload_n hx hb dX12_whyAccuse_37 rfl (lv_at hl 3 rfl) ?_
    refine r_iadd hx hb dX12_whyAccuse_38 (by omega) (fun z12 ez12 => ?_)
    refine ad_ms (k := 389) (j := j3) hx hb hK hP (by decide) (by decide) (by omega) (by omega) dX12_whyAccuse_39 ?_
    have hr13 := ra_ms_7 hR (k := 389) (j := j3) (by decide) (by decide) (by omega) (by omega)
    refine r_iconst hx hb dX12_whyAccuse_40 (by decide) (fun z14 ez14 => ?_)
    refine r_isub hx hb dX12_whyAccuse_41 (by omega) (fun z15 ez15 => ?_)
    refine lv_istore (lv' := [(4, .int z15), (3, .int z10), (0, .ref (ad 387)), (1, .int a1), (2, .int a2)]) hx hb dX12_whyAccuse_42 hl (by decide) rfl (fun ls hl => ?_)
    refine lv_aload_n hx hb dX12_whyAccuse_44 rfl (lv_at hl 2 rfl) ?_
    refine lv_iload_n hx hb dX12_whyAccuse_45 rfl (lv_at hl 3 rfl) ?_
    refine lv_iload_n hx hb dX12_whyAccuse_46 rfl (lv_at hl 1 rfl) ?_
    refine lv_iload hx hb dX12_whyAccuse_47 (lv_at hl 0 rfl) ?_
    refine r_cVi (k := 387) (As := [.int a1, .int z10, .int z15]) (rest := []) ⟨hx, hb, hml, hown, hts⟩ hK hP hN hS (c_X12_farOf l D cA ad hI σ6 τ0 hR a1 z10 z15 (by omega) (by omega) (by omega)) (cwV 3 hts gX12_whyAccuse_X12_farOf rfl rfl rfl (by decide +kernel) ⟨by decide, by decide⟩) (rv_M hK hP (by decide) (by decide)) rfl hl.1 rfl (Nat.le_of_ble_eq_true rfl) dX12_whyAccuse_49 (Nat.zero_le _) (Nat.zero_le _) (fun r16 u16 H16 locs16 hp16 hP hS => ?_)
    obtain ⟨σ16, τ16⟩ := u16
    obtain ⟨hR, f16, fL16⟩ : P_X12_farOf σ6 τ0 a1 z10 z15 r16 σ16 τ16 := hp16
    have hP : va_P D vwCl (gw cA ad σ16 τ16) H16 := hP
    obtain rfl := FrL.nil fL16
    obtain rfl := Fr.nil f16
    refine lv_aload_n hx hb dX12_whyAccuse_52 rfl (lv_at hl 2 rfl) ?_
    refine lv_iload_n hx hb dX12_whyAccuse_53 rfl (lv_at hl 4 rfl) ?_
    refine lv_iload_n hx hb dX12_whyAccuse_54 rfl (lv_at hl 1 rfl) ?_
    refine lv_iload hx hb dX12_whyAccuse_55 (lv_at hl 0 rfl) ?_
    refine r_cVi (k := 387) (As := [.int a2, .int z10, .int z15]) (rest := [.int r16]) ⟨hx, hb, hml, hown, hts⟩ hK hP hN hS (c_X12_farOf l D cA ad hI σ6 τ0 hR a2 z10 z15 (by omega) (by omega) (by omega)) (cwV 3 hts gX12_whyAccuse_X12_farOf rfl rfl rfl (by decide +kernel) ⟨by decide, by decide⟩) (rv_M hK hP (by decide) (by decide)) rfl hl.1 rfl (Nat.le_of_ble_eq_true rfl) dX12_whyAccuse_57 (Nat.zero_le _) (Nat.zero_le _) (fun r17 u17 H17 locs17 hp17 hP hS => ?_)
    obtain ⟨σ17, τ17⟩ := u17
    obtain ⟨hR, f17, fL17⟩ : P_X12_farOf σ6 τ0 a2 z10 z15 r17 σ17 τ17 := hp17
    have hP : va_P D vwCl (gw cA ad σ17 τ17) H17 := hP
    obtain rfl := FrL.nil fL17
    obtain rfl := Fr.nil f17
    refine r_icmp_lt (tgt := 65) hx hb dX12_whyAccuse_60 (by decide) (fun c18 => ?_) (fun c18 => ?_)
    · refine lv_aload_n hx hb dX12_whyAccuse_65 rfl (lv_at hl 2 rfl) ?_
      refine fg_12_6 (k := 387) hx hb hts in_X12_whyAccuse_12 hown hK hP (by decide) (by decide) (hts _ lk_X12_whyAccuse_33) dX12_whyAccuse_66 ?_
      refine r_sipush hx hb dX12_whyAccuse_69 (by decide) (fun z19 ez19 => ?_)
      refine lv_iload_n hx hb dX12_whyAccuse_72 rfl (lv_at hl 3 rfl) ?_
      refine r_iadd hx hb dX12_whyAccuse_73 (by omega) (fun z20 ez20 => ?_)
      obtain ⟨j21, ej21⟩ : ∃ j : Nat, z20.toInt = (j : Int) := ⟨_, ti_nat (by omega)⟩
      refine ad_ms (k := 389) (j := j21) hx hb hK hP (by decide) (by decide) ej21 (by omega) dX12_whyAccuse_74 ?_
      have hr22 := ra_ms_7 hR (k := 389) (j := j21) (by decide) (by decide) (by omega) (by omega)
      refine lv_aload_n hx hb dX12_whyAccuse_75 rfl (lv_at hl 2 rfl) ?_
      refine fg_12_6 (k := 387) hx hb hts in_X12_whyAccuse_12 hown hK hP (by decide) (by decide) (hts _ lk_X12_whyAccuse_33) dX12_whyAccuse_76 ?_
      refine r_sipush hx hb dX12_whyAccuse_79 (by decide) (fun z23 ez23 => ?_)
      refine lv_iload_n hx hb dX12_whyAccuse_82 rfl (lv_at hl 4 rfl) ?_
      refine r_iadd hx hb dX12_whyAccuse_83 (by omega) (fun z24 ez24 => ?_)
      refine ad_ms (k := 389) (j := j3) hx hb hK hP (by decide) (by decide) (by omega) (by omega) dX12_whyAccuse_84 ?_
      have hr25 := ra_ms_7 hR (k := 389) (j := j3) (by decide) (by decide) (by omega) (by omega)
      refine r_icmp_ne (tgt := 92) hx hb dX12_whyAccuse_85 (by decide) (fun c26 => ?_) (fun c26 => ?_)
      · refine lv_aload_n hx hb dX12_whyAccuse_92 rfl (lv_at hl 2 rfl) ?_
        refine fg_12_6 (k := 387) hx hb hts in_X12_whyAccuse_12 hown hK hP (by decide) (by decide) (hts _ lk_X12_whyAccuse_33) dX12_whyAccuse_93 ?_
        refine r_sipush hx hb dX12_whyAccuse_96 (by decide) (fun z27 ez27 => ?_)
        refine lv_iload_n hx hb dX12_whyAccuse_99 rfl (lv_at hl 3 rfl) ?_
        refine r_iadd hx hb dX12_whyAccuse_100 (by omega) (fun z28 ez28 => ?_)
        obtain ⟨j29, ej29⟩ : ∃ j : Nat, z28.toInt = (j : Int) := ⟨_, ti_nat (by omega)⟩
        refine ad_ms (k := 389) (j := j29) hx hb hK hP (by decide) (by decide) ej29 (by omega) dX12_whyAccuse_101 ?_
        refine r_if_ne (tgt := 109) hx hb dX12_whyAccuse_102 (by decide) (fun c30 => ?_) (fun c30 => ?_)
        · refine r_iconst hx hb dX12_whyAccuse_109 (by decide) (fun z31 ez31 => ?_)
          exact r_iret hx hb hr hK hP hS hk dX12_whyAccuse_110 (show P_X12_whyAccuse σ0 τ0 a1 a2 z31 σ6 τ0 from ⟨hR, hF, hFL, by omega⟩)
        · refine r_iconst hx hb dX12_whyAccuse_105 (by decide) (fun z32 ez32 => ?_)
          refine lv_goto (tgt := 110) hx hb dX12_whyAccuse_106 (by decide) ?_
          exact r_iret hx hb hr hK hP hS hk dX12_whyAccuse_110 (show P_X12_whyAccuse σ0 τ0 a1 a2 z32 σ6 τ0 from ⟨hR, hF, hFL, by omega⟩)
      · refine r_iconst hx hb dX12_whyAccuse_88 (by decide) (fun z33 ez33 => ?_)
        refine lv_goto (tgt := 110) hx hb dX12_whyAccuse_89 (by decide) ?_
        exact r_iret hx hb hr hK hP hS hk dX12_whyAccuse_110 (show P_X12_whyAccuse σ0 τ0 a1 a2 z33 σ6 τ0 from ⟨hR, hF, hFL, by omega⟩)
    · refine r_iconst hx hb dX12_whyAccuse_63 (by decide) (fun z34 ez34 => ?_)
      exact r_iret hx hb hr hK hP hS hk dX12_whyAccuse_64 (show P_X12_whyAccuse σ0 τ0 a1 a2 z34 σ6 τ0 from ⟨hR, hF, hFL, by omega⟩)
  · refine r_iconst hx hb dX12_whyAccuse_13 (by decide) (fun z35 ez35 => ?_)
    exact r_iret hx hb hr hK hP hS hk dX12_whyAccuse_14 (show P_X12_whyAccuse σ0 τ0 a1 a2 z35 σ0 τ0 from ⟨hR, hF, hFL, by omega⟩)
theorem in_X12_accuse_12 : ∀ w ∈ u_ws RX12 TX12 47, w ∈ wsX12_accuse := by decide +kernel
theorem lk_X12_accuse_1 : Cond.fieldLink RX12 1 "CuckooSharesModel" "thrown" "I" ∈ wsX12_accuse := by decide +kernel
abbrev L_X12_accuse : List Rc := [(387, 387, 0, 0), (394, 394, 0, 7), (395, 395, 0, 7), (396, 396, 0, 7), (387, 387, 29, 29), (398, 398, 0, 279), (389, 389, 222, 237)]
abbrev LL_X12_accuse : List Rc := []
def P_X12_accuse (σ0 : Nat → Nat → Int32) (τ0 : Nat → Nat → Int64) (a1 : Int32) (a2 : Int32) (r : Int32) (σ : Nat → Nat → Int32) (τ : Nat → Nat → Int64) : Prop := Rg σ ∧ Fr L_X12_accuse σ0 σ ∧ FrL LL_X12_accuse τ0 τ ∧ (-1 ≤ r.toInt ∧ r.toInt ≤ 4)
set_option maxHeartbeats 4000000 in
theorem c_X12_accuse (l : Launch) (D : va_G) (cA : Nat → ClassId) (ad : Nat → Nat) (hI : Inj ad) (σ0 : Nat → Nat → Int32) (τ0 : Nat → Nat → Int64) (hR : Rg σ0) (a1 : Int32) (a2 : Int32)  : Met l yX12_accuse wsX12_accuse ({ frames := 5, cells := 0, slots := 0, locals := 112 } : Room) (WQc D cA ad [.ref (ad 387), .int a1, .int a2] σ0 τ0) (va_Qi (fun (r : Int32) (u : SS) => P_X12_accuse σ0 τ0 a1 a2 r u.1 u.2) (WB D cA ad) (AA ad)) 0 0 (AA ad) := by
  refine Met.ofW (cc := cX12_accuse) (maxL := 4) (ret := (some .int)) (by decide) rfl ?_
  intro p e s m args below meth c s₁ B hml hv
  obtain ⟨rfl, hP, hK, hN⟩ := hv
  have C : Cy p s m _ meth c cX12_accuse 4 wsX12_accuse RX12 D cA ad (some .int) := ⟨B.exec, B.bytes, hml, findClass_of_methodNamed B.named, atoms_spec (ws := wsX12_accuse) B.pre, hK, B.notSynchronized, B.returns, hI, hN⟩
  have hl := lv_entry ([.ref (ad 387), .int a1, .int a2]) (n := 4) (Nat.le_of_ble_eq_true rfl)
  rw [lg_entry_eq]
  generalize (lg_sl ([.ref (ad 387), .int a1, .int a2]) ++ List.replicate (4 - (lg_sl ([.ref (ad 387), .int a1, .int a2])).length) Slot.unset).toArray = ls at hl ⊢
  have hl : lv_has ls 4 [(0, .ref (ad 387)), (1, .int a1), (2, .int a2)] := hl
  have hS : va_S (AA ad) s.heap s.heap [] := va_S.rf
  have hF : Fr L_X12_accuse σ0 σ0 := Fr.rf
  have hFL : FrL LL_X12_accuse τ0 τ0 := FrL.rf
  obtain ⟨hx, hb, _, hown, hts, _, hk, hr, _, _⟩ := C
  refine lv_aload_n hx hb dX12_accuse_0 rfl (lv_at hl 0 rfl) ?_
  refine r_iconst hx hb dX12_accuse_1 (by decide) (fun z1 ez1 => ?_)
  refine fp_12_0 (k := 387) hx hb hts in_X12_accuse_12 hown hK hP (by decide) (by decide) (hts _ lk_X12_accuse_1) hI hR hS (by omega) dX12_accuse_2 (fun σ2 H2 locs2 u2 v2 hR hP hS => ?_)
  have hF := hF.puts u2 0 rfl (by decide) (by decide) (by decide) (by decide)
  refine lv_aload_n hx hb dX12_accuse_5 rfl (lv_at hl 0 rfl) ?_
  refine lv_iload_n hx hb dX12_accuse_6 rfl (lv_at hl 1 rfl) ?_
  refine r_cVi (k := 387) (As := [.int a1]) (rest := []) ⟨hx, hb, hml, hown, hts⟩ hK hP hN hS (c_X12_isMan l D cA ad hI σ2 τ0 hR a1) (cwV 1 hts gX12_accuse_X12_isMan rfl rfl rfl (by decide +kernel) ⟨by decide, by decide⟩) (rv_M hK hP (by decide) (by decide)) rfl hl.1 rfl (Nat.le_of_ble_eq_true rfl) dX12_accuse_7 (Nat.zero_le _) (Nat.zero_le _) (fun r3 u3 H3 locs3 hp3 hP hS => ?_)
  obtain ⟨σ3, τ3⟩ := u3
  obtain ⟨hR, f3, fL3, hq3, hp3_0⟩ : P_X12_isMan σ2 τ0 a1 r3 σ3 τ3 := hp3
  have hP : va_P D vwCl (gw cA ad σ3 τ3) H3 := hP
  obtain rfl := FrL.nil fL3
  obtain rfl := Fr.nil f3
  refine r_if_eq (tgt := 26) hx hb dX12_accuse_10 (by decide) (fun c4 => ?_) (fun c4 => ?_)
  · clear hp3_0
    refine r_iconst hx hb dX12_accuse_26 (by decide) (fun z5 ez5 => ?_)
    exact r_iret hx hb hr hK hP hS hk dX12_accuse_27 (show P_X12_accuse σ0 τ0 a1 a2 z5 σ2 τ0 from ⟨hR, hF, hFL, by omega⟩)
  · replace hp3_0 := hp3_0.resolve_left (by omega)
    refine lv_aload_n hx hb dX12_accuse_13 rfl (lv_at hl 0 rfl) ?_
    refine lv_iload_n hx hb dX12_accuse_14 rfl (lv_at hl 2 rfl) ?_
    refine r_cVi (k := 387) (As := [.int a2]) (rest := []) ⟨hx, hb, hml, hown, hts⟩ hK hP hN hS (c_X12_isMan l D cA ad hI σ2 τ0 hR a2) (cwV 1 hts gX12_accuse_X12_isMan rfl rfl rfl (by decide +kernel) ⟨by decide, by decide⟩) (rv_M hK hP (by decide) (by decide)) rfl hl.1 rfl (Nat.le_of_ble_eq_true rfl) dX12_accuse_15 (Nat.zero_le _) (Nat.zero_le _) (fun r6 u6 H6 locs6 hp6 hP hS => ?_)
    obtain ⟨σ6, τ6⟩ := u6
    obtain ⟨hR, f6, fL6, hq6, hp6_0⟩ : P_X12_isMan σ2 τ0 a2 r6 σ6 τ6 := hp6
    have hP : va_P D vwCl (gw cA ad σ6 τ6) H6 := hP
    obtain rfl := FrL.nil fL6
    obtain rfl := Fr.nil f6
    refine r_if_eq (tgt := 26) hx hb dX12_accuse_18 (by decide) (fun c7 => ?_) (fun c7 => ?_)
    · clear hp6_0
      refine r_iconst hx hb dX12_accuse_26 (by decide) (fun z8 ez8 => ?_)
      exact r_iret hx hb hr hK hP hS hk dX12_accuse_27 (show P_X12_accuse σ0 τ0 a1 a2 z8 σ2 τ0 from ⟨hR, hF, hFL, by omega⟩)
    · replace hp6_0 := hp6_0.resolve_left (by omega)
      refine lv_iload_n hx hb dX12_accuse_21 rfl (lv_at hl 1 rfl) ?_
      refine lv_iload_n hx hb dX12_accuse_22 rfl (lv_at hl 2 rfl) ?_
      refine r_icmp_ne (tgt := 28) hx hb dX12_accuse_23 (by decide) (fun c9 => ?_) (fun c9 => ?_)
      · refine lv_aload_n hx hb dX12_accuse_28 rfl (lv_at hl 0 rfl) ?_
        refine lv_iload_n hx hb dX12_accuse_29 rfl (lv_at hl 1 rfl) ?_
        refine lv_iload_n hx hb dX12_accuse_30 rfl (lv_at hl 2 rfl) ?_
        refine r_cVi (k := 387) (As := [.int a1, .int a2]) (rest := []) ⟨hx, hb, hml, hown, hts⟩ hK hP hN hS (c_X12_whyAccuse l D cA ad hI σ2 τ0 hR a1 a2 (by omega) (by omega)) (cwV 2 hts gX12_accuse_X12_whyAccuse rfl rfl rfl (by decide +kernel) ⟨by decide, by decide⟩) (rv_M hK hP (by decide) (by decide)) rfl hl.1 rfl (Nat.le_of_ble_eq_true rfl) dX12_accuse_31 (Nat.zero_le _) (Nat.zero_le _) (fun r10 u10 H10 locs10 hp10 hP hS => ?_)
        obtain ⟨σ10, τ10⟩ := u10
        obtain ⟨hR, f10, fL10, hq10⟩ : P_X12_whyAccuse σ2 τ0 a1 a2 r10 σ10 τ10 := hp10
        have hP : va_P D vwCl (gw cA ad σ10 τ10) H10 := hP
        obtain rfl := FrL.nil fL10
        have hF := hF.step f10 (by decide)
        refine lv_istore_n (lv' := [(3, .int r10), (0, .ref (ad 387)), (1, .int a1), (2, .int a2)]) hx hb dX12_accuse_34 rfl hl (by decide) rfl (fun ls hl => ?_)
        refine lv_iload_n hx hb dX12_accuse_35 rfl (lv_at hl 0 rfl) ?_
        refine r_if_le (tgt := 41) hx hb dX12_accuse_36 (by decide) (fun c11 => ?_) (fun c11 => ?_)
        · refine lv_aload_n hx hb dX12_accuse_41 rfl (lv_at hl 1 rfl) ?_
          refine r_cVv (k := 387) (As := []) (rest := []) ⟨hx, hb, hml, hown, hts⟩ hK hP hN hS (c_X12_keep l D cA ad hI σ10 τ0 hR) (cwV 0 hts gX12_accuse_X12_keep rfl rfl rfl (by decide +kernel) ⟨by decide, by decide⟩) (rv_M hK hP (by decide) (by decide)) rfl hl.1 rfl (Nat.le_of_ble_eq_true rfl) dX12_accuse_42 (Nat.zero_le _) (Nat.zero_le _) (fun u12 H12 locs12 hp12 hP hS => ?_)
          obtain ⟨σ12, τ12⟩ := u12
          obtain ⟨hR, f12, fL12, hp12_0⟩ : P_X12_keep σ10 τ0 σ12 τ12 := hp12
          have hP : va_P D vwCl (gw cA ad σ12 τ12) H12 := hP
          obtain rfl := FrL.nil fL12
          have hF := hF.step f12 (by decide)
          refine lv_aload_n hx hb dX12_accuse_45 rfl (lv_at hl 1 rfl) ?_
          refine lv_iload_n hx hb dX12_accuse_46 rfl (lv_at hl 2 rfl) ?_
          refine lv_iload_n hx hb dX12_accuse_47 rfl (lv_at hl 3 rfl) ?_
          refine r_cVv (k := 387) (As := [.int a1, .int a2]) (rest := []) ⟨hx, hb, hml, hown, hts⟩ hK hP hN hS (c_X12_accuses l D cA ad hI σ12 τ0 hR a1 a2 (by omega) (by omega)) (cwV 2 hts gX12_accuse_X12_accuses rfl rfl rfl (by decide +kernel) ⟨by decide, by decide⟩) (rv_M hK hP (by decide) (by decide)) rfl hl.1 rfl (Nat.le_of_ble_eq_true rfl) dX12_accuse_48 (Nat.zero_le _) (Nat.zero_le _) (fun u13 H13 locs13 hp13 hP hS => ?_)
          obtain ⟨σ13, τ13⟩ := u13
          obtain ⟨hR, f13, fL13⟩ : P_X12_accuses σ12 τ0 a1 a2 σ13 τ13 := hp13
          have hP : va_P D vwCl (gw cA ad σ13 τ13) H13 := hP
          obtain rfl := FrL.nil fL13
          have hF := hF.step f13 (by decide)
          have t14 : (σ13 387 29).toInt = (σ12 387 29).toInt := congrArg Int32.toInt (f13.at 387 29 (by decide))
          refine r_iconst hx hb dX12_accuse_51 (by decide) (fun z15 ez15 => ?_)
          exact r_iret hx hb hr hK hP hS hk dX12_accuse_52 (show P_X12_accuse σ0 τ0 a1 a2 z15 σ13 τ0 from ⟨hR, hF, hFL, by omega⟩)
        · refine lv_iload_n hx hb dX12_accuse_39 rfl (lv_at hl 0 rfl) ?_
          exact r_iret hx hb hr hK hP hS hk dX12_accuse_40 (show P_X12_accuse σ0 τ0 a1 a2 r10 σ10 τ0 from ⟨hR, hF, hFL, by omega⟩)
      · refine r_iconst hx hb dX12_accuse_26 (by decide) (fun z16 ez16 => ?_)
        exact r_iret hx hb hr hK hP hS hk dX12_accuse_27 (show P_X12_accuse σ0 τ0 a1 a2 z16 σ2 τ0 from ⟨hR, hF, hFL, by omega⟩)
theorem in_X12_ends_12 : ∀ w ∈ u_ws RX12 TX12 47, w ∈ wsX12_ends := by decide +kernel
theorem lk_X12_ends_33 : Cond.fieldLink RX12 33 "CuckooSharesModel" "s" "[I" ∈ wsX12_ends := by decide +kernel
theorem lk_X12_ends_59 : Cond.fieldLink RX12 59 "CuckooSharesModel" "shares" "[I" ∈ wsX12_ends := by decide +kernel
abbrev L_X12_ends : List Rc := [(389, 389, 211, 213), (389, 389, 230, 245)]
abbrev LL_X12_ends : List Rc := []
def P_X12_ends (σ0 : Nat → Nat → Int32) (τ0 : Nat → Nat → Int64)  (σ : Nat → Nat → Int32) (τ : Nat → Nat → Int64) : Prop := Rg σ ∧ Fr L_X12_ends σ0 σ ∧ FrL LL_X12_ends τ0 τ
def J_X12_ends_2 (p : Program) (l : Launch) (e : Env) (s : State) (m : MethodId) (args : Array Value) (below : List Frame) (meth : Method) (c : Code) (D : va_G) (cA : Nat → ClassId) (ad : Nat → Nat) (σ0 : Nat → Nat → Int32) (τ0 : Nat → Nat → Int64)  (n : Nat) : Prop := ∀ (σ : Nat → Nat → Int32) (τ : Nat → Nat → Int64) (H : Heap) (locs : List Loc) (x1 : Int32) (ls : Array Slot), Rg σ → Fr L_X12_ends σ0 σ → FrL LL_X12_ends τ0 τ → va_P D vwCl (gw cA ad σ τ) H → va_S (AA ad) s.heap H locs → (0 ≤ x1.toInt ∧ x1.toInt ≤ 8) → lv_has ls 2 [(0, .ref (ad 387)), (1, .int x1)] → 2 * (8 - x1.toInt) + 1 < (n : Int) → W p l e ({ frames := 0, cells := 0, slots := 0, locals := 0 } : Room) s m args below meth c H locs 0 0 (MQ below (va_Qv (fun u : SS => P_X12_ends σ0 τ0 u.1 u.2) (WB D cA ad) (AA ad)) args s 0 0 (AA ad)) (F0 m 2 ls [])
set_option maxHeartbeats 4000000 in
theorem B_X12_ends_2 (p : Program) (l : Launch) (e : Env) (s : State) (m : MethodId) (args : Array Value) (below : List Frame) (meth : Method) (c : Code) (D : va_G) (cA : Nat → ClassId) (ad : Nat → Nat) (σ0 : Nat → Nat → Int32) (τ0 : Nat → Nat → Int64)  (n : Nat) (C : Cy p s m args meth c cX12_ends 2 wsX12_ends RX12 D cA ad none)  (K2 : J_X12_ends_2 p l e s m args below meth c D cA ad σ0 τ0 n) : J_X12_ends_2 p l e s m args below meth c D cA ad σ0 τ0 (n + 1) := by
  obtain ⟨hx, hb, hml, hown, hts, hK, hk, hr, hI, hN⟩ := C
  intro σ τ H locs x1 ls hR hF hFL hP hS hc0 hl hm
  obtain rfl := FrL.nil hFL
  refine lv_iload_n hx hb dX12_ends_2 rfl (lv_at hl 1 rfl) ?_
  refine r_bipush hx hb dX12_ends_3 (by decide) (fun z1 ez1 => ?_)
  refine r_icmp_ge (tgt := 44) hx hb dX12_ends_5 (by decide) (fun c2 => ?_) (fun c2 => ?_)
  · refine lv_aload_n hx hb dX12_ends_44 rfl (lv_at hl 0 rfl) ?_
    refine fg_12_6 (k := 387) hx hb hts in_X12_ends_12 hown hK hP (by decide) (by decide) (hts _ lk_X12_ends_33) dX12_ends_45 ?_
    refine r_sipush hx hb dX12_ends_48 (by decide) (fun z3 ez3 => ?_)
    refine lv_dup2_11 hx hb dX12_ends_51 rfl rfl ?_
    refine ad_ms (k := 389) (j := 211) hx hb hK hP (by decide) (by decide) (by omega) (by omega) dX12_ends_52 ?_
    refine r_iconst hx hb dX12_ends_53 (by decide) (fun z4 ez4 => ?_)
    refine r_iaddU hx hb dX12_ends_54 (fun z5 => ?_)
    refine as_ms (k := 389) (j := 211) hx hb hK hP hI hR hS (by decide) (by decide) (by omega) (by omega) (rx_ms_91 (by decide) (by decide) (by decide) (by decide)) dX12_ends_55 (fun σ6 H6 locs6 u6 v6 hR hP hS => ?_)
    have hF := hF.puts u6 0 rfl (by decide) (by decide) (by decide) (by decide)
    refine lv_aload_n hx hb dX12_ends_56 rfl (lv_at hl 0 rfl) ?_
    refine fg_12_6 (k := 387) hx hb hts in_X12_ends_12 hown hK hP (by decide) (by decide) (hts _ lk_X12_ends_33) dX12_ends_57 ?_
    refine r_sipush hx hb dX12_ends_60 (by decide) (fun z7 ez7 => ?_)
    refine r_iconst hx hb dX12_ends_63 (by decide) (fun z8 ez8 => ?_)
    refine as_ms (k := 389) (j := 212) hx hb hK hP hI hR hS (by decide) (by decide) (by omega) (by omega) (rw_ms_5 (by decide) (by decide) (by decide) (by decide) (by omega)) dX12_ends_64 (fun σ9 H9 locs9 u9 v9 hR hP hS => ?_)
    have hF := hF.puts u9 0 rfl (by decide) (by decide) (by decide) (by decide)
    refine lv_aload_n hx hb dX12_ends_65 rfl (lv_at hl 0 rfl) ?_
    refine fg_12_6 (k := 387) hx hb hts in_X12_ends_12 hown hK hP (by decide) (by decide) (hts _ lk_X12_ends_33) dX12_ends_66 ?_
    refine r_sipush hx hb dX12_ends_69 (by decide) (fun z10 ez10 => ?_)
    refine r_iconst hx hb dX12_ends_72 (by decide) (fun z11 ez11 => ?_)
    refine as_ms (k := 389) (j := 213) hx hb hK hP hI hR hS (by decide) (by decide) (by omega) (by omega) (rx_ms_213 (by decide) (by decide) (by decide) (by decide)) dX12_ends_73 (fun σ12 H12 locs12 u12 v12 hR hP hS => ?_)
    have hF := hF.puts u12 0 rfl (by decide) (by decide) (by decide) (by decide)
    exact r_vret hx hb hr hK hP hS hk dX12_ends_74 (show P_X12_ends σ0 τ0 σ12 τ0 from ⟨hR, hF, hFL⟩)
  · refine lv_aload_n hx hb dX12_ends_8 rfl (lv_at hl 0 rfl) ?_
    refine fg_12_6 (k := 387) hx hb hts in_X12_ends_12 hown hK hP (by decide) (by decide) (hts _ lk_X12_ends_33) dX12_ends_9 ?_
    refine r_sipush hx hb dX12_ends_12 (by decide) (fun z13 ez13 => ?_)
    refine lv_iload_n hx hb dX12_ends_15 rfl (lv_at hl 1 rfl) ?_
    refine r_iadd hx hb dX12_ends_16 (by omega) (fun z14 ez14 => ?_)
    refine lv_dup2_11 hx hb dX12_ends_17 rfl rfl ?_
    obtain ⟨j15, ej15⟩ : ∃ j : Nat, z14.toInt = (j : Int) := ⟨_, ti_nat (by omega)⟩
    refine ad_ms (k := 389) (j := j15) hx hb hK hP (by decide) (by decide) ej15 (by omega) dX12_ends_18 ?_
    refine lv_aload_n hx hb dX12_ends_19 rfl (lv_at hl 0 rfl) ?_
    refine fg_12_25 (k := 387) hx hb hts in_X12_ends_12 hown hK hP (by decide) (by decide) (hts _ lk_X12_ends_59) dX12_ends_20 ?_
    refine lv_iload_n hx hb dX12_ends_23 rfl (lv_at hl 1 rfl) ?_
    obtain ⟨j16, ej16⟩ : ∃ j : Nat, x1.toInt = (j : Int) := ⟨_, ti_nat (by omega)⟩
    refine ad_mp8 (k := 397) (j := j16) hx hb hK hP (by decide) (by decide) ej16 (by omega) dX12_ends_24 ?_
    refine r_iaddU hx hb dX12_ends_25 (fun z17 => ?_)
    refine as_ms (k := 389) (j := j15) hx hb hK hP hI hR hS (by decide) (by decide) ej15 (by omega) (rx_ms_238 (by decide) (by decide) (by omega) (by omega)) dX12_ends_26 (fun σ18 H18 locs18 u18 v18 hR hP hS => ?_)
    have hF := hF.puts u18 1 rfl (by decide) (by decide) (by omega) (by omega)
    refine lv_aload_n hx hb dX12_ends_27 rfl (lv_at hl 0 rfl) ?_
    refine fg_12_6 (k := 387) hx hb hts in_X12_ends_12 hown hK hP (by decide) (by decide) (hts _ lk_X12_ends_33) dX12_ends_28 ?_
    refine r_sipush hx hb dX12_ends_31 (by decide) (fun z19 ez19 => ?_)
    refine lv_iload_n hx hb dX12_ends_34 rfl (lv_at hl 1 rfl) ?_
    refine r_iadd hx hb dX12_ends_35 (by omega) (fun z20 ez20 => ?_)
    refine r_iconst hx hb dX12_ends_36 (by decide) (fun z21 ez21 => ?_)
    obtain ⟨j22, ej22⟩ : ∃ j : Nat, z20.toInt = (j : Int) := ⟨_, ti_nat (by omega)⟩
    refine as_ms (k := 389) (j := j22) hx hb hK hP hI hR hS (by decide) (by decide) ej22 (by omega) (rw_ms_7 (by decide) (by decide) (by omega) (by omega) (by omega)) dX12_ends_37 (fun σ23 H23 locs23 u23 v23 hR hP hS => ?_)
    have hF := hF.puts u23 1 rfl (by decide) (by decide) (by omega) (by omega)
    refine r_iinc (k := 1) (lv1 := fun z24 => [(1, .int z24), (0, .ref (ad 387))]) hx hb dX12_ends_38 hl rfl (by decide) (fun _ => rfl) (by decide) (by omega) (fun z24 ls ez24 hl => ?_)
    refine lv_goto (tgt := 2) hx hb dX12_ends_41 (by decide) ?_
    exact K2 σ23 τ0 H23 locs23 z24 ls hR hF hFL hP hS (by omega) (lv_sub hl [1, 0] rfl) (by omega)
theorem A_X12_ends (p : Program) (l : Launch) (e : Env) (s : State) (m : MethodId) (args : Array Value) (below : List Frame) (meth : Method) (c : Code) (D : va_G) (cA : Nat → ClassId) (ad : Nat → Nat) (σ0 : Nat → Nat → Int32) (τ0 : Nat → Nat → Int64)  (C : Cy p s m args meth c cX12_ends 2 wsX12_ends RX12 D cA ad none)  : ∀ n : Nat, J_X12_ends_2 p l e s m args below meth c D cA ad σ0 τ0 n := by
  intro n
  induction n with
  | zero =>
    exact (by intro σ τ H locs x1 ls hR hF hFL hP hS hc0 hl hm; exfalso; omega)
  | succ n ih =>
    exact B_X12_ends_2 p l e s m args below meth c D cA ad σ0 τ0 n C  ih
set_option maxHeartbeats 4000000 in
theorem c_X12_ends (l : Launch) (D : va_G) (cA : Nat → ClassId) (ad : Nat → Nat) (hI : Inj ad) (σ0 : Nat → Nat → Int32) (τ0 : Nat → Nat → Int64) (hR : Rg σ0)   : Met l yX12_ends wsX12_ends ({ frames := 0, cells := 0, slots := 0, locals := 0 } : Room) (WQc D cA ad [.ref (ad 387)] σ0 τ0) (va_Qv (fun u : SS => P_X12_ends σ0 τ0 u.1 u.2) (WB D cA ad) (AA ad)) 0 0 (AA ad) := by
  refine Met.ofW (cc := cX12_ends) (maxL := 2) (ret := none) (by decide) rfl ?_
  intro p e s m args below meth c s₁ B hml hv
  obtain ⟨rfl, hP, hK, hN⟩ := hv
  have C : Cy p s m _ meth c cX12_ends 2 wsX12_ends RX12 D cA ad none := ⟨B.exec, B.bytes, hml, findClass_of_methodNamed B.named, atoms_spec (ws := wsX12_ends) B.pre, hK, B.notSynchronized, B.returns, hI, hN⟩
  have hl := lv_entry ([.ref (ad 387)]) (n := 2) (Nat.le_of_ble_eq_true rfl)
  rw [lg_entry_eq]
  generalize (lg_sl ([.ref (ad 387)]) ++ List.replicate (2 - (lg_sl ([.ref (ad 387)])).length) Slot.unset).toArray = ls at hl ⊢
  have hl : lv_has ls 2 [(0, .ref (ad 387))] := hl
  have hS : va_S (AA ad) s.heap s.heap [] := va_S.rf
  have hF : Fr L_X12_ends σ0 σ0 := Fr.rf
  have hFL : FrL LL_X12_ends τ0 τ0 := FrL.rf
  have hA := A_X12_ends p l e s m _ below meth c D cA ad σ0 τ0 C  42
  have K2 := hA
  clear hA
  obtain ⟨hx, hb, _, hown, hts, _, hk, hr, _, _⟩ := C
  refine r_iconst hx hb dX12_ends_0 (by decide) (fun z1 ez1 => ?_)
  refine lv_istore_n (lv' := [(1, .int z1), (0, .ref (ad 387))]) hx hb dX12_ends_1 rfl hl (by decide) rfl (fun ls hl => ?_)
  exact K2 σ0 τ0 s.heap [] z1 ls hR hF hFL hP hS (by omega) (lv_sub hl [1, 0] rfl) (by omega)
theorem in_X12_weightOf_12 : ∀ w ∈ u_ws RX12 TX12 47, w ∈ wsX12_weightOf := by decide +kernel
theorem lk_X12_weightOf_33 : Cond.fieldLink RX12 33 "CuckooSharesModel" "s" "[I" ∈ wsX12_weightOf := by decide +kernel
abbrev L_X12_weightOf : List Rc := []
abbrev LL_X12_weightOf : List Rc := []
def P_X12_weightOf (σ0 : Nat → Nat → Int32) (τ0 : Nat → Nat → Int64) (a1 : Int32) (r : Int32) (σ : Nat → Nat → Int32) (τ : Nat → Nat → Int64) : Prop := Rg σ ∧ Fr L_X12_weightOf σ0 σ ∧ FrL LL_X12_weightOf τ0 τ ∧ (1 ≤ r.toInt ∧ r.toInt ≤ 3)
set_option maxHeartbeats 4000000 in
theorem c_X12_weightOf (l : Launch) (D : va_G) (cA : Nat → ClassId) (ad : Nat → Nat) (hI : Inj ad) (σ0 : Nat → Nat → Int32) (τ0 : Nat → Nat → Int64) (hR : Rg σ0) (a1 : Int32) (ha1 : 0 ≤ a1.toInt ∧ a1.toInt ≤ 7) : Met l yX12_weightOf wsX12_weightOf ({ frames := 0, cells := 0, slots := 0, locals := 0 } : Room) (WQc D cA ad [.ref (ad 387), .int a1] σ0 τ0) (va_Qi (fun (r : Int32) (u : SS) => P_X12_weightOf σ0 τ0 a1 r u.1 u.2) (WB D cA ad) (AA ad)) 0 0 (AA ad) := by
  refine Met.ofW (cc := cX12_weightOf) (maxL := 2) (ret := (some .int)) (by decide) rfl ?_
  intro p e s m args below meth c s₁ B hml hv
  obtain ⟨rfl, hP, hK, hN⟩ := hv
  have C : Cy p s m _ meth c cX12_weightOf 2 wsX12_weightOf RX12 D cA ad (some .int) := ⟨B.exec, B.bytes, hml, findClass_of_methodNamed B.named, atoms_spec (ws := wsX12_weightOf) B.pre, hK, B.notSynchronized, B.returns, hI, hN⟩
  have hl := lv_entry ([.ref (ad 387), .int a1]) (n := 2) (Nat.le_of_ble_eq_true rfl)
  rw [lg_entry_eq]
  generalize (lg_sl ([.ref (ad 387), .int a1]) ++ List.replicate (2 - (lg_sl ([.ref (ad 387), .int a1])).length) Slot.unset).toArray = ls at hl ⊢
  have hl : lv_has ls 2 [(0, .ref (ad 387)), (1, .int a1)] := hl
  have hS : va_S (AA ad) s.heap s.heap [] := va_S.rf
  have hF : Fr L_X12_weightOf σ0 σ0 := Fr.rf
  have hFL : FrL LL_X12_weightOf τ0 τ0 := FrL.rf
  obtain ⟨hx, hb, _, hown, hts, _, hk, hr, _, _⟩ := C
  refine lv_aload_n hx hb dX12_weightOf_0 rfl (lv_at hl 0 rfl) ?_
  refine fg_12_6 (k := 387) hx hb hts in_X12_weightOf_12 hown hK hP (by decide) (by decide) (hts _ lk_X12_weightOf_33) dX12_weightOf_1 ?_
  refine r_bipush hx hb dX12_weightOf_4 (by decide) (fun z1 ez1 => ?_)
  refine lv_iload_n hx hb dX12_weightOf_6 rfl (lv_at hl 1 rfl) ?_
  refine r_iadd hx hb dX12_weightOf_7 (by omega) (fun z2 ez2 => ?_)
  obtain ⟨j3, ej3⟩ : ∃ j : Nat, z2.toInt = (j : Int) := ⟨_, ti_nat (by omega)⟩
  refine ad_ms (k := 389) (j := j3) hx hb hK hP (by decide) (by decide) ej3 (by omega) dX12_weightOf_8 ?_
  refine r_iconst hx hb dX12_weightOf_9 (by decide) (fun z4 ez4 => ?_)
  refine r_icmp_ne (tgt := 17) hx hb dX12_weightOf_10 (by decide) (fun c5 => ?_) (fun c5 => ?_)
  · refine r_iconst hx hb dX12_weightOf_17 (by decide) (fun z6 ez6 => ?_)
    exact r_iret hx hb hr hK hP hS hk dX12_weightOf_18 (show P_X12_weightOf σ0 τ0 a1 z6 σ0 τ0 from ⟨hR, hF, hFL, by omega⟩)
  · refine r_iconst hx hb dX12_weightOf_13 (by decide) (fun z7 ez7 => ?_)
    refine lv_goto (tgt := 18) hx hb dX12_weightOf_14 (by decide) ?_
    exact r_iret hx hb hr hK hP hS hk dX12_weightOf_18 (show P_X12_weightOf σ0 τ0 a1 z7 σ0 τ0 from ⟨hR, hF, hFL, by omega⟩)
theorem in_X12_gives_12 : ∀ w ∈ u_ws RX12 TX12 47, w ∈ wsX12_gives := by decide +kernel
theorem lk_X12_gives_305 : Cond.fieldLink RX12 305 "CuckooSharesModel" "sharers" "I" ∈ wsX12_gives := by decide +kernel
theorem lk_X12_gives_33 : Cond.fieldLink RX12 33 "CuckooSharesModel" "s" "[I" ∈ wsX12_gives := by decide +kernel
theorem lk_X12_gives_59 : Cond.fieldLink RX12 59 "CuckooSharesModel" "shares" "[I" ∈ wsX12_gives := by decide +kernel
abbrev L_X12_gives : List Rc := [(387, 387, 26, 26), (397, 397, 0, 7)]
abbrev LL_X12_gives : List Rc := []
def P_X12_gives (σ0 : Nat → Nat → Int32) (τ0 : Nat → Nat → Int64) (a1 : Int32) (a2 : Int32) (a3 : Int32) (σ : Nat → Nat → Int32) (τ : Nat → Nat → Int64) : Prop := Rg σ ∧ Fr L_X12_gives σ0 σ ∧ FrL LL_X12_gives τ0 τ
def J_X12_gives_6 (p : Program) (l : Launch) (e : Env) (s : State) (m : MethodId) (args : Array Value) (below : List Frame) (meth : Method) (c : Code) (D : va_G) (cA : Nat → ClassId) (ad : Nat → Nat) (σ0 : Nat → Nat → Int32) (τ0 : Nat → Nat → Int64) (a1 : Int32) (a2 : Int32) (a3 : Int32) (n : Nat) : Prop := ∀ (σ : Nat → Nat → Int32) (τ : Nat → Nat → Int64) (H : Heap) (locs : List Loc) (x4 : Int32) (x5 : Int32) (ls : Array Slot), Rg σ → Fr L_X12_gives σ0 σ → FrL LL_X12_gives τ0 τ → va_P D vwCl (gw cA ad σ τ) H → va_S (AA ad) s.heap H locs → (0 ≤ x4.toInt ∧ x4.toInt ≤ 30) → (0 ≤ x5.toInt ∧ x5.toInt ≤ 8) → (∀ y : Int32, 0 ≤ y.toInt → y.toInt < x5.toInt → BT a1 y = 1 → 1 ≤ x4.toInt) → (0 ≤ x4.toInt ∧ x4.toInt ≤ 3 * x5.toInt) → lv_has ls 6 [(0, .ref (ad 387)), (1, .int a1), (2, .int a2), (3, .int a3), (4, .int x4), (5, .int x5)] → 21 * (8 - x5.toInt) + 20 < (n : Int) → W p l e ({ frames := 1, cells := 0, slots := 0, locals := 21 } : Room) s m args below meth c H locs 0 0 (MQ below (va_Qv (fun u : SS => P_X12_gives σ0 τ0 a1 a2 a3 u.1 u.2) (WB D cA ad) (AA ad)) args s 0 0 (AA ad)) (F0 m 6 ls [])
def J_X12_gives_50 (p : Program) (l : Launch) (e : Env) (s : State) (m : MethodId) (args : Array Value) (below : List Frame) (meth : Method) (c : Code) (D : va_G) (cA : Nat → ClassId) (ad : Nat → Nat) (σ0 : Nat → Nat → Int32) (τ0 : Nat → Nat → Int64) (a1 : Int32) (a2 : Int32) (a3 : Int32) (n : Nat) : Prop := ∀ (σ : Nat → Nat → Int32) (τ : Nat → Nat → Int64) (H : Heap) (locs : List Loc) (x4 : Int32) (x5 : Int32) (ls : Array Slot), Rg σ → Fr L_X12_gives σ0 σ → FrL LL_X12_gives τ0 τ → va_P D vwCl (gw cA ad σ τ) H → va_S (AA ad) s.heap H locs → (0 ≤ x4.toInt ∧ x4.toInt ≤ 24) → (0 ≤ x5.toInt ∧ x5.toInt ≤ 8) → (0 ≤ (σ 389 1).toInt ∧ (σ 389 1).toInt ≤ 8) → (∀ y : Int32, 0 ≤ y.toInt → y.toInt < (σ 389 1).toInt → BT a1 y = 1 → 1 ≤ x4.toInt) → lv_has ls 6 [(0, .ref (ad 387)), (1, .int a1), (2, .int a2), (3, .int a3), (4, .int x4), (5, .int x5)] → 2 * (8 - x5.toInt) + 1 < (n : Int) → W p l e ({ frames := 1, cells := 0, slots := 0, locals := 21 } : Room) s m args below meth c H locs 0 0 (MQ below (va_Qv (fun u : SS => P_X12_gives σ0 τ0 a1 a2 a3 u.1 u.2) (WB D cA ad) (AA ad)) args s 0 0 (AA ad)) (F0 m 50 ls [])
set_option maxHeartbeats 4000000 in
theorem B_X12_gives_6 (p : Program) (l : Launch) (e : Env) (s : State) (m : MethodId) (args : Array Value) (below : List Frame) (meth : Method) (c : Code) (D : va_G) (cA : Nat → ClassId) (ad : Nat → Nat) (σ0 : Nat → Nat → Int32) (τ0 : Nat → Nat → Int64) (a1 : Int32) (a2 : Int32) (a3 : Int32) (n : Nat) (C : Cy p s m args meth c cX12_gives 6 wsX12_gives RX12 D cA ad none) (ha2 : -1 ≤ a2.toInt ∧ a2.toInt ≤ 9) (K6 : J_X12_gives_6 p l e s m args below meth c D cA ad σ0 τ0 a1 a2 a3 n) (K50 : J_X12_gives_50 p l e s m args below meth c D cA ad σ0 τ0 a1 a2 a3 n) : J_X12_gives_6 p l e s m args below meth c D cA ad σ0 τ0 a1 a2 a3 (n + 1) := by
  obtain ⟨hx, hb, hml, hown, hts, hK, hk, hr, hI, hN⟩ := C
  intro σ τ H locs x4 x5 ls hR hF hFL hP hS hc0 hc1 hi0 hi1 hl hm
  obtain rfl := FrL.nil hFL
  refine lv_iload hx hb dX12_gives_6 (lv_at hl 5 rfl) ?_
  refine lv_aload_n hx hb dX12_gives_8 rfl (lv_at hl 0 rfl) ?_
  refine fg_12_6 (k := 387) hx hb hts in_X12_gives_12 hown hK hP (by decide) (by decide) (hts _ lk_X12_gives_33) dX12_gives_9 ?_
  refine r_iconst hx hb dX12_gives_12 (by decide) (fun z1 ez1 => ?_)
  refine ad_ms (k := 389) (j := 1) hx hb hK hP (by decide) (by decide) (by omega) (by omega) dX12_gives_13 ?_
  have hr2 := ra_ms_0 hR (k := 389) (j := 1) (by decide) (by decide) (by decide) (by decide)
  refine r_icmp_ge (tgt := 47) hx hb dX12_gives_14 (by decide) (fun c3 => ?_) (fun c3 => ?_)
  · refine r_iconst hx hb dX12_gives_47 (by decide) (fun z4 ez4 => ?_)
    refine lv_istore (lv' := [(5, .int z4), (0, .ref (ad 387)), (1, .int a1), (2, .int a2), (3, .int a3), (4, .int x4)]) hx hb dX12_gives_48 hl (by decide) rfl (fun ls hl => ?_)
    exact K50 σ τ0 H locs x4 z4 ls hR hF hFL hP hS (by omega) (by omega) (by omega) (by intro y h1 h2 h3; have := hi0 y h1 (by omega) h3; omega) (lv_sub hl [1, 2, 3, 4, 5, 0] rfl) (by omega)
  · refine lv_iload hx hb dX12_gives_17 (lv_at hl 4 rfl) ?_
    refine lv_iload_n hx hb dX12_gives_19 rfl (lv_at hl 1 rfl) ?_
    refine lv_iload hx hb dX12_gives_20 (lv_at hl 5 rfl) ?_
    refine r_cSi (As := [.int a1, .int x5]) (rest := [.int x4]) ⟨hx, hb, hml, hown, hts⟩ hK hP hN hS (c_X12_bitOf l D cA ad hI σ τ0 hR a1 x5 (by omega)) (va_cwS 2 hts gX12_gives_X12_bitOf rfl rfl rfl (by decide +kernel) ⟨by decide, by decide⟩) rfl hl.1 rfl (Nat.le_of_ble_eq_true rfl) dX12_gives_22 (Nat.zero_le _) (Nat.zero_le _) (fun r5 u5 H5 locs5 hp5 hP hS => ?_)
    obtain ⟨σ5, τ5⟩ := u5
    obtain ⟨hR, f5, fL5, hq5, hp5_0⟩ : P_X12_bitOf σ τ0 a1 x5 r5 σ5 τ5 := hp5
    have hP : va_P D vwCl (gw cA ad σ5 τ5) H5 := hP
    obtain rfl := FrL.nil fL5
    obtain rfl := Fr.nil f5
    refine r_if_eq (tgt := 37) hx hb dX12_gives_25 (by decide) (fun c6 => ?_) (fun c6 => ?_)
    · refine r_iconst hx hb dX12_gives_37 (by decide) (fun z7 ez7 => ?_)
      refine r_iadd hx hb dX12_gives_38 (by omega) (fun z8 ez8 => ?_)
      refine lv_istore (lv' := [(4, .int z8), (0, .ref (ad 387)), (1, .int a1), (2, .int a2), (3, .int a3), (5, .int x5)]) hx hb dX12_gives_39 hl (by decide) rfl (fun ls hl => ?_)
      refine r_iinc (k := 5) (lv1 := fun z9 => [(5, .int z9), (4, .int z8), (0, .ref (ad 387)), (1, .int a1), (2, .int a2), (3, .int a3)]) hx hb dX12_gives_41 hl rfl (by decide) (fun _ => rfl) (by decide) (by omega) (fun z9 ls ez9 hl => ?_)
      refine lv_goto (tgt := 6) hx hb dX12_gives_44 (by decide) ?_
      exact K6 σ τ0 H5 locs5 z8 z9 ls hR hF hFL hP hS (by omega) (by omega) (by intro y h1 h2 h3; first | (exfalso; omega) | (by_cases e : y.toInt = x5.toInt <;> first | (have e2 : y = x5 := Int32.toInt_inj.mp e; subst e2; omega) | (have := hi0 y h1 (by omega) h3; omega))) (by omega) (lv_sub hl [2, 3, 4, 5, 1, 0] rfl) (by omega)
    · refine lv_aload_n hx hb dX12_gives_28 rfl (lv_at hl 0 rfl) ?_
      refine lv_iload hx hb dX12_gives_29 (lv_at hl 5 rfl) ?_
      refine r_cVi (k := 387) (As := [.int x5]) (rest := [.int x4]) ⟨hx, hb, hml, hown, hts⟩ hK hP hN hS (c_X12_weightOf l D cA ad hI σ τ0 hR x5 (by omega)) (cwV 1 hts gX12_gives_X12_weightOf rfl rfl rfl (by decide +kernel) ⟨by decide, by decide⟩) (rv_M hK hP (by decide) (by decide)) rfl hl.1 rfl (Nat.le_of_ble_eq_true rfl) dX12_gives_31 (Nat.zero_le _) (Nat.zero_le _) (fun r10 u10 H10 locs10 hp10 hP hS => ?_)
      obtain ⟨σ10, τ10⟩ := u10
      obtain ⟨hR, f10, fL10, hq10⟩ : P_X12_weightOf σ τ0 x5 r10 σ10 τ10 := hp10
      have hP : va_P D vwCl (gw cA ad σ10 τ10) H10 := hP
      obtain rfl := FrL.nil fL10
      obtain rfl := Fr.nil f10
      refine lv_goto (tgt := 38) hx hb dX12_gives_34 (by decide) ?_
      refine r_iadd hx hb dX12_gives_38 (by omega) (fun z11 ez11 => ?_)
      refine lv_istore (lv' := [(4, .int z11), (0, .ref (ad 387)), (1, .int a1), (2, .int a2), (3, .int a3), (5, .int x5)]) hx hb dX12_gives_39 hl (by decide) rfl (fun ls hl => ?_)
      refine r_iinc (k := 5) (lv1 := fun z12 => [(5, .int z12), (4, .int z11), (0, .ref (ad 387)), (1, .int a1), (2, .int a2), (3, .int a3)]) hx hb dX12_gives_41 hl rfl (by decide) (fun _ => rfl) (by decide) (by omega) (fun z12 ls ez12 hl => ?_)
      refine lv_goto (tgt := 6) hx hb dX12_gives_44 (by decide) ?_
      exact K6 σ τ0 H10 locs10 z11 z12 ls hR hF hFL hP hS (by omega) (by omega) (by intro y h1 h2 h3; first | (exfalso; omega) | (by_cases e : y.toInt = x5.toInt <;> first | (have e2 : y = x5 := Int32.toInt_inj.mp e; subst e2; omega) | (have := hi0 y h1 (by omega) h3; omega))) (by omega) (lv_sub hl [2, 3, 4, 5, 1, 0] rfl) (by omega)
set_option maxHeartbeats 4000000 in
theorem B_X12_gives_50 (p : Program) (l : Launch) (e : Env) (s : State) (m : MethodId) (args : Array Value) (below : List Frame) (meth : Method) (c : Code) (D : va_G) (cA : Nat → ClassId) (ad : Nat → Nat) (σ0 : Nat → Nat → Int32) (τ0 : Nat → Nat → Int64) (a1 : Int32) (a2 : Int32) (a3 : Int32) (n : Nat) (C : Cy p s m args meth c cX12_gives 6 wsX12_gives RX12 D cA ad none) (ha2 : -1 ≤ a2.toInt ∧ a2.toInt ≤ 9) (K6 : J_X12_gives_6 p l e s m args below meth c D cA ad σ0 τ0 a1 a2 a3 n) (K50 : J_X12_gives_50 p l e s m args below meth c D cA ad σ0 τ0 a1 a2 a3 n) : J_X12_gives_50 p l e s m args below meth c D cA ad σ0 τ0 a1 a2 a3 (n + 1) := by
  obtain ⟨hx, hb, hml, hown, hts, hK, hk, hr, hI, hN⟩ := C
  intro σ τ H locs x4 x5 ls hR hF hFL hP hS hc0 hc1 hc2 hi0 hl hm
  obtain rfl := FrL.nil hFL
  refine lv_iload hx hb dX12_gives_50 (lv_at hl 5 rfl) ?_
  refine lv_aload_n hx hb dX12_gives_52 rfl (lv_at hl 0 rfl) ?_
  refine fg_12_6 (k := 387) hx hb hts in_X12_gives_12 hown hK hP (by decide) (by decide) (hts _ lk_X12_gives_33) dX12_gives_53 ?_
  refine r_iconst hx hb dX12_gives_56 (by decide) (fun z1 ez1 => ?_)
  refine ad_ms (k := 389) (j := 1) hx hb hK hP (by decide) (by decide) (by omega) (by omega) dX12_gives_57 ?_
  have hr2 := ra_ms_0 hR (k := 389) (j := 1) (by decide) (by decide) (by decide) (by decide)
  refine r_icmp_ge (tgt := 106) hx hb dX12_gives_58 (by decide) (fun c3 => ?_) (fun c3 => ?_)
  · refine lv_aload_n hx hb dX12_gives_106 rfl (lv_at hl 0 rfl) ?_
    refine lv_dup hx hb dX12_gives_107 rfl ?_
    refine fg_12_26 (k := 387) hx hb hts in_X12_gives_12 hown hK hP (by decide) (by decide) (hts _ lk_X12_gives_305) dX12_gives_108 ?_
    refine lv_iload_n hx hb dX12_gives_111 rfl (lv_at hl 1 rfl) ?_
    refine r_iorU hx hb dX12_gives_112 (fun z4 => ?_)
    refine fp_12_26 (k := 387) hx hb hts in_X12_gives_12 hown hK hP (by decide) (by decide) (hts _ lk_X12_gives_305) hI hR hS dX12_gives_113 (fun σ5 H5 locs5 u5 v5 hR hP hS => ?_)
    have hF := hF.puts u5 0 rfl (by decide) (by decide) (by decide) (by decide)
    have t6 : (σ5 389 1).toInt = (σ 389 1).toInt := congrArg Int32.toInt (u5 389 1 (by omega))
    exact r_vret hx hb hr hK hP hS hk dX12_gives_116 (show P_X12_gives σ0 τ0 a1 a2 a3 σ5 τ0 from ⟨hR, hF, hFL⟩)
  · refine lv_iload_n hx hb dX12_gives_61 rfl (lv_at hl 1 rfl) ?_
    refine lv_iload hx hb dX12_gives_62 (lv_at hl 5 rfl) ?_
    refine r_cSi (As := [.int a1, .int x5]) (rest := []) ⟨hx, hb, hml, hown, hts⟩ hK hP hN hS (c_X12_bitOf l D cA ad hI σ τ0 hR a1 x5 (by omega)) (va_cwS 2 hts gX12_gives_X12_bitOf rfl rfl rfl (by decide +kernel) ⟨by decide, by decide⟩) rfl hl.1 rfl (Nat.le_of_ble_eq_true rfl) dX12_gives_64 (Nat.zero_le _) (Nat.zero_le _) (fun r7 u7 H7 locs7 hp7 hP hS => ?_)
    obtain ⟨σ7, τ7⟩ := u7
    obtain ⟨hR, f7, fL7, hq7, hp7_0⟩ : P_X12_bitOf σ τ0 a1 x5 r7 σ7 τ7 := hp7
    have hP : va_P D vwCl (gw cA ad σ7 τ7) H7 := hP
    obtain rfl := FrL.nil fL7
    obtain rfl := Fr.nil f7
    refine r_if_eq (tgt := 100) hx hb dX12_gives_67 (by decide) (fun c8 => ?_) (fun c8 => ?_)
    · refine r_iinc (k := 5) (lv1 := fun z9 => [(5, .int z9), (0, .ref (ad 387)), (1, .int a1), (2, .int a2), (3, .int a3), (4, .int x4)]) hx hb dX12_gives_100 hl rfl (by decide) (fun _ => rfl) (by decide) (by omega) (fun z9 ls ez9 hl => ?_)
      refine lv_goto (tgt := 50) hx hb dX12_gives_103 (by decide) ?_
      exact K50 σ τ0 H7 locs7 x4 z9 ls hR hF hFL hP hS (by omega) (by omega) (by omega) (by intro y h1 h2 h3; have := hi0 y h1 (by omega) h3; omega) (lv_sub hl [1, 2, 3, 4, 5, 0] rfl) (by omega)
    · refine lv_aload_n hx hb dX12_gives_70 rfl (lv_at hl 0 rfl) ?_
      refine fg_12_25 (k := 387) hx hb hts in_X12_gives_12 hown hK hP (by decide) (by decide) (hts _ lk_X12_gives_59) dX12_gives_71 ?_
      refine lv_iload hx hb dX12_gives_74 (lv_at hl 5 rfl) ?_
      refine lv_iload_n hx hb dX12_gives_76 rfl (lv_at hl 2 rfl) ?_
      refine r_bipush hx hb dX12_gives_77 (by decide) (fun z10 ez10 => ?_)
      refine r_icmp_ne (tgt := 88) hx hb dX12_gives_79 (by decide) (fun c11 => ?_) (fun c11 => ?_)
      · refine lv_iload_n hx hb dX12_gives_88 rfl (lv_at hl 3 rfl) ?_
        refine lv_aload_n hx hb dX12_gives_89 rfl (lv_at hl 0 rfl) ?_
        refine lv_iload hx hb dX12_gives_90 (lv_at hl 5 rfl) ?_
        refine r_cVi (k := 387) (As := [.int x5]) (rest := [.int a3, .int x5, .ref (ad 397)]) ⟨hx, hb, hml, hown, hts⟩ hK hP hN hS (c_X12_weightOf l D cA ad hI σ τ0 hR x5 (by omega)) (cwV 1 hts gX12_gives_X12_weightOf rfl rfl rfl (by decide +kernel) ⟨by decide, by decide⟩) (rv_M hK hP (by decide) (by decide)) rfl hl.1 rfl (Nat.le_of_ble_eq_true rfl) dX12_gives_92 (Nat.zero_le _) (Nat.zero_le _) (fun r12 u12 H12 locs12 hp12 hP hS => ?_)
        obtain ⟨σ12, τ12⟩ := u12
        obtain ⟨hR, f12, fL12, hq12⟩ : P_X12_weightOf σ τ0 x5 r12 σ12 τ12 := hp12
        have hP : va_P D vwCl (gw cA ad σ12 τ12) H12 := hP
        obtain rfl := FrL.nil fL12
        obtain rfl := Fr.nil f12
        refine r_imulU hx hb dX12_gives_95 (fun z13 => ?_)
        refine lv_iload hx hb dX12_gives_96 (lv_at hl 4 rfl) ?_
        have hz := hi0 x5 (by omega) (by omega) (by omega)
        refine r_idiv hx hb dX12_gives_98 (by omega) (fun z14 => ?_)
        obtain ⟨j15, ej15⟩ : ∃ j : Nat, x5.toInt = (j : Int) := ⟨_, ti_nat (by omega)⟩
        refine as_mp8 (k := 397) (j := j15) hx hb hK hP hI hR hS (by decide) (by decide) ej15 (by omega) dX12_gives_99 (fun σ16 H16 locs16 u16 v16 hR hP hS => ?_)
        have hF := hF.puts u16 1 rfl (by decide) (by decide) (by omega) (by omega)
        have t17 : (σ16 389 1).toInt = (σ 389 1).toInt := congrArg Int32.toInt (u16 389 1 (by omega))
        refine r_iinc (k := 5) (lv1 := fun z18 => [(5, .int z18), (0, .ref (ad 387)), (1, .int a1), (2, .int a2), (3, .int a3), (4, .int x4)]) hx hb dX12_gives_100 hl rfl (by decide) (fun _ => rfl) (by decide) (by omega) (fun z18 ls ez18 hl => ?_)
        refine lv_goto (tgt := 50) hx hb dX12_gives_103 (by decide) ?_
        exact K50 σ16 τ0 H16 locs16 x4 z18 ls hR hF hFL hP hS (by omega) (by omega) (by omega) (by intro y h1 h2 h3; have := hi0 y h1 (by omega) h3; omega) (lv_sub hl [1, 2, 3, 4, 5, 0] rfl) (by omega)
      · refine lv_iload_n hx hb dX12_gives_82 rfl (lv_at hl 3 rfl) ?_
        refine r_iconst hx hb dX12_gives_83 (by decide) (fun z19 ez19 => ?_)
        refine r_idiv hx hb dX12_gives_84 (by omega) (fun z20 => ?_)
        refine lv_goto (tgt := 89) hx hb dX12_gives_85 (by decide) ?_
        refine lv_aload_n hx hb dX12_gives_89 rfl (lv_at hl 0 rfl) ?_
        refine lv_iload hx hb dX12_gives_90 (lv_at hl 5 rfl) ?_
        refine r_cVi (k := 387) (As := [.int x5]) (rest := [.int z20, .int x5, .ref (ad 397)]) ⟨hx, hb, hml, hown, hts⟩ hK hP hN hS (c_X12_weightOf l D cA ad hI σ τ0 hR x5 (by omega)) (cwV 1 hts gX12_gives_X12_weightOf rfl rfl rfl (by decide +kernel) ⟨by decide, by decide⟩) (rv_M hK hP (by decide) (by decide)) rfl hl.1 rfl (Nat.le_of_ble_eq_true rfl) dX12_gives_92 (Nat.zero_le _) (Nat.zero_le _) (fun r21 u21 H21 locs21 hp21 hP hS => ?_)
        obtain ⟨σ21, τ21⟩ := u21
        obtain ⟨hR, f21, fL21, hq21⟩ : P_X12_weightOf σ τ0 x5 r21 σ21 τ21 := hp21
        have hP : va_P D vwCl (gw cA ad σ21 τ21) H21 := hP
        obtain rfl := FrL.nil fL21
        obtain rfl := Fr.nil f21
        refine r_imulU hx hb dX12_gives_95 (fun z22 => ?_)
        refine lv_iload hx hb dX12_gives_96 (lv_at hl 4 rfl) ?_
        have hz := hi0 x5 (by omega) (by omega) (by omega)
        refine r_idiv hx hb dX12_gives_98 (by omega) (fun z23 => ?_)
        obtain ⟨j24, ej24⟩ : ∃ j : Nat, x5.toInt = (j : Int) := ⟨_, ti_nat (by omega)⟩
        refine as_mp8 (k := 397) (j := j24) hx hb hK hP hI hR hS (by decide) (by decide) ej24 (by omega) dX12_gives_99 (fun σ25 H25 locs25 u25 v25 hR hP hS => ?_)
        have hF := hF.puts u25 1 rfl (by decide) (by decide) (by omega) (by omega)
        have t26 : (σ25 389 1).toInt = (σ 389 1).toInt := congrArg Int32.toInt (u25 389 1 (by omega))
        refine r_iinc (k := 5) (lv1 := fun z27 => [(5, .int z27), (0, .ref (ad 387)), (1, .int a1), (2, .int a2), (3, .int a3), (4, .int x4)]) hx hb dX12_gives_100 hl rfl (by decide) (fun _ => rfl) (by decide) (by omega) (fun z27 ls ez27 hl => ?_)
        refine lv_goto (tgt := 50) hx hb dX12_gives_103 (by decide) ?_
        exact K50 σ25 τ0 H25 locs25 x4 z27 ls hR hF hFL hP hS (by omega) (by omega) (by omega) (by intro y h1 h2 h3; have := hi0 y h1 (by omega) h3; omega) (lv_sub hl [1, 2, 3, 4, 5, 0] rfl) (by omega)
theorem A_X12_gives (p : Program) (l : Launch) (e : Env) (s : State) (m : MethodId) (args : Array Value) (below : List Frame) (meth : Method) (c : Code) (D : va_G) (cA : Nat → ClassId) (ad : Nat → Nat) (σ0 : Nat → Nat → Int32) (τ0 : Nat → Nat → Int64) (a1 : Int32) (a2 : Int32) (a3 : Int32) (C : Cy p s m args meth c cX12_gives 6 wsX12_gives RX12 D cA ad none) (ha2 : -1 ≤ a2.toInt ∧ a2.toInt ≤ 9) : ∀ n : Nat, J_X12_gives_6 p l e s m args below meth c D cA ad σ0 τ0 a1 a2 a3 n ∧ J_X12_gives_50 p l e s m args below meth c D cA ad σ0 τ0 a1 a2 a3 n := by
  intro n
  induction n with
  | zero =>
    exact ⟨(by intro σ τ H locs x4 x5 ls hR hF hFL hP hS hc0 hc1 hi0 hi1 hl hm; exfalso; omega), (by intro σ τ H locs x4 x5 ls hR hF hFL hP hS hc0 hc1 hc2 hi0 hl hm; exfalso; omega)⟩
  | succ n ih =>
    exact ⟨B_X12_gives_6 p l e s m args below meth c D cA ad σ0 τ0 a1 a2 a3 n C ha2 ih.1 ih.2, B_X12_gives_50 p l e s m args below meth c D cA ad σ0 τ0 a1 a2 a3 n C ha2 ih.1 ih.2⟩
set_option maxHeartbeats 4000000 in
theorem c_X12_gives (l : Launch) (D : va_G) (cA : Nat → ClassId) (ad : Nat → Nat) (hI : Inj ad) (σ0 : Nat → Nat → Int32) (τ0 : Nat → Nat → Int64) (hR : Rg σ0) (a1 : Int32) (a2 : Int32) (a3 : Int32) (ha2 : -1 ≤ a2.toInt ∧ a2.toInt ≤ 9) : Met l yX12_gives wsX12_gives ({ frames := 1, cells := 0, slots := 0, locals := 21 } : Room) (WQc D cA ad [.ref (ad 387), .int a1, .int a2, .int a3] σ0 τ0) (va_Qv (fun u : SS => P_X12_gives σ0 τ0 a1 a2 a3 u.1 u.2) (WB D cA ad) (AA ad)) 0 0 (AA ad) := by
  refine Met.ofW (cc := cX12_gives) (maxL := 6) (ret := none) (by decide) rfl ?_
  intro p e s m args below meth c s₁ B hml hv
  obtain ⟨rfl, hP, hK, hN⟩ := hv
  have C : Cy p s m _ meth c cX12_gives 6 wsX12_gives RX12 D cA ad none := ⟨B.exec, B.bytes, hml, findClass_of_methodNamed B.named, atoms_spec (ws := wsX12_gives) B.pre, hK, B.notSynchronized, B.returns, hI, hN⟩
  have hl := lv_entry ([.ref (ad 387), .int a1, .int a2, .int a3]) (n := 6) (Nat.le_of_ble_eq_true rfl)
  rw [lg_entry_eq]
  generalize (lg_sl ([.ref (ad 387), .int a1, .int a2, .int a3]) ++ List.replicate (6 - (lg_sl ([.ref (ad 387), .int a1, .int a2, .int a3])).length) Slot.unset).toArray = ls at hl ⊢
  have hl : lv_has ls 6 [(0, .ref (ad 387)), (1, .int a1), (2, .int a2), (3, .int a3)] := hl
  have hS : va_S (AA ad) s.heap s.heap [] := va_S.rf
  have hF : Fr L_X12_gives σ0 σ0 := Fr.rf
  have hFL : FrL LL_X12_gives τ0 τ0 := FrL.rf
  have hA := A_X12_gives p l e s m _ below meth c D cA ad σ0 τ0 a1 a2 a3 C ha2 421
  have K6 := hA.1
  have K50 := hA.2
  clear hA
  obtain ⟨hx, hb, _, hown, hts, _, hk, hr, _, _⟩ := C
  refine r_iconst hx hb dX12_gives_0 (by decide) (fun z1 ez1 => ?_)
  refine lv_istore (lv' := [(4, .int z1), (0, .ref (ad 387)), (1, .int a1), (2, .int a2), (3, .int a3)]) hx hb dX12_gives_1 hl (by decide) rfl (fun ls hl => ?_)
  refine r_iconst hx hb dX12_gives_3 (by decide) (fun z2 ez2 => ?_)
  refine lv_istore (lv' := [(5, .int z2), (4, .int z1), (0, .ref (ad 387)), (1, .int a1), (2, .int a2), (3, .int a3)]) hx hb dX12_gives_4 hl (by decide) rfl (fun ls hl => ?_)
  exact K6 σ0 τ0 s.heap [] z1 z2 ls hR hF hFL hP hS (by omega) (by omega) (by intro y h1 h2 h3; first | (exfalso; omega) | (by_cases e : y.toInt = x5.toInt <;> first | (have e2 : y = x5 := Int32.toInt_inj.mp e; subst e2; omega) | (have := hi0 y h1 (by omega) h3; omega))) (by omega) (lv_sub hl [2, 3, 4, 5, 1, 0] rfl) (by omega)
