theorem in_X12_rolled_12 : ∀ w ∈ u_ws RX12 TX12 47, w ∈ wsX12_rolled := by decide +kernel
theorem lk_X12_rolled_1 : Cond.fieldLink RX12 1 "CuckooSharesModel" "thrown" "I" ∈ wsX12_rolled := by decide +kernel
theorem lk_X12_rolled_428 : Cond.fieldLink RX12 428 "CuckooSharesModel" "hasRolled" "Z" ∈ wsX12_rolled := by decide +kernel
theorem lk_X12_rolled_68 : Cond.fieldLink RX12 68 "CuckooSharesModel" "rolledAt" "[I" ∈ wsX12_rolled := by decide +kernel
abbrev L_X12_rolled : List Rc := [(387, 387, 0, 0)]
abbrev LL_X12_rolled : List Rc := []
def P_X12_rolled (σ0 : Nat → Nat → Int32) (τ0 : Nat → Nat → Int64) (a1 : Int32) (r : Int32) (σ : Nat → Nat → Int32) (τ : Nat → Nat → Int64) : Prop := Rg σ ∧ Fr L_X12_rolled σ0 σ ∧ FrL LL_X12_rolled τ0 τ
set_option maxHeartbeats 4000000 in
theorem c_X12_rolled (l : Launch) (D : va_G) (cA : Nat → ClassId) (ad : Nat → Nat) (hI : Inj ad) (σ0 : Nat → Nat → Int32) (τ0 : Nat → Nat → Int64) (hR : Rg σ0) (a1 : Int32)  : Met l yX12_rolled wsX12_rolled ({ frames := 1, cells := 0, slots := 0, locals := 22 } : Room) (WQc D cA ad [.ref (ad 387), .int a1] σ0 τ0) (va_Qi (fun (r : Int32) (u : SS) => P_X12_rolled σ0 τ0 a1 r u.1 u.2) (WB D cA ad) (AA ad)) 0 0 (AA ad) := by
  refine Met.ofW (cc := cX12_rolled) (maxL := 2) (ret := (some .int)) (by decide) rfl ?_
  intro p e s m args below meth c s₁ B hml hv
  obtain ⟨rfl, hP, hK, hN⟩ := hv
  have C : Cy p s m _ meth c cX12_rolled 2 wsX12_rolled RX12 D cA ad (some .int) := ⟨B.exec, B.bytes, hml, findClass_of_methodNamed B.named, atoms_spec (ws := wsX12_rolled) B.pre, hK, B.notSynchronized, B.returns, hI, hN⟩
  have hl := lv_entry ([.ref (ad 387), .int a1]) (n := 2) (Nat.le_of_ble_eq_true rfl)
  rw [lg_entry_eq]
  generalize (lg_sl ([.ref (ad 387), .int a1]) ++ List.replicate (2 - (lg_sl ([.ref (ad 387), .int a1])).length) Slot.unset).toArray = ls at hl ⊢
  have hl : lv_has ls 2 [(0, .ref (ad 387)), (1, .int a1)] := hl
  have hS : va_S (AA ad) s.heap s.heap [] := va_S.rf
  have hF : Fr L_X12_rolled σ0 σ0 := Fr.rf
  have hFL : FrL LL_X12_rolled τ0 τ0 := FrL.rf
  obtain ⟨hx, hb, _, hown, hts, _, hk, hr, _, _⟩ := C
  refine lv_aload_n hx hb dX12_rolled_0 rfl (lv_at hl 0 rfl) ?_
  refine r_iconst hx hb dX12_rolled_1 (by decide) (fun z1 ez1 => ?_)
  refine fp_12_0 (k := 387) hx hb hts in_X12_rolled_12 hown hK hP (by decide) (by decide) (hts _ lk_X12_rolled_1) hI hR hS (by omega) dX12_rolled_2 (fun σ2 H2 locs2 u2 v2 hR hP hS => ?_)
  have hF := hF.puts u2 0 rfl (by decide) (by decide) (by decide) (by decide)
  refine lv_aload_n hx hb dX12_rolled_5 rfl (lv_at hl 0 rfl) ?_
  refine fg_12_36 (k := 387) hx hb hts in_X12_rolled_12 hown hK hP (by decide) (by decide) (hts _ lk_X12_rolled_428) dX12_rolled_6 ?_
  have hr3 := rg_12_36 hR (k := 387) (by decide) (by decide)
  refine r_if_eq (tgt := 30) hx hb dX12_rolled_9 (by decide) (fun c4 => ?_) (fun c4 => ?_)
  · refine r_iconst hx hb dX12_rolled_30 (by decide) (fun z5 ez5 => ?_)
    exact r_iret hx hb hr hK hP hS hk dX12_rolled_31 (show P_X12_rolled σ0 τ0 a1 z5 σ2 τ0 from ⟨hR, hF, hFL⟩)
  · refine lv_iload_n hx hb dX12_rolled_12 rfl (lv_at hl 1 rfl) ?_
    refine r_iconst hx hb dX12_rolled_13 (by decide) (fun z6 ez6 => ?_)
    refine r_iconst hx hb dX12_rolled_14 (by decide) (fun z7 ez7 => ?_)
    refine r_cSi (As := [.int a1, .int z6, .int z7]) (rest := []) ⟨hx, hb, hml, hown, hts⟩ hK hP hN hS (c_X12_isIn l D cA ad hI σ2 τ0 hR a1 z6 z7) (va_cwS 3 hts gX12_rolled_X12_isIn rfl rfl rfl (by decide +kernel) ⟨by decide, by decide⟩) rfl hl.1 rfl (Nat.le_of_ble_eq_true rfl) dX12_rolled_15 (Nat.zero_le _) (Nat.zero_le _) (fun r8 u8 H8 locs8 hp8 hP hS => ?_)
    obtain ⟨σ8, τ8⟩ := u8
    obtain ⟨hR, f8, fL8, hq8, hp8_0, hp8_1⟩ : P_X12_isIn σ2 τ0 a1 z6 z7 r8 σ8 τ8 := hp8
    have hP : va_P D vwCl (gw cA ad σ8 τ8) H8 := hP
    obtain rfl := FrL.nil fL8
    obtain rfl := Fr.nil f8
    refine r_if_eq (tgt := 30) hx hb dX12_rolled_18 (by decide) (fun c9 => ?_) (fun c9 => ?_)
    · clear hp8_0
      refine r_iconst hx hb dX12_rolled_30 (by decide) (fun z10 ez10 => ?_)
      exact r_iret hx hb hr hK hP hS hk dX12_rolled_31 (show P_X12_rolled σ0 τ0 a1 z10 σ2 τ0 from ⟨hR, hF, hFL⟩)
    · replace hp8_0 := hp8_0.resolve_left (by omega)
      refine lv_aload_n hx hb dX12_rolled_21 rfl (lv_at hl 0 rfl) ?_
      refine fg_12_35 (k := 387) hx hb hts in_X12_rolled_12 hown hK hP (by decide) (by decide) (hts _ lk_X12_rolled_68) dX12_rolled_22 ?_
      refine lv_iload_n hx hb dX12_rolled_25 rfl (lv_at hl 1 rfl) ?_
      obtain ⟨j11, ej11⟩ : ∃ j : Nat, a1.toInt = (j : Int) := ⟨_, ti_nat (by omega)⟩
      refine ad_mrolled (k := 400) (j := j11) hx hb hK hP (by decide) (by decide) ej11 (by omega) dX12_rolled_26 ?_
      refine lv_goto (tgt := 31) hx hb dX12_rolled_27 (by decide) ?_
      exact r_iret hx hb hr hK hP hS hk dX12_rolled_31 (show P_X12_rolled σ0 τ0 a1 (σ2 400 j11) σ2 τ0 from ⟨hR, hF, hFL⟩)
abbrev L_X12_isSign_s : List Rc := []
abbrev LL_X12_isSign_s : List Rc := []
def P_X12_isSign_s (σ0 : Nat → Nat → Int32) (τ0 : Nat → Nat → Int64) (a1 : Int32) (b : Nat → Int) (N : Nat) (mo : Nat) (q : Nat) (kk : Int) (r : Int32) (σ : Nat → Nat → Int32) (τ : Nat → Nat → Int64) : Prop := Rg σ ∧ Fr L_X12_isSign_s σ0 σ ∧ FrL LL_X12_isSign_s τ0 τ ∧ (0 ≤ r.toInt ∧ r.toInt ≤ 1) ∧ (r.toInt = 0 ∨ (σ0 387 11).toInt = 3) ∧ ((r.toInt = 1 ∧ tkq b N mo q = kk) ∨ (r.toInt = 0 ∧ tkq b N mo q ≠ kk)) ∧ MK σ τ b N mo q
set_option maxHeartbeats 4000000 in
theorem c_X12_isSign_s (l : Launch) (D : va_G) (cA : Nat → ClassId) (ad : Nat → Nat) (hI : Inj ad) (σ0 : Nat → Nat → Int32) (τ0 : Nat → Nat → Int64) (hR : Rg σ0) (a1 : Int32) (b : Nat → Int) (N : Nat) (mo : Nat) (q : Nat) (kk : Int) (ha1 : 40 ≤ a1.toInt ∧ a1.toInt ≤ 41) (hpre0 : (a1.toInt = 40 ∧ kk = 44) ∨ (a1.toInt = 41 ∧ kk = 45)) (gMK0 : MK σ0 τ0 b N mo q) : Met l yX12_isSign wsX12_isSign ({ frames := 0, cells := 0, slots := 0, locals := 0 } : Room) (WQc D cA ad [.ref (ad 387), .int a1] σ0 τ0) (va_Qi (fun (r : Int32) (u : SS) => P_X12_isSign_s σ0 τ0 a1 b N mo q kk r u.1 u.2) (WB D cA ad) (AA ad)) 0 0 (AA ad) := by
  refine Met.ofW (cc := cX12_isSign) (maxL := 2) (ret := (some .boolean)) (by decide) rfl ?_
  intro p e s m args below meth c s₁ B hml hv
  obtain ⟨rfl, hP, hK, hN⟩ := hv
  have C : Cy p s m _ meth c cX12_isSign 2 wsX12_isSign RX12 D cA ad (some .boolean) := ⟨B.exec, B.bytes, hml, findClass_of_methodNamed B.named, atoms_spec (ws := wsX12_isSign) B.pre, hK, B.notSynchronized, B.returns, hI, hN⟩
  have hl := lv_entry ([.ref (ad 387), .int a1]) (n := 2) (Nat.le_of_ble_eq_true rfl)
  rw [lg_entry_eq]
  generalize (lg_sl ([.ref (ad 387), .int a1]) ++ List.replicate (2 - (lg_sl ([.ref (ad 387), .int a1])).length) Slot.unset).toArray = ls at hl ⊢
  have hl : lv_has ls 2 [(0, .ref (ad 387)), (1, .int a1)] := hl
  have hS : va_S (AA ad) s.heap s.heap [] := va_S.rf
  have hF : Fr L_X12_isSign_s σ0 σ0 := Fr.rf
  have hFL : FrL LL_X12_isSign_s τ0 τ0 := FrL.rf
  have gMK := gMK0
  obtain ⟨hx, hb, _, hown, hts, _, hk, hr, _, _⟩ := C
  have hsg := gMK.sgc hpre0
  refine lv_aload_n hx hb dX12_isSign_0 rfl (lv_at hl 0 rfl) ?_
  refine fg_12_11 (k := 387) hx hb hts in_X12_isSign_12 hown hK hP (by decide) (by decide) (hts _ lk_X12_isSign_159) dX12_isSign_1 ?_
  refine r_iconst hx hb dX12_isSign_4 (by decide) (fun z1 ez1 => ?_)
  refine r_icmp_ne (tgt := 20) hx hb dX12_isSign_5 (by decide) (fun c2 => ?_) (fun c2 => ?_)
  · refine r_iconst hx hb dX12_isSign_20 (by decide) (fun z3 ez3 => ?_)
    exact r_zret hx hb hr hK hP hS hk (by omega) dX12_isSign_21 (show P_X12_isSign_s σ0 τ0 a1 b N mo q kk z3 σ0 τ0 from ⟨hR, hF, hFL, by omega, by omega, by omega, gMK⟩)
  · refine lv_aload_n hx hb dX12_isSign_8 rfl (lv_at hl 0 rfl) ?_
    refine fg_12_14 (k := 387) hx hb hts in_X12_isSign_12 hown hK hP (by decide) (by decide) (hts _ lk_X12_isSign_169) dX12_isSign_9 ?_
    refine lv_iload_n hx hb dX12_isSign_12 rfl (lv_at hl 1 rfl) ?_
    refine r_icmp_ne (tgt := 20) hx hb dX12_isSign_13 (by decide) (fun c4 => ?_) (fun c4 => ?_)
    · refine r_iconst hx hb dX12_isSign_20 (by decide) (fun z5 ez5 => ?_)
      exact r_zret hx hb hr hK hP hS hk (by omega) dX12_isSign_21 (show P_X12_isSign_s σ0 τ0 a1 b N mo q kk z5 σ0 τ0 from ⟨hR, hF, hFL, by omega, by omega, by omega, gMK⟩)
    · refine r_iconst hx hb dX12_isSign_16 (by decide) (fun z6 ez6 => ?_)
      refine lv_goto (tgt := 21) hx hb dX12_isSign_17 (by decide) ?_
      exact r_zret hx hb hr hK hP hS hk (by omega) dX12_isSign_21 (show P_X12_isSign_s σ0 τ0 a1 b N mo q kk z6 σ0 τ0 from ⟨hR, hF, hFL, by omega, by omega, by omega, gMK⟩)
theorem in_X12_code_12 : ∀ w ∈ u_ws RX12 TX12 47, w ∈ wsX12_code := by decide +kernel
theorem lk_X12_code_40 : Cond.fieldLink RX12 40 "CuckooSharesModel" "read" "[I" ∈ wsX12_code := by decide +kernel
theorem lk_X12_code_431 : Cond.fieldLink RX12 431 "CuckooSharesModel" "codes" "I" ∈ wsX12_code := by decide +kernel
abbrev L_X12_code : List Rc := [(391, 391, 0, 119), (387, 387, 38, 38)]
abbrev LL_X12_code : List Rc := []
def P_X12_code (σ0 : Nat → Nat → Int32) (τ0 : Nat → Nat → Int64) (a1 : Int32) (a2 : Int32) (a3 : Int32) (σ : Nat → Nat → Int32) (τ : Nat → Nat → Int64) : Prop := Rg σ ∧ Fr L_X12_code σ0 σ ∧ FrL LL_X12_code τ0 τ ∧ (CD σ0 σ a1)
set_option maxHeartbeats 4000000 in
theorem c_X12_code (l : Launch) (D : va_G) (cA : Nat → ClassId) (ad : Nat → Nat) (hI : Inj ad) (σ0 : Nat → Nat → Int32) (τ0 : Nat → Nat → Int64) (hR : Rg σ0) (a1 : Int32) (a2 : Int32) (a3 : Int32) (ha1 : 0 ≤ a1.toInt ∧ a1.toInt ≤ 22) (ha2 : 0 ≤ a2.toInt ∧ a2.toInt ≤ 62) (hpre0 : (σ0 387 38).toInt ≤ 39) : Met l yX12_code wsX12_code ({ frames := 0, cells := 0, slots := 0, locals := 0 } : Room) (WQc D cA ad [.ref (ad 387), .int a1, .int a2, .int a3] σ0 τ0) (va_Qv (fun u : SS => P_X12_code σ0 τ0 a1 a2 a3 u.1 u.2) (WB D cA ad) (AA ad)) 0 0 (AA ad) := by
  refine Met.ofW (cc := cX12_code) (maxL := 4) (ret := none) (by decide) rfl ?_
  intro p e s m args below meth c s₁ B hml hv
  obtain ⟨rfl, hP, hK, hN⟩ := hv
  have C : Cy p s m _ meth c cX12_code 4 wsX12_code RX12 D cA ad none := ⟨B.exec, B.bytes, hml, findClass_of_methodNamed B.named, atoms_spec (ws := wsX12_code) B.pre, hK, B.notSynchronized, B.returns, hI, hN⟩
  have hl := lv_entry ([.ref (ad 387), .int a1, .int a2, .int a3]) (n := 4) (Nat.le_of_ble_eq_true rfl)
  rw [lg_entry_eq]
  generalize (lg_sl ([.ref (ad 387), .int a1, .int a2, .int a3]) ++ List.replicate (4 - (lg_sl ([.ref (ad 387), .int a1, .int a2, .int a3])).length) Slot.unset).toArray = ls at hl ⊢
  have hl : lv_has ls 4 [(0, .ref (ad 387)), (1, .int a1), (2, .int a2), (3, .int a3)] := hl
  have hS : va_S (AA ad) s.heap s.heap [] := va_S.rf
  have hF : Fr L_X12_code σ0 σ0 := Fr.rf
  have hFL : FrL LL_X12_code τ0 τ0 := FrL.rf
  obtain ⟨hx, hb, _, hown, hts, _, hk, hr, _, _⟩ := C
  have hrt38 := rg_12_38 hR (k := 387) (by decide) (by decide)
  refine lv_aload_n hx hb dX12_code_0 rfl (lv_at hl 0 rfl) ?_
  refine fg_12_8 (k := 387) hx hb hts in_X12_code_12 hown hK hP (by decide) (by decide) (hts _ lk_X12_code_40) dX12_code_1 ?_
  refine r_iconst hx hb dX12_code_4 (by decide) (fun z1 ez1 => ?_)
  refine lv_aload_n hx hb dX12_code_5 rfl (lv_at hl 0 rfl) ?_
  refine fg_12_38 (k := 387) hx hb hts in_X12_code_12 hown hK hP (by decide) (by decide) (hts _ lk_X12_code_431) dX12_code_6 ?_
  refine r_imulL (n := 3) hx hb dX12_code_9 (by omega) (by omega) (fun z2 ez2 => ?_)
  refine lv_iload_n hx hb dX12_code_10 rfl (lv_at hl 1 rfl) ?_
  obtain ⟨j3, ej3⟩ : ∃ j : Nat, z2.toInt = (j : Int) := ⟨_, ti_nat (by omega)⟩
  refine as_mread (k := 391) (j := j3) hx hb hK hP hI hR hS (by decide) (by decide) ej3 (by omega) dX12_code_11 (fun σ4 H4 locs4 u4 v4 hR hP hS => ?_)
  have ua := u4
  have va := v4
  have hF := hF.puts u4 0 rfl (by decide) (by decide) (by omega) (by omega)
  have t5 : (σ4 387 38).toInt = (σ0 387 38).toInt := congrArg Int32.toInt (u4 387 38 (by omega))
  refine lv_aload_n hx hb dX12_code_12 rfl (lv_at hl 0 rfl) ?_
  refine fg_12_8 (k := 387) hx hb hts in_X12_code_12 hown hK hP (by decide) (by decide) (hts _ lk_X12_code_40) dX12_code_13 ?_
  refine r_iconst hx hb dX12_code_16 (by decide) (fun z6 ez6 => ?_)
  refine lv_aload_n hx hb dX12_code_17 rfl (lv_at hl 0 rfl) ?_
  refine fg_12_38 (k := 387) hx hb hts in_X12_code_12 hown hK hP (by decide) (by decide) (hts _ lk_X12_code_431) dX12_code_18 ?_
  refine r_imulL (n := 3) hx hb dX12_code_21 (by omega) (by omega) (fun z7 ez7 => ?_)
  refine r_iconst hx hb dX12_code_22 (by decide) (fun z8 ez8 => ?_)
  refine r_iadd hx hb dX12_code_23 (by omega) (fun z9 ez9 => ?_)
  refine lv_iload_n hx hb dX12_code_24 rfl (lv_at hl 2 rfl) ?_
  obtain ⟨j10, ej10⟩ : ∃ j : Nat, z9.toInt = (j : Int) := ⟨_, ti_nat (by omega)⟩
  refine as_mread (k := 391) (j := j10) hx hb hK hP hI hR hS (by decide) (by decide) ej10 (by omega) dX12_code_25 (fun σ11 H11 locs11 u11 v11 hR hP hS => ?_)
  have ub := u11
  have vb := v11
  have hF := hF.puts u11 0 rfl (by decide) (by decide) (by omega) (by omega)
  have t12 : (σ11 387 38).toInt = (σ4 387 38).toInt := congrArg Int32.toInt (u11 387 38 (by omega))
  refine lv_aload_n hx hb dX12_code_26 rfl (lv_at hl 0 rfl) ?_
  refine fg_12_8 (k := 387) hx hb hts in_X12_code_12 hown hK hP (by decide) (by decide) (hts _ lk_X12_code_40) dX12_code_27 ?_
  refine r_iconst hx hb dX12_code_30 (by decide) (fun z13 ez13 => ?_)
  refine lv_aload_n hx hb dX12_code_31 rfl (lv_at hl 0 rfl) ?_
  refine fg_12_38 (k := 387) hx hb hts in_X12_code_12 hown hK hP (by decide) (by decide) (hts _ lk_X12_code_431) dX12_code_32 ?_
  refine r_imulL (n := 3) hx hb dX12_code_35 (by omega) (by omega) (fun z14 ez14 => ?_)
  refine r_iconst hx hb dX12_code_36 (by decide) (fun z15 ez15 => ?_)
  refine r_iadd hx hb dX12_code_37 (by omega) (fun z16 ez16 => ?_)
  refine lv_iload_n hx hb dX12_code_38 rfl (lv_at hl 3 rfl) ?_
  obtain ⟨j17, ej17⟩ : ∃ j : Nat, z16.toInt = (j : Int) := ⟨_, ti_nat (by omega)⟩
  refine as_mread (k := 391) (j := j17) hx hb hK hP hI hR hS (by decide) (by decide) ej17 (by omega) dX12_code_39 (fun σ18 H18 locs18 u18 v18 hR hP hS => ?_)
  have uc := u18
  have vc := v18
  have hF := hF.puts u18 0 rfl (by decide) (by decide) (by omega) (by omega)
  have t19 : (σ18 387 38).toInt = (σ11 387 38).toInt := congrArg Int32.toInt (u18 387 38 (by omega))
  refine lv_aload_n hx hb dX12_code_40 rfl (lv_at hl 0 rfl) ?_
  refine lv_dup hx hb dX12_code_41 rfl ?_
  refine fg_12_38 (k := 387) hx hb hts in_X12_code_12 hown hK hP (by decide) (by decide) (hts _ lk_X12_code_431) dX12_code_42 ?_
  refine r_iconst hx hb dX12_code_45 (by decide) (fun z20 ez20 => ?_)
  refine r_iadd hx hb dX12_code_46 (by omega) (fun z21 ez21 => ?_)
  refine fp_12_38 (k := 387) hx hb hts in_X12_code_12 hown hK hP (by decide) (by decide) (hts _ lk_X12_code_431) hI hR hS (by omega) dX12_code_47 (fun σ22 H22 locs22 u22 v22 hR hP hS => ?_)
  have ud := u22
  have vd := v22
  have hF := hF.puts u22 1 rfl (by decide) (by decide) (by decide) (by decide)
  exact r_vret hx hb hr hK hP hS hk dX12_code_50 (show P_X12_code σ0 τ0 a1 a2 a3 σ22 τ0 from ⟨hR, hF, hFL, CD.of ua va ub uc ud vd (by omega) (by omega) (by omega) (by omega) (by omega)⟩)
theorem in_X12_joins_12 : ∀ w ∈ u_ws RX12 TX12 47, w ∈ wsX12_joins := by decide +kernel
theorem lk_X12_joins_434 : Cond.fieldLink RX12 434 "CuckooSharesModel" "top" "I" ∈ wsX12_joins := by decide +kernel
theorem lk_X12_joins_71 : Cond.fieldLink RX12 71 "CuckooSharesModel" "stack" "[I" ∈ wsX12_joins := by decide +kernel
abbrev L_X12_joins : List Rc := [(387, 387, 40, 40), (391, 391, 0, 119), (387, 387, 38, 38)]
abbrev LL_X12_joins : List Rc := []
def P_X12_joins (σ0 : Nat → Nat → Int32) (τ0 : Nat → Nat → Int64) (a1 : Int32) (K : List Bool) (σ : Nat → Nat → Int32) (τ : Nat → Nat → Int64) : Prop := Rg σ ∧ Fr L_X12_joins σ0 σ ∧ FrL LL_X12_joins τ0 τ ∧ ((σ 387 38).toInt + (σ 387 40).toInt = (σ0 387 38).toInt + (σ0 387 40).toInt) ∧ ((σ 387 40).toInt ≤ (σ0 387 40).toInt) ∧ (∀ t : Nat, (σ 387 40).toInt = (t : Int) + 1 → a1.toInt = 22 → (σ 401 t).toInt ≠ 21 ∧ (σ 401 t).toInt ≠ 22) ∧ ((σ 387 39).toInt = (σ0 387 39).toInt) ∧ PV σ ∧ SN σ K
def J_X12_joins_0 (p : Program) (l : Launch) (e : Env) (s : State) (m : MethodId) (args : Array Value) (below : List Frame) (meth : Method) (c : Code) (D : va_G) (cA : Nat → ClassId) (ad : Nat → Nat) (σ0 : Nat → Nat → Int32) (τ0 : Nat → Nat → Int64) (a1 : Int32) (K : List Bool) (n : Nat) : Prop := ∀ (σ : Nat → Nat → Int32) (τ : Nat → Nat → Int64) (H : Heap) (locs : List Loc)  (ls : Array Slot), Rg σ → Fr L_X12_joins σ0 σ → FrL LL_X12_joins τ0 τ → va_P D vwCl (gw cA ad σ τ) H → va_S (AA ad) s.heap H locs → (0 ≤ (σ 387 42).toInt ∧ (σ 387 42).toInt ≤ 1) → (0 ≤ (σ 387 39).toInt ∧ (σ 387 39).toInt ≤ 20) → (0 ≤ (σ 387 40).toInt ∧ (σ 387 40).toInt ≤ 40) → (0 ≤ (σ 387 38).toInt ∧ (σ 387 38).toInt ≤ 40) → ((σ 387 38).toInt + (σ 387 40).toInt = (σ0 387 38).toInt + (σ0 387 40).toInt) → ((σ 387 40).toInt ≤ (σ0 387 40).toInt) → ((σ 387 42).toInt = 1) → ((σ 387 39).toInt = (σ0 387 39).toInt) → (PV σ) → (SN σ K) → lv_has ls 2 [(0, .ref (ad 387)), (1, .int a1)] → 2 * (σ 387 40).toInt + 1 < (n : Int) → W p l e ({ frames := 1, cells := 0, slots := 0, locals := 23 } : Room) s m args below meth c H locs 0 0 (MQ below (va_Qv (fun u : SS => P_X12_joins σ0 τ0 a1 K u.1 u.2) (WB D cA ad) (AA ad)) args s 0 0 (AA ad)) (F0 m 0 ls [])
set_option maxHeartbeats 4000000 in
theorem B_X12_joins_0 (p : Program) (l : Launch) (e : Env) (s : State) (m : MethodId) (args : Array Value) (below : List Frame) (meth : Method) (c : Code) (D : va_G) (cA : Nat → ClassId) (ad : Nat → Nat) (σ0 : Nat → Nat → Int32) (τ0 : Nat → Nat → Int64) (a1 : Int32) (K : List Bool) (n : Nat) (C : Cy p s m args meth c cX12_joins 2 wsX12_joins RX12 D cA ad none) (ha1 : 21 ≤ a1.toInt ∧ a1.toInt ≤ 22) (hpre0 : (σ0 387 42).toInt = 1) (hpre1 : (σ0 387 38).toInt + (σ0 387 40).toInt ≤ 40) (hpre2 : pnt K = K) (gPV0 : PV σ0) (gSN0 : SN σ0 K) (K0 : J_X12_joins_0 p l e s m args below meth c D cA ad σ0 τ0 a1 K n) : J_X12_joins_0 p l e s m args below meth c D cA ad σ0 τ0 a1 K (n + 1) := by
  obtain ⟨hx, hb, hml, hown, hts, hK, hk, hr, hI, hN⟩ := C
  intro σ τ H locs ls hR hF hFL hP hS hc0 hc1 hc2 hc3 hi0 hi1 hi2 hi3 gPV gSN hl hm
  obtain rfl := FrL.nil hFL
  refine lv_aload_n hx hb dX12_joins_0 rfl (lv_at hl 0 rfl) ?_
  refine fg_12_40 (k := 387) hx hb hts in_X12_joins_12 hown hK hP (by decide) (by decide) (hts _ lk_X12_joins_434) dX12_joins_1 ?_
  refine r_if_le (tgt := 73) hx hb dX12_joins_4 (by decide) (fun c1 => ?_) (fun c1 => ?_)
  · exact r_vret hx hb hr hK hP hS hk dX12_joins_73 (show P_X12_joins σ0 τ0 a1 K σ τ0 from ⟨hR, hF, hFL, by omega, by omega, by intro t h1 h2; first | (exfalso; omega) | (have ej : t = 0 := (by omega); subst ej; omega), by omega, gPV, gSN⟩)
  · refine lv_aload_n hx hb dX12_joins_7 rfl (lv_at hl 0 rfl) ?_
    refine fg_12_37 (k := 387) hx hb hts in_X12_joins_12 hown hK hP (by decide) (by decide) (hts _ lk_X12_joins_71) dX12_joins_8 ?_
    refine lv_aload_n hx hb dX12_joins_11 rfl (lv_at hl 0 rfl) ?_
    refine fg_12_40 (k := 387) hx hb hts in_X12_joins_12 hown hK hP (by decide) (by decide) (hts _ lk_X12_joins_434) dX12_joins_12 ?_
    refine r_iconst hx hb dX12_joins_15 (by decide) (fun z2 ez2 => ?_)
    refine r_isub hx hb dX12_joins_16 (by omega) (fun z3 ez3 => ?_)
    obtain ⟨j4, ej4⟩ : ∃ j : Nat, z3.toInt = (j : Int) := ⟨_, ti_nat (by omega)⟩
    refine ad_mstack (k := 401) (j := j4) hx hb hK hP (by decide) (by decide) ej4 (by omega) dX12_joins_17 ?_
    refine r_bipush hx hb dX12_joins_18 (by decide) (fun z5 ez5 => ?_)
    refine r_icmp_eq (tgt := 45) hx hb dX12_joins_20 (by decide) (fun c6 => ?_) (fun c6 => ?_)
    · refine lv_aload_n hx hb dX12_joins_45 rfl (lv_at hl 0 rfl) ?_
      refine lv_dup hx hb dX12_joins_46 rfl ?_
      refine fg_12_40 (k := 387) hx hb hts in_X12_joins_12 hown hK hP (by decide) (by decide) (hts _ lk_X12_joins_434) dX12_joins_47 ?_
      refine r_iconst hx hb dX12_joins_50 (by decide) (fun z7 ez7 => ?_)
      refine r_isub hx hb dX12_joins_51 (by omega) (fun z8 ez8 => ?_)
      refine fp_12_40 (k := 387) hx hb hts in_X12_joins_12 hown hK hP (by decide) (by decide) (hts _ lk_X12_joins_434) hI hR hS (by omega) dX12_joins_52 (fun σ9 H9 locs9 u9 v9 hR hP hS => ?_)
      have ut := u9
      have vt := v9
      have hF := hF.puts u9 0 rfl (by decide) (by decide) (by decide) (by decide)
      have t10 : (σ9 387 42).toInt = (σ 387 42).toInt := congrArg Int32.toInt (u9 387 42 (by omega))
      have t11 : (σ9 387 39).toInt = (σ 387 39).toInt := congrArg Int32.toInt (u9 387 39 (by omega))
      have t12 : (σ9 387 38).toInt = (σ 387 38).toInt := congrArg Int32.toInt (u9 387 38 (by omega))
      have t13 : (σ9 401 j4).toInt = (σ 401 j4).toInt := congrArg Int32.toInt (u9 401 j4 (by omega))
      have gSN := SN.join (t := j4) gSN (by omega) (by omega) ut (by omega)
      refine lv_aload_n hx hb dX12_joins_55 rfl (lv_at hl 0 rfl) ?_
      refine lv_aload_n hx hb dX12_joins_56 rfl (lv_at hl 0 rfl) ?_
      refine fg_12_37 (k := 387) hx hb hts in_X12_joins_12 hown hK hP (by decide) (by decide) (hts _ lk_X12_joins_71) dX12_joins_57 ?_
      refine lv_aload_n hx hb dX12_joins_60 rfl (lv_at hl 0 rfl) ?_
      refine fg_12_40 (k := 387) hx hb hts in_X12_joins_12 hown hK hP (by decide) (by decide) (hts _ lk_X12_joins_434) dX12_joins_61 ?_
      refine ad_mstack (k := 401) (j := j4) hx hb hK hP (by decide) (by decide) (by omega) (by omega) dX12_joins_64 ?_
      refine r_iconst hx hb dX12_joins_65 (by decide) (fun z14 ez14 => ?_)
      refine r_iconst hx hb dX12_joins_66 (by decide) (fun z15 ez15 => ?_)
      refine r_cVv (k := 387) (As := [.int (σ9 401 j4), .int z14, .int z15]) (rest := []) ⟨hx, hb, hml, hown, hts⟩ hK hP hN hS (c_X12_code l D cA ad hI σ9 τ0 hR (σ9 401 j4) z14 z15 (by omega) (by omega) (by omega)) (cwV 3 hts gX12_joins_X12_code rfl rfl rfl (by decide +kernel) ⟨by decide, by decide⟩) (rv_M hK hP (by decide) (by decide)) rfl hl.1 rfl (Nat.le_of_ble_eq_true rfl) dX12_joins_67 (Nat.zero_le _) (Nat.zero_le _) (fun u16 H16 locs16 hp16 hP hS => ?_)
      obtain ⟨σ16, τ16⟩ := u16
      obtain ⟨hR, f16, fL16, hp16_0⟩ : P_X12_code σ9 τ0 (σ9 401 j4) z14 z15 σ16 τ16 := hp16
      have cd := hp16_0
      have fc := f16
      have hP : va_P D vwCl (gw cA ad σ16 τ16) H16 := hP
      obtain rfl := FrL.nil fL16
      have hF := hF.step f16 (by decide)
      have gSN := gSN.ag (Agr.fr f16 (by decide))
      have t17 : (σ16 387 42).toInt = (σ9 387 42).toInt := congrArg Int32.toInt (f16.at 387 42 (by decide))
      have t18 : (σ16 387 39).toInt = (σ9 387 39).toInt := congrArg Int32.toInt (f16.at 387 39 (by decide))
      have t19 : (σ16 401 j4).toInt = (σ9 401 j4).toInt := congrArg Int32.toInt (f16.atV 401 j4 (by intro q hq; simp only [L_X12_code, List.mem_cons, List.not_mem_nil, or_false] at hq; rcases hq with rfl | rfl <;> dsimp only <;> omega))
      have t20 : (σ16 387 40).toInt = (σ9 387 40).toInt := congrArg Int32.toInt (f16.at 387 40 (by decide))
      have hr21 := rg_12_38 hR (k := 387) (by decide) (by decide)
      have gPV := PV.join (j := j4) gPV (by omega) ut (by omega) (by omega) (by omega) (by omega) cd fc (by decide) (by omega)
      obtain ⟨cc0, hcc1, hcc2, _, _⟩ := id cd
      refine lv_goto (tgt := 0) hx hb dX12_joins_70 (by decide) ?_
      exact K0 σ16 τ0 H16 locs16  ls hR hF hFL hP hS (by omega) (by omega) (by omega) (by omega) (by omega) (by omega) (by omega) (by omega) gPV gSN (lv_sub hl [0, 1] rfl) (by omega)
    · refine lv_aload_n hx hb dX12_joins_23 rfl (lv_at hl 0 rfl) ?_
      refine fg_12_37 (k := 387) hx hb hts in_X12_joins_12 hown hK hP (by decide) (by decide) (hts _ lk_X12_joins_71) dX12_joins_24 ?_
      refine lv_aload_n hx hb dX12_joins_27 rfl (lv_at hl 0 rfl) ?_
      refine fg_12_40 (k := 387) hx hb hts in_X12_joins_12 hown hK hP (by decide) (by decide) (hts _ lk_X12_joins_434) dX12_joins_28 ?_
      refine r_iconst hx hb dX12_joins_31 (by decide) (fun z22 ez22 => ?_)
      refine r_isub hx hb dX12_joins_32 (by omega) (fun z23 ez23 => ?_)
      refine ad_mstack (k := 401) (j := j4) hx hb hK hP (by decide) (by decide) (by omega) (by omega) dX12_joins_33 ?_
      refine r_bipush hx hb dX12_joins_34 (by decide) (fun z24 ez24 => ?_)
      refine r_icmp_ne (tgt := 73) hx hb dX12_joins_36 (by decide) (fun c25 => ?_) (fun c25 => ?_)
      · exact r_vret hx hb hr hK hP hS hk dX12_joins_73 (show P_X12_joins σ0 τ0 a1 K σ τ0 from ⟨hR, hF, hFL, by omega, by omega, by intro t h1 h2; first | (exfalso; omega) | (have ej : t = j4 := (by omega); subst ej; omega), by omega, gPV, gSN⟩)
      · refine lv_iload_n hx hb dX12_joins_39 rfl (lv_at hl 1 rfl) ?_
        refine r_bipush hx hb dX12_joins_40 (by decide) (fun z26 ez26 => ?_)
        refine r_icmp_ne (tgt := 73) hx hb dX12_joins_42 (by decide) (fun c27 => ?_) (fun c27 => ?_)
        · exact r_vret hx hb hr hK hP hS hk dX12_joins_73 (show P_X12_joins σ0 τ0 a1 K σ τ0 from ⟨hR, hF, hFL, by omega, by omega, by intro t h1 h2; first | (exfalso; omega) | (have ej : t = j4 := (by omega); subst ej; omega), by omega, gPV, gSN⟩)
        · refine lv_aload_n hx hb dX12_joins_45 rfl (lv_at hl 0 rfl) ?_
          refine lv_dup hx hb dX12_joins_46 rfl ?_
          refine fg_12_40 (k := 387) hx hb hts in_X12_joins_12 hown hK hP (by decide) (by decide) (hts _ lk_X12_joins_434) dX12_joins_47 ?_
          refine r_iconst hx hb dX12_joins_50 (by decide) (fun z28 ez28 => ?_)
          refine r_isub hx hb dX12_joins_51 (by omega) (fun z29 ez29 => ?_)
          refine fp_12_40 (k := 387) hx hb hts in_X12_joins_12 hown hK hP (by decide) (by decide) (hts _ lk_X12_joins_434) hI hR hS (by omega) dX12_joins_52 (fun σ30 H30 locs30 u30 v30 hR hP hS => ?_)
          have ut := u30
          have vt := v30
          have hF := hF.puts u30 0 rfl (by decide) (by decide) (by decide) (by decide)
          have t31 : (σ30 387 42).toInt = (σ 387 42).toInt := congrArg Int32.toInt (u30 387 42 (by omega))
          have t32 : (σ30 387 39).toInt = (σ 387 39).toInt := congrArg Int32.toInt (u30 387 39 (by omega))
          have t33 : (σ30 387 38).toInt = (σ 387 38).toInt := congrArg Int32.toInt (u30 387 38 (by omega))
          have t34 : (σ30 401 j4).toInt = (σ 401 j4).toInt := congrArg Int32.toInt (u30 401 j4 (by omega))
          have gSN := SN.join (t := j4) gSN (by omega) (by omega) ut (by omega)
          refine lv_aload_n hx hb dX12_joins_55 rfl (lv_at hl 0 rfl) ?_
          refine lv_aload_n hx hb dX12_joins_56 rfl (lv_at hl 0 rfl) ?_
          refine fg_12_37 (k := 387) hx hb hts in_X12_joins_12 hown hK hP (by decide) (by decide) (hts _ lk_X12_joins_71) dX12_joins_57 ?_
          refine lv_aload_n hx hb dX12_joins_60 rfl (lv_at hl 0 rfl) ?_
          refine fg_12_40 (k := 387) hx hb hts in_X12_joins_12 hown hK hP (by decide) (by decide) (hts _ lk_X12_joins_434) dX12_joins_61 ?_
          refine ad_mstack (k := 401) (j := j4) hx hb hK hP (by decide) (by decide) (by omega) (by omega) dX12_joins_64 ?_
          refine r_iconst hx hb dX12_joins_65 (by decide) (fun z35 ez35 => ?_)
          refine r_iconst hx hb dX12_joins_66 (by decide) (fun z36 ez36 => ?_)
          refine r_cVv (k := 387) (As := [.int (σ30 401 j4), .int z35, .int z36]) (rest := []) ⟨hx, hb, hml, hown, hts⟩ hK hP hN hS (c_X12_code l D cA ad hI σ30 τ0 hR (σ30 401 j4) z35 z36 (by omega) (by omega) (by omega)) (cwV 3 hts gX12_joins_X12_code rfl rfl rfl (by decide +kernel) ⟨by decide, by decide⟩) (rv_M hK hP (by decide) (by decide)) rfl hl.1 rfl (Nat.le_of_ble_eq_true rfl) dX12_joins_67 (Nat.zero_le _) (Nat.zero_le _) (fun u37 H37 locs37 hp37 hP hS => ?_)
          obtain ⟨σ37, τ37⟩ := u37
          obtain ⟨hR, f37, fL37, hp37_0⟩ : P_X12_code σ30 τ0 (σ30 401 j4) z35 z36 σ37 τ37 := hp37
          have cd := hp37_0
          have fc := f37
          have hP : va_P D vwCl (gw cA ad σ37 τ37) H37 := hP
          obtain rfl := FrL.nil fL37
          have hF := hF.step f37 (by decide)
          have gSN := gSN.ag (Agr.fr f37 (by decide))
          have t38 : (σ37 387 42).toInt = (σ30 387 42).toInt := congrArg Int32.toInt (f37.at 387 42 (by decide))
          have t39 : (σ37 387 39).toInt = (σ30 387 39).toInt := congrArg Int32.toInt (f37.at 387 39 (by decide))
          have t40 : (σ37 401 j4).toInt = (σ30 401 j4).toInt := congrArg Int32.toInt (f37.atV 401 j4 (by intro q hq; simp only [L_X12_code, List.mem_cons, List.not_mem_nil, or_false] at hq; rcases hq with rfl | rfl <;> dsimp only <;> omega))
          have t41 : (σ37 387 40).toInt = (σ30 387 40).toInt := congrArg Int32.toInt (f37.at 387 40 (by decide))
          have hr42 := rg_12_38 hR (k := 387) (by decide) (by decide)
          have gPV := PV.join (j := j4) gPV (by omega) ut (by omega) (by omega) (by omega) (by omega) cd fc (by decide) (by omega)
          obtain ⟨cc0, hcc1, hcc2, _, _⟩ := id cd
          refine lv_goto (tgt := 0) hx hb dX12_joins_70 (by decide) ?_
          exact K0 σ37 τ0 H37 locs37  ls hR hF hFL hP hS (by omega) (by omega) (by omega) (by omega) (by omega) (by omega) (by omega) (by omega) gPV gSN (lv_sub hl [0, 1] rfl) (by omega)
theorem A_X12_joins (p : Program) (l : Launch) (e : Env) (s : State) (m : MethodId) (args : Array Value) (below : List Frame) (meth : Method) (c : Code) (D : va_G) (cA : Nat → ClassId) (ad : Nat → Nat) (σ0 : Nat → Nat → Int32) (τ0 : Nat → Nat → Int64) (a1 : Int32) (K : List Bool) (C : Cy p s m args meth c cX12_joins 2 wsX12_joins RX12 D cA ad none) (ha1 : 21 ≤ a1.toInt ∧ a1.toInt ≤ 22) (hpre0 : (σ0 387 42).toInt = 1) (hpre1 : (σ0 387 38).toInt + (σ0 387 40).toInt ≤ 40) (hpre2 : pnt K = K) (gPV0 : PV σ0) (gSN0 : SN σ0 K) : ∀ n : Nat, J_X12_joins_0 p l e s m args below meth c D cA ad σ0 τ0 a1 K n := by
  intro n
  induction n with
  | zero =>
    exact (by intro σ τ H locs ls hR hF hFL hP hS hc0 hc1 hc2 hc3 hi0 hi1 hi2 hi3 gPV gSN hl hm; exfalso; omega)
  | succ n ih =>
    exact B_X12_joins_0 p l e s m args below meth c D cA ad σ0 τ0 a1 K n C ha1 hpre0 hpre1 hpre2 gPV0 gSN0 ih
set_option maxHeartbeats 4000000 in
theorem c_X12_joins (l : Launch) (D : va_G) (cA : Nat → ClassId) (ad : Nat → Nat) (hI : Inj ad) (σ0 : Nat → Nat → Int32) (τ0 : Nat → Nat → Int64) (hR : Rg σ0) (a1 : Int32) (K : List Bool) (ha1 : 21 ≤ a1.toInt ∧ a1.toInt ≤ 22) (hpre0 : (σ0 387 42).toInt = 1) (hpre1 : (σ0 387 38).toInt + (σ0 387 40).toInt ≤ 40) (hpre2 : pnt K = K) (gPV0 : PV σ0) (gSN0 : SN σ0 K) : Met l yX12_joins wsX12_joins ({ frames := 1, cells := 0, slots := 0, locals := 23 } : Room) (WQc D cA ad [.ref (ad 387), .int a1] σ0 τ0) (va_Qv (fun u : SS => P_X12_joins σ0 τ0 a1 K u.1 u.2) (WB D cA ad) (AA ad)) 0 0 (AA ad) := by
  refine Met.ofW (cc := cX12_joins) (maxL := 2) (ret := none) (by decide) rfl ?_
  intro p e s m args below meth c s₁ B hml hv
  obtain ⟨rfl, hP, hK, hN⟩ := hv
  have C : Cy p s m _ meth c cX12_joins 2 wsX12_joins RX12 D cA ad none := ⟨B.exec, B.bytes, hml, findClass_of_methodNamed B.named, atoms_spec (ws := wsX12_joins) B.pre, hK, B.notSynchronized, B.returns, hI, hN⟩
  have hl := lv_entry ([.ref (ad 387), .int a1]) (n := 2) (Nat.le_of_ble_eq_true rfl)
  rw [lg_entry_eq]
  generalize (lg_sl ([.ref (ad 387), .int a1]) ++ List.replicate (2 - (lg_sl ([.ref (ad 387), .int a1])).length) Slot.unset).toArray = ls at hl ⊢
  have hl : lv_has ls 2 [(0, .ref (ad 387)), (1, .int a1)] := hl
  have hS : va_S (AA ad) s.heap s.heap [] := va_S.rf
  have hF : Fr L_X12_joins σ0 σ0 := Fr.rf
  have hFL : FrL LL_X12_joins τ0 τ0 := FrL.rf
  have gPV := gPV0
  have gSN := gSN0
  have hA := A_X12_joins p l e s m _ below meth c D cA ad σ0 τ0 a1 K C ha1 hpre0 hpre1 hpre2 gPV0 gSN0 170
  have K0 := hA
  clear hA
  obtain ⟨hx, hb, _, hown, hts, _, hk, hr, _, _⟩ := C
  have hrt38 := rg_12_38 hR (k := 387) (by decide) (by decide)
  have hrt40 := rg_12_40 hR (k := 387) (by decide) (by decide)
  have hrt42 := rg_12_42 hR (k := 387) (by decide) (by decide)
  have hrt39 := rg_12_39 hR (k := 387) (by decide) (by decide)
  exact K0 σ0 τ0 s.heap []  ls hR hF hFL hP hS (by omega) (by omega) (by omega) (by omega) (by omega) (by omega) (by omega) (by omega) gPV gSN (lv_sub hl [0, 1] rfl) (by omega)
theorem in_X12_nots_12 : ∀ w ∈ u_ws RX12 TX12 47, w ∈ wsX12_nots := by decide +kernel
theorem lk_X12_nots_434 : Cond.fieldLink RX12 434 "CuckooSharesModel" "top" "I" ∈ wsX12_nots := by decide +kernel
theorem lk_X12_nots_440 : Cond.fieldLink RX12 440 "CuckooSharesModel" "deep" "I" ∈ wsX12_nots := by decide +kernel
theorem lk_X12_nots_71 : Cond.fieldLink RX12 71 "CuckooSharesModel" "stack" "[I" ∈ wsX12_nots := by decide +kernel
abbrev L_X12_nots : List Rc := [(387, 387, 40, 41), (391, 391, 0, 119), (387, 387, 38, 38)]
abbrev LL_X12_nots : List Rc := []
def P_X12_nots (σ0 : Nat → Nat → Int32) (τ0 : Nat → Nat → Int64) (K : List Bool) (σ : Nat → Nat → Int32) (τ : Nat → Nat → Int64) : Prop := Rg σ ∧ Fr L_X12_nots σ0 σ ∧ FrL LL_X12_nots τ0 τ ∧ ((σ 387 38).toInt + (σ 387 40).toInt = (σ0 387 38).toInt + (σ0 387 40).toInt) ∧ ((σ 387 40).toInt ≤ (σ0 387 40).toInt) ∧ (SN σ (pnt K)) ∧ ((σ 387 39).toInt = (σ0 387 39).toInt) ∧ PV σ
def J_X12_nots_0 (p : Program) (l : Launch) (e : Env) (s : State) (m : MethodId) (args : Array Value) (below : List Frame) (meth : Method) (c : Code) (D : va_G) (cA : Nat → ClassId) (ad : Nat → Nat) (σ0 : Nat → Nat → Int32) (τ0 : Nat → Nat → Int64) (K : List Bool) (n : Nat) : Prop := ∀ (σ : Nat → Nat → Int32) (τ : Nat → Nat → Int64) (H : Heap) (locs : List Loc) (K1 : List Bool) (ls : Array Slot), Rg σ → Fr L_X12_nots σ0 σ → FrL LL_X12_nots τ0 τ → va_P D vwCl (gw cA ad σ τ) H → va_S (AA ad) s.heap H locs → (0 ≤ (σ 387 42).toInt ∧ (σ 387 42).toInt ≤ 1) → (0 ≤ (σ 387 39).toInt ∧ (σ 387 39).toInt ≤ 20) → (0 ≤ (σ 387 40).toInt ∧ (σ 387 40).toInt ≤ 40) → (0 ≤ (σ 387 38).toInt ∧ (σ 387 38).toInt ≤ 40) → ((σ 387 38).toInt + (σ 387 40).toInt = (σ0 387 38).toInt + (σ0 387 40).toInt) → ((σ 387 40).toInt ≤ (σ0 387 40).toInt) → ((σ 387 42).toInt = 1) → (pnt K1 = pnt K) → ((σ 387 39).toInt = (σ0 387 39).toInt) → (PV σ) → (SN σ K1) → lv_has ls 1 [(0, .ref (ad 387))] → 2 * (σ 387 40).toInt + 1 < (n : Int) → W p l e ({ frames := 1, cells := 0, slots := 0, locals := 23 } : Room) s m args below meth c H locs 0 0 (MQ below (va_Qv (fun u : SS => P_X12_nots σ0 τ0 K u.1 u.2) (WB D cA ad) (AA ad)) args s 0 0 (AA ad)) (F0 m 0 ls [])
set_option maxHeartbeats 4000000 in
theorem B_X12_nots_0 (p : Program) (l : Launch) (e : Env) (s : State) (m : MethodId) (args : Array Value) (below : List Frame) (meth : Method) (c : Code) (D : va_G) (cA : Nat → ClassId) (ad : Nat → Nat) (σ0 : Nat → Nat → Int32) (τ0 : Nat → Nat → Int64) (K : List Bool) (n : Nat) (C : Cy p s m args meth c cX12_nots 1 wsX12_nots RX12 D cA ad none) (hpre0 : (σ0 387 42).toInt = 1) (hpre1 : (σ0 387 38).toInt + (σ0 387 40).toInt ≤ 40) (gPV0 : PV σ0) (gSN0 : SN σ0 K) (K0 : J_X12_nots_0 p l e s m args below meth c D cA ad σ0 τ0 K n) : J_X12_nots_0 p l e s m args below meth c D cA ad σ0 τ0 K (n + 1) := by
  obtain ⟨hx, hb, hml, hown, hts, hK, hk, hr, hI, hN⟩ := C
  intro σ τ H locs K1 ls hR hF hFL hP hS hc0 hc1 hc2 hc3 hi0 hi1 hi2 ikp i39 gPV gSN hl hm
  obtain rfl := FrL.nil hFL
  refine lv_aload_n hx hb dX12_nots_0 rfl (lv_at hl 0 rfl) ?_
  refine fg_12_40 (k := 387) hx hb hts in_X12_nots_12 hown hK hP (by decide) (by decide) (hts _ lk_X12_nots_434) dX12_nots_1 ?_
  refine r_if_le (tgt := 54) hx hb dX12_nots_4 (by decide) (fun c1 => ?_) (fun c1 => ?_)
  · exact r_vret hx hb hr hK hP hS hk dX12_nots_54 (show P_X12_nots σ0 τ0 K σ τ0 from ⟨hR, hF, hFL, by omega, by omega, by rw [← ikp, SN.pn gSN (fun t h1 => by first | (exfalso; omega) | (rw [show t = 0 by omega]; omega))]; exact gSN, by omega, gPV⟩)
  · refine lv_aload_n hx hb dX12_nots_7 rfl (lv_at hl 0 rfl) ?_
    refine fg_12_37 (k := 387) hx hb hts in_X12_nots_12 hown hK hP (by decide) (by decide) (hts _ lk_X12_nots_71) dX12_nots_8 ?_
    refine lv_aload_n hx hb dX12_nots_11 rfl (lv_at hl 0 rfl) ?_
    refine fg_12_40 (k := 387) hx hb hts in_X12_nots_12 hown hK hP (by decide) (by decide) (hts _ lk_X12_nots_434) dX12_nots_12 ?_
    refine r_iconst hx hb dX12_nots_15 (by decide) (fun z2 ez2 => ?_)
    refine r_isub hx hb dX12_nots_16 (by omega) (fun z3 ez3 => ?_)
    obtain ⟨j4, ej4⟩ : ∃ j : Nat, z3.toInt = (j : Int) := ⟨_, ti_nat (by omega)⟩
    refine ad_mstack (k := 401) (j := j4) hx hb hK hP (by decide) (by decide) ej4 (by omega) dX12_nots_17 ?_
    refine r_bipush hx hb dX12_nots_18 (by decide) (fun z5 ez5 => ?_)
    refine r_icmp_ne (tgt := 54) hx hb dX12_nots_20 (by decide) (fun c6 => ?_) (fun c6 => ?_)
    · exact r_vret hx hb hr hK hP hS hk dX12_nots_54 (show P_X12_nots σ0 τ0 K σ τ0 from ⟨hR, hF, hFL, by omega, by omega, by rw [← ikp, SN.pn gSN (fun t h1 => by first | (exfalso; omega) | (rw [show t = j4 by omega]; omega))]; exact gSN, by omega, gPV⟩)
    · refine lv_aload_n hx hb dX12_nots_23 rfl (lv_at hl 0 rfl) ?_
      refine lv_dup hx hb dX12_nots_24 rfl ?_
      refine fg_12_40 (k := 387) hx hb hts in_X12_nots_12 hown hK hP (by decide) (by decide) (hts _ lk_X12_nots_434) dX12_nots_25 ?_
      refine r_iconst hx hb dX12_nots_28 (by decide) (fun z7 ez7 => ?_)
      refine r_isub hx hb dX12_nots_29 (by omega) (fun z8 ez8 => ?_)
      refine fp_12_40 (k := 387) hx hb hts in_X12_nots_12 hown hK hP (by decide) (by decide) (hts _ lk_X12_nots_434) hI hR hS (by omega) dX12_nots_30 (fun σ9 H9 locs9 u9 v9 hR hP hS => ?_)
      have ut := u9
      have vt := v9
      have hF := hF.puts u9 0 rfl (by decide) (by decide) (by decide) (by decide)
      have t10 : (σ9 387 42).toInt = (σ 387 42).toInt := congrArg Int32.toInt (u9 387 42 (by omega))
      have t11 : (σ9 387 39).toInt = (σ 387 39).toInt := congrArg Int32.toInt (u9 387 39 (by omega))
      have t12 : (σ9 387 38).toInt = (σ 387 38).toInt := congrArg Int32.toInt (u9 387 38 (by omega))
      have t13 : (σ9 401 j4).toInt = (σ 401 j4).toInt := congrArg Int32.toInt (u9 401 j4 (by omega))
      refine lv_aload_n hx hb dX12_nots_33 rfl (lv_at hl 0 rfl) ?_
      refine lv_dup hx hb dX12_nots_34 rfl ?_
      refine fg_12_41 (k := 387) hx hb hts in_X12_nots_12 hown hK hP (by decide) (by decide) (hts _ lk_X12_nots_440) dX12_nots_35 ?_
      have hdl := SN.dl gSN
      have hd9 := congrArg Int32.toInt (ut 387 41 (by omega))
      refine r_iconst hx hb dX12_nots_38 (by decide) (fun z14 ez14 => ?_)
      refine r_isub hx hb dX12_nots_39 (by omega) (fun z15 ez15 => ?_)
      refine fp_12_41 (k := 387) hx hb hts in_X12_nots_12 hown hK hP (by decide) (by decide) (hts _ lk_X12_nots_440) hI hR hS dX12_nots_40 (fun σ16 H16 locs16 u16 v16 hR hP hS => ?_)
      have ue := u16
      have ve := v16
      have hF := hF.puts u16 0 rfl (by decide) (by decide) (by decide) (by decide)
      have t17 : (σ16 387 42).toInt = (σ9 387 42).toInt := congrArg Int32.toInt (u16 387 42 (by omega))
      have t18 : (σ16 387 39).toInt = (σ9 387 39).toInt := congrArg Int32.toInt (u16 387 39 (by omega))
      have t19 : (σ16 387 38).toInt = (σ9 387 38).toInt := congrArg Int32.toInt (u16 387 38 (by omega))
      have t20 : (σ16 401 j4).toInt = (σ9 401 j4).toInt := congrArg Int32.toInt (u16 401 j4 (by omega))
      have t21 : (σ16 387 40).toInt = (σ9 387 40).toInt := congrArg Int32.toInt (u16 387 40 (by omega))
      obtain ⟨K2, ek2, gSN⟩ := SN.nots (t := j4) gSN (by omega) (by omega) ut (by omega) ue (by omega)
      refine lv_aload_n hx hb dX12_nots_43 rfl (lv_at hl 0 rfl) ?_
      refine r_bipush hx hb dX12_nots_44 (by decide) (fun z22 ez22 => ?_)
      refine r_iconst hx hb dX12_nots_46 (by decide) (fun z23 ez23 => ?_)
      refine r_iconst hx hb dX12_nots_47 (by decide) (fun z24 ez24 => ?_)
      refine r_cVv (k := 387) (As := [.int z22, .int z23, .int z24]) (rest := []) ⟨hx, hb, hml, hown, hts⟩ hK hP hN hS (c_X12_code l D cA ad hI σ16 τ0 hR z22 z23 z24 (by omega) (by omega) (by omega)) (cwV 3 hts gX12_nots_X12_code rfl rfl rfl (by decide +kernel) ⟨by decide, by decide⟩) (rv_M hK hP (by decide) (by decide)) rfl hl.1 rfl (Nat.le_of_ble_eq_true rfl) dX12_nots_48 (Nat.zero_le _) (Nat.zero_le _) (fun u25 H25 locs25 hp25 hP hS => ?_)
      obtain ⟨σ25, τ25⟩ := u25
      obtain ⟨hR, f25, fL25, hp25_0⟩ : P_X12_code σ16 τ0 z22 z23 z24 σ25 τ25 := hp25
      have cd := hp25_0
      have fc := f25
      have hP : va_P D vwCl (gw cA ad σ25 τ25) H25 := hP
      obtain rfl := FrL.nil fL25
      have hF := hF.step f25 (by decide)
      have gSN := gSN.ag (Agr.fr f25 (by decide))
      have t26 : (σ25 387 42).toInt = (σ16 387 42).toInt := congrArg Int32.toInt (f25.at 387 42 (by decide))
      have t27 : (σ25 387 39).toInt = (σ16 387 39).toInt := congrArg Int32.toInt (f25.at 387 39 (by decide))
      have t28 : (σ25 401 j4).toInt = (σ16 401 j4).toInt := congrArg Int32.toInt (f25.atV 401 j4 (by intro q hq; simp only [L_X12_code, List.mem_cons, List.not_mem_nil, or_false] at hq; rcases hq with rfl | rfl <;> dsimp only <;> omega))
      have t29 : (σ25 387 40).toInt = (σ16 387 40).toInt := congrArg Int32.toInt (f25.at 387 40 (by decide))
      have hr30 := rg_12_38 hR (k := 387) (by decide) (by decide)
      have gPV := PV.nott (j := j4) gPV (by omega) ut (by omega) ue (by omega) (by omega) (by omega) cd fc (by decide) (by omega)
      obtain ⟨cc0, hcc1, hcc2, _, _⟩ := id cd
      refine lv_goto (tgt := 0) hx hb dX12_nots_51 (by decide) ?_
      exact K0 σ25 τ0 H25 locs25 K2 ls hR hF hFL hP hS (by omega) (by omega) (by omega) (by omega) (by omega) (by omega) (by omega) (by first | rfl | exact ek2.trans ikp) (by omega) gPV gSN (lv_sub hl [0] rfl) (by omega)
theorem A_X12_nots (p : Program) (l : Launch) (e : Env) (s : State) (m : MethodId) (args : Array Value) (below : List Frame) (meth : Method) (c : Code) (D : va_G) (cA : Nat → ClassId) (ad : Nat → Nat) (σ0 : Nat → Nat → Int32) (τ0 : Nat → Nat → Int64) (K : List Bool) (C : Cy p s m args meth c cX12_nots 1 wsX12_nots RX12 D cA ad none) (hpre0 : (σ0 387 42).toInt = 1) (hpre1 : (σ0 387 38).toInt + (σ0 387 40).toInt ≤ 40) (gPV0 : PV σ0) (gSN0 : SN σ0 K) : ∀ n : Nat, J_X12_nots_0 p l e s m args below meth c D cA ad σ0 τ0 K n := by
  intro n
  induction n with
  | zero =>
    exact (by intro σ τ H locs K1 ls hR hF hFL hP hS hc0 hc1 hc2 hc3 hi0 hi1 hi2 ikp i39 gPV gSN hl hm; exfalso; omega)
  | succ n ih =>
    exact B_X12_nots_0 p l e s m args below meth c D cA ad σ0 τ0 K n C hpre0 hpre1 gPV0 gSN0 ih
set_option maxHeartbeats 4000000 in
theorem c_X12_nots (l : Launch) (D : va_G) (cA : Nat → ClassId) (ad : Nat → Nat) (hI : Inj ad) (σ0 : Nat → Nat → Int32) (τ0 : Nat → Nat → Int64) (hR : Rg σ0) (K : List Bool) (hpre0 : (σ0 387 42).toInt = 1) (hpre1 : (σ0 387 38).toInt + (σ0 387 40).toInt ≤ 40) (gPV0 : PV σ0) (gSN0 : SN σ0 K) : Met l yX12_nots wsX12_nots ({ frames := 1, cells := 0, slots := 0, locals := 23 } : Room) (WQc D cA ad [.ref (ad 387)] σ0 τ0) (va_Qv (fun u : SS => P_X12_nots σ0 τ0 K u.1 u.2) (WB D cA ad) (AA ad)) 0 0 (AA ad) := by
  refine Met.ofW (cc := cX12_nots) (maxL := 1) (ret := none) (by decide) rfl ?_
  intro p e s m args below meth c s₁ B hml hv
  obtain ⟨rfl, hP, hK, hN⟩ := hv
  have C : Cy p s m _ meth c cX12_nots 1 wsX12_nots RX12 D cA ad none := ⟨B.exec, B.bytes, hml, findClass_of_methodNamed B.named, atoms_spec (ws := wsX12_nots) B.pre, hK, B.notSynchronized, B.returns, hI, hN⟩
  have hl := lv_entry ([.ref (ad 387)]) (n := 1) (Nat.le_of_ble_eq_true rfl)
  rw [lg_entry_eq]
  generalize (lg_sl ([.ref (ad 387)]) ++ List.replicate (1 - (lg_sl ([.ref (ad 387)])).length) Slot.unset).toArray = ls at hl ⊢
  have hl : lv_has ls 1 [(0, .ref (ad 387))] := hl
  have hS : va_S (AA ad) s.heap s.heap [] := va_S.rf
  have hF : Fr L_X12_nots σ0 σ0 := Fr.rf
  have hFL : FrL LL_X12_nots τ0 τ0 := FrL.rf
  have gPV := gPV0
  have gSN := gSN0
  have hA := A_X12_nots p l e s m _ below meth c D cA ad σ0 τ0 K C hpre0 hpre1 gPV0 gSN0 170
  have K0 := hA
  clear hA
  obtain ⟨hx, hb, _, hown, hts, _, hk, hr, _, _⟩ := C
  have hrt38 := rg_12_38 hR (k := 387) (by decide) (by decide)
  have hrt40 := rg_12_40 hR (k := 387) (by decide) (by decide)
  have hrt42 := rg_12_42 hR (k := 387) (by decide) (by decide)
  have hrt39 := rg_12_39 hR (k := 387) (by decide) (by decide)
  exact K0 σ0 τ0 s.heap [] K ls hR hF hFL hP hS (by omega) (by omega) (by omega) (by omega) (by omega) (by omega) (by omega) (by first | rfl | exact ek2.trans ikp) (by omega) gPV gSN (lv_sub hl [0] rfl) (by omega)
theorem in_X12_behind_12 : ∀ w ∈ u_ws RX12 TX12 47, w ∈ wsX12_behind := by decide +kernel
theorem lk_X12_behind_127 : Cond.constantLong RX12 127 (28530) ∈ wsX12_behind := by decide +kernel
theorem lk_X12_behind_129 : Cond.constantLong RX12 129 (6385252) ∈ wsX12_behind := by decide +kernel
theorem lk_X12_behind_434 : Cond.fieldLink RX12 434 "CuckooSharesModel" "top" "I" ∈ wsX12_behind := by decide +kernel
theorem lk_X12_behind_440 : Cond.fieldLink RX12 440 "CuckooSharesModel" "deep" "I" ∈ wsX12_behind := by decide +kernel
theorem lk_X12_behind_449 : Cond.fieldLink RX12 449 "CuckooSharesModel" "isWhole" "Z" ∈ wsX12_behind := by decide +kernel
theorem lk_X12_behind_71 : Cond.fieldLink RX12 71 "CuckooSharesModel" "stack" "[I" ∈ wsX12_behind := by decide +kernel
abbrev L_X12_behind : List Rc := [(391, 391, 0, 119), (387, 387, 38, 38), (401, 401, 0, 40), (387, 387, 40, 42), (387, 387, 4, 4), (387, 387, 11, 16)]
abbrev LL_X12_behind : List Rc := [(387, 387, 17, 17)]
def P_X12_behind (σ0 : Nat → Nat → Int32) (τ0 : Nat → Nat → Int64) (b : Nat → Int) (N : Nat) (mo : Nat) (q : Nat) (nn : Nat) (K : List Bool) (r : Int32) (σ : Nat → Nat → Int32) (τ : Nat → Nat → Int64) : Prop := Rg σ ∧ Fr L_X12_behind σ0 σ ∧ FrL LL_X12_behind τ0 τ ∧ (0 ≤ r.toInt ∧ r.toInt ≤ 1) ∧ (r.toInt = 0 ∨ PV σ) ∧ (r.toInt = 0 ∨ (σ 387 38).toInt + (σ 387 40).toInt + (σ 387 42).toInt ≤ 2 * (σ 387 39).toInt) ∧ (r.toInt = 0 ∨ 2 * (σ 387 40).toInt + 3 * (σ 387 42).toInt < 2 * (σ0 387 40).toInt + 3) ∧ (MO r σ (behP b N mo q nn (pnt K)) (MS σ τ b N mo)) ∧ MT σ b N mo ∧ RV τ 
set_option maxHeartbeats 4000000 in
theorem c_X12_behind (l : Launch) (D : va_G) (cA : Nat → ClassId) (ad : Nat → Nat) (hI : Inj ad) (σ0 : Nat → Nat → Int32) (τ0 : Nat → Nat → Int64) (hR : Rg σ0) (b : Nat → Int) (N : Nat) (mo : Nat) (q : Nat) (nn : Nat) (K : List Bool) (hpre0 : (σ0 387 42).toInt = 1) (hpre1 : (σ0 387 38).toInt + (σ0 387 40).toInt + 1 ≤ 2 * (σ0 387 39).toInt) (hpre2 : (σ0 387 39).toInt = (nn : Int)) (hpre3 : tkq b N mo q ≠ 48) (gPV0 : PV σ0) (gMT0 : MT σ0 b N mo) (gMK0 : MK σ0 τ0 b N mo q) (gRV0 : RV τ0 ) (gSN0 : SN σ0 K) : Met l yX12_behind wsX12_behind ({ frames := 2, cells := 0, slots := 0, locals := 44 } : Room) (WQc D cA ad [.ref (ad 387)] σ0 τ0) (va_Qi (fun (r : Int32) (u : SS) => P_X12_behind σ0 τ0 b N mo q nn K r u.1 u.2) (WB D cA ad) (AA ad)) 0 0 (AA ad) := by
  refine Met.ofW (cc := cX12_behind) (maxL := 1) (ret := (some .boolean)) (by decide) rfl ?_
  intro p e s m args below meth c s₁ B hml hv
  obtain ⟨rfl, hP, hK, hN⟩ := hv
  have C : Cy p s m _ meth c cX12_behind 1 wsX12_behind RX12 D cA ad (some .boolean) := ⟨B.exec, B.bytes, hml, findClass_of_methodNamed B.named, atoms_spec (ws := wsX12_behind) B.pre, hK, B.notSynchronized, B.returns, hI, hN⟩
  have hl := lv_entry ([.ref (ad 387)]) (n := 1) (Nat.le_of_ble_eq_true rfl)
  rw [lg_entry_eq]
  generalize (lg_sl ([.ref (ad 387)]) ++ List.replicate (1 - (lg_sl ([.ref (ad 387)])).length) Slot.unset).toArray = ls at hl ⊢
  have hl : lv_has ls 1 [(0, .ref (ad 387))] := hl
  have hS : va_S (AA ad) s.heap s.heap [] := va_S.rf
  have hF : Fr L_X12_behind σ0 σ0 := Fr.rf
  have hFL : FrL LL_X12_behind τ0 τ0 := FrL.rf
  have gPV := gPV0
  have gMT := gMT0
  have gMK := gMK0
  have gRV := gRV0
  have gSN := gSN0
  obtain ⟨hx, hb, _, hown, hts, _, hk, hr, _, _⟩ := C
  have hrt38 := rg_12_38 hR (k := 387) (by decide) (by decide)
  have hrt39 := rg_12_39 hR (k := 387) (by decide) (by decide)
  have hrt40 := rg_12_40 hR (k := 387) (by decide) (by decide)
  have hrt42 := rg_12_42 hR (k := 387) (by decide) (by decide)
  refine lv_aload_n hx hb dX12_behind_0 rfl (lv_at hl 0 rfl) ?_
  refine r_cVv (k := 387) (As := []) (rest := []) ⟨hx, hb, hml, hown, hts⟩ hK hP hN hS (c_X12_nots l D cA ad hI σ0 τ0 hR K (by omega) (by omega) gPV gSN) (cwV 0 hts gX12_behind_X12_nots rfl rfl rfl (by decide +kernel) ⟨by decide, by decide⟩) (rv_M hK hP (by decide) (by decide)) rfl hl.1 rfl (Nat.le_of_ble_eq_true rfl) dX12_behind_1 (Nat.zero_le _) (Nat.zero_le _) (fun u1 H1 locs1 hp1 hP hS => ?_)
  obtain ⟨σ1, τ1⟩ := u1
  obtain ⟨hR, f1, fL1, hp1_0, hp1_1, hp1_2, hp1_3, gnPV⟩ : P_X12_nots σ0 τ0 K σ1 τ1 := hp1
  have gSNp := hp1_2
  have hP : va_P D vwCl (gw cA ad σ1 τ1) H1 := hP
  obtain rfl := FrL.nil fL1
  have hF := hF.step f1 (by decide)
  have gMK := gMK.ag (Agr.fr f1 (by decide))
  have gMT := gMT.ag (Agr.fr f1 (by decide))
  have t2 : (σ1 387 39).toInt = (σ0 387 39).toInt := congrArg Int32.toInt (f1.at 387 39 (by decide))
  have t3 : (σ1 387 42).toInt = (σ0 387 42).toInt := congrArg Int32.toInt (f1.at 387 42 (by decide))
  have hr4 := rg_12_38 hR (k := 387) (by decide) (by decide)
  have hr5 := rg_12_40 hR (k := 387) (by decide) (by decide)
  have gPV := gnPV
  have gSN := hp1_2
  refine lv_aload_n hx hb dX12_behind_4 rfl (lv_at hl 0 rfl) ?_
  refine lv_ldc2 (v := 6385252) hx hb hown (hts _ lk_X12_behind_129) dX12_behind_5 ?_
  refine r_cVi (k := 387) (As := [.long (6385252)]) (rest := []) ⟨hx, hb, hml, hown, hts⟩ hK hP hN hS (c_X12_isWord_v l D cA ad hI σ1 τ0 hR (6385252) _ _ _ _ 21 (by decide) (by decide) gMK) (cwV 1 hts gX12_behind_X12_isWord rfl rfl rfl (by decide +kernel) ⟨by decide, by decide⟩) (rv_M hK hP (by decide) (by decide)) rfl hl.1 rfl (Nat.le_of_ble_eq_true rfl) dX12_behind_8 (Nat.zero_le _) (Nat.zero_le _) (fun r6 u6 H6 locs6 hp6 hP hS => ?_)
  obtain ⟨σ6, τ6⟩ := u6
  obtain ⟨hR, f6, fL6, hq6, hp6_0, hp6_1, gnMK⟩ : P_X12_isWord_v σ1 τ0 (6385252) _ _ _ _ 21 r6 σ6 τ6 := hp6
  have ia1 := hp6_1
  have hP : va_P D vwCl (gw cA ad σ6 τ6) H6 := hP
  obtain rfl := FrL.nil fL6
  obtain rfl := Fr.nil f6
  refine r_if_ne (tgt := 24) hx hb dX12_behind_11 (by decide) (fun c7 => ?_) (fun c7 => ?_)
  · replace hp6_0 := hp6_0.resolve_left (by omega)
    refine lv_aload_n hx hb dX12_behind_24 rfl (lv_at hl 0 rfl) ?_
    refine lv_aload_n hx hb dX12_behind_25 rfl (lv_at hl 0 rfl) ?_
    refine lv_ldc2 (v := 6385252) hx hb hown (hts _ lk_X12_behind_129) dX12_behind_26 ?_
    refine r_cVi (k := 387) (As := [.long (6385252)]) (rest := [.ref (ad 387)]) ⟨hx, hb, hml, hown, hts⟩ hK hP hN hS (c_X12_isWord_v l D cA ad hI σ1 τ0 hR (6385252) _ _ _ _ 21 (by decide) (by decide) gMK) (cwV 1 hts gX12_behind_X12_isWord rfl rfl rfl (by decide +kernel) ⟨by decide, by decide⟩) (rv_M hK hP (by decide) (by decide)) rfl hl.1 rfl (Nat.le_of_ble_eq_true rfl) dX12_behind_29 (Nat.zero_le _) (Nat.zero_le _) (fun r8 u8 H8 locs8 hp8 hP hS => ?_)
    obtain ⟨σ8, τ8⟩ := u8
    obtain ⟨hR, f8, fL8, hq8, hp8_0, hp8_1, gnMK⟩ : P_X12_isWord_v σ1 τ0 (6385252) _ _ _ _ 21 r8 σ8 τ8 := hp8
    have ia3 := hp8_1
    have hP : va_P D vwCl (gw cA ad σ8 τ8) H8 := hP
    obtain rfl := FrL.nil fL8
    obtain rfl := Fr.nil f8
    refine r_if_eq (tgt := 40) hx hb dX12_behind_32 (by decide) (fun c9 => ?_) (fun c9 => ?_)
    · clear hp8_0
      refine r_bipush hx hb dX12_behind_40 (by decide) (fun z10 ez10 => ?_)
      refine r_cVv (k := 387) (As := [.int z10]) (rest := []) ⟨hx, hb, hml, hown, hts⟩ hK hP hN hS (c_X12_joins l D cA ad hI σ1 τ0 hR z10 (pnt K) (by omega) (by omega) (by omega) (pnt_pn K) gPV gSN) (cwV 1 hts gX12_behind_X12_joins rfl rfl rfl (by decide +kernel) ⟨by decide, by decide⟩) (rv_M hK hP (by decide) (by decide)) rfl hl.1 rfl (Nat.le_of_ble_eq_true rfl) dX12_behind_42 (Nat.zero_le _) (Nat.zero_le _) (fun u11 H11 locs11 hp11 hP hS => ?_)
      obtain ⟨σ11, τ11⟩ := u11
      obtain ⟨hR, f11, fL11, hp11_0, hp11_1, hp11_2, hp11_3, gnPV, gnSN⟩ : P_X12_joins σ1 τ0 z10 (pnt K) σ11 τ11 := hp11
      have hP : va_P D vwCl (gw cA ad σ11 τ11) H11 := hP
      obtain rfl := FrL.nil fL11
      have hF := hF.step f11 (by decide)
      have gMK := gMK.ag (Agr.fr f11 (by decide))
      have gMT := gMT.ag (Agr.fr f11 (by decide))
      have t12 : (σ11 387 39).toInt = (σ1 387 39).toInt := congrArg Int32.toInt (f11.at 387 39 (by decide))
      have t13 : (σ11 387 42).toInt = (σ1 387 42).toInt := congrArg Int32.toInt (f11.at 387 42 (by decide))
      have hr14 := rg_12_38 hR (k := 387) (by decide) (by decide)
      have hr15 := rg_12_40 hR (k := 387) (by decide) (by decide)
      have gPV := gnPV
      have gSN := gnSN
      refine lv_aload_n hx hb dX12_behind_45 rfl (lv_at hl 0 rfl) ?_
      refine fg_12_37 (k := 387) hx hb hts in_X12_behind_12 hown hK hP (by decide) (by decide) (hts _ lk_X12_behind_71) dX12_behind_46 ?_
      refine lv_aload_n hx hb dX12_behind_49 rfl (lv_at hl 0 rfl) ?_
      refine fg_12_40 (k := 387) hx hb hts in_X12_behind_12 hown hK hP (by decide) (by decide) (hts _ lk_X12_behind_434) dX12_behind_50 ?_
      refine lv_aload_n hx hb dX12_behind_53 rfl (lv_at hl 0 rfl) ?_
      refine lv_ldc2 (v := 6385252) hx hb hown (hts _ lk_X12_behind_129) dX12_behind_54 ?_
      refine r_cVi (k := 387) (As := [.long (6385252)]) (rest := [.int (σ11 387 40), .ref (ad 401)]) ⟨hx, hb, hml, hown, hts⟩ hK hP hN hS (c_X12_isWord_v l D cA ad hI σ11 τ0 hR (6385252) _ _ _ _ 21 (by decide) (by decide) gMK) (cwV 1 hts gX12_behind_X12_isWord rfl rfl rfl (by decide +kernel) ⟨by decide, by decide⟩) (rv_M hK hP (by decide) (by decide)) rfl hl.1 rfl (Nat.le_of_ble_eq_true rfl) dX12_behind_57 (Nat.zero_le _) (Nat.zero_le _) (fun r16 u16 H16 locs16 hp16 hP hS => ?_)
      obtain ⟨σ16, τ16⟩ := u16
      obtain ⟨hR, f16, fL16, hq16, hp16_0, hp16_1, gnMK⟩ : P_X12_isWord_v σ11 τ0 (6385252) _ _ _ _ 21 r16 σ16 τ16 := hp16
      have ia4 := hp16_1
      have hP : va_P D vwCl (gw cA ad σ16 τ16) H16 := hP
      obtain rfl := FrL.nil fL16
      obtain rfl := Fr.nil f16
      refine r_if_eq (tgt := 68) hx hb dX12_behind_60 (by decide) (fun c17 => ?_) (fun c17 => ?_)
      · clear hp16_0
        refine r_bipush hx hb dX12_behind_68 (by decide) (fun z18 ez18 => ?_)
        obtain ⟨j19, ej19⟩ : ∃ j : Nat, (σ11 387 40).toInt = (j : Int) := ⟨_, ti_nat (by omega)⟩
        refine as_mstack (k := 401) (j := j19) hx hb hK hP hI hR hS (by decide) (by decide) ej19 (by omega) dX12_behind_70 (fun σ20 H20 locs20 u20 v20 hR hP hS => ?_)
        have ua := u20
        have va := v20
        have hF := hF.puts u20 2 rfl (by decide) (by decide) (by omega) (by omega)
        have gMK := gMK.ag (Agr.putV u20 (by intro q hq; simp only [Gd_MK, List.mem_cons, List.not_mem_nil, or_false] at hq; rcases hq with rfl | rfl | rfl <;> dsimp only [inRc] <;> omega))
        have gMT := gMT.ag (Agr.putV u20 (by intro q hq; simp only [Gd_MT, List.mem_cons, List.not_mem_nil, or_false] at hq; rcases hq with rfl | rfl | rfl <;> dsimp only [inRc] <;> omega))
        have t21 : (σ20 387 39).toInt = (σ11 387 39).toInt := congrArg Int32.toInt (u20 387 39 (by omega))
        have t22 : (σ20 387 42).toInt = (σ11 387 42).toInt := congrArg Int32.toInt (u20 387 42 (by omega))
        have t23 : (σ20 387 38).toInt = (σ11 387 38).toInt := congrArg Int32.toInt (u20 387 38 (by omega))
        have t24 : (σ20 387 40).toInt = (σ11 387 40).toInt := congrArg Int32.toInt (u20 387 40 (by omega))
        refine lv_aload_n hx hb dX12_behind_71 rfl (lv_at hl 0 rfl) ?_
        refine lv_dup hx hb dX12_behind_72 rfl ?_
        refine fg_12_40 (k := 387) hx hb hts in_X12_behind_12 hown hK hP (by decide) (by decide) (hts _ lk_X12_behind_434) dX12_behind_73 ?_
        refine r_iconst hx hb dX12_behind_76 (by decide) (fun z25 ez25 => ?_)
        refine r_iadd hx hb dX12_behind_77 (by omega) (fun z26 ez26 => ?_)
        refine fp_12_40 (k := 387) hx hb hts in_X12_behind_12 hown hK hP (by decide) (by decide) (hts _ lk_X12_behind_434) hI hR hS (by omega) dX12_behind_78 (fun σ27 H27 locs27 u27 v27 hR hP hS => ?_)
        have ub := u27
        have vb := v27
        have hF := hF.puts u27 3 rfl (by decide) (by decide) (by decide) (by decide)
        have gMK := gMK.ag (Agr.put u27 (by decide))
        have gMT := gMT.ag (Agr.put u27 (by decide))
        have t28 : (σ27 387 39).toInt = (σ20 387 39).toInt := congrArg Int32.toInt (u27 387 39 (by omega))
        have t29 : (σ27 387 42).toInt = (σ20 387 42).toInt := congrArg Int32.toInt (u27 387 42 (by omega))
        have t30 : (σ27 387 38).toInt = (σ20 387 38).toInt := congrArg Int32.toInt (u27 387 38 (by omega))
        have gSN := SN.push gSN (pnt_pn K) (by omega) (by omega) ua (by omega) ub (by omega)
        refine lv_aload_n hx hb dX12_behind_81 rfl (lv_at hl 0 rfl) ?_
        refine r_iconst hx hb dX12_behind_82 (by decide) (fun z31 ez31 => ?_)
        refine fp_12_42 (k := 387) hx hb hts in_X12_behind_12 hown hK hP (by decide) (by decide) (hts _ lk_X12_behind_449) hI hR hS (by omega) dX12_behind_83 (fun σ32 H32 locs32 u32 v32 hR hP hS => ?_)
        have uc := u32
        have vc := v32
        have hF := hF.puts u32 3 rfl (by decide) (by decide) (by decide) (by decide)
        have gMK := gMK.ag (Agr.put u32 (by decide))
        have gMT := gMT.ag (Agr.put u32 (by decide))
        have gSN := gSN.ag (Agr.put u32 (by decide))
        have t33 : (σ32 387 39).toInt = (σ27 387 39).toInt := congrArg Int32.toInt (u32 387 39 (by omega))
        have t34 : (σ32 387 38).toInt = (σ27 387 38).toInt := congrArg Int32.toInt (u32 387 38 (by omega))
        have t35 : (σ32 387 40).toInt = (σ27 387 40).toInt := congrArg Int32.toInt (u32 387 40 (by omega))
        have gPV := PV.bin gPV (by omega) ua va (by omega) (by omega) ub (by omega) uc (by omega)
        refine lv_aload_n hx hb dX12_behind_86 rfl (lv_at hl 0 rfl) ?_
        refine r_cVv (k := 387) (As := []) (rest := []) ⟨hx, hb, hml, hown, hts⟩ hK hP hN hS (c_X12_next_v l D cA ad hI σ32 τ0 hR _ _ _ _ gMK.mp gMT) (cwV 0 hts gX12_behind_X12_next rfl rfl rfl (by decide +kernel) ⟨by decide, by decide⟩) (rv_M hK hP (by decide) (by decide)) rfl hl.1 rfl (Nat.le_of_ble_eq_true rfl) dX12_behind_87 (Nat.zero_le _) (Nat.zero_le _) (fun u36 H36 locs36 hp36 hP hS => ?_)
        obtain ⟨σ36, τ36⟩ := u36
        obtain ⟨hR, f36, fL36, hp36_0, hp36_1, hp36_2, hp36_3, gnMT⟩ : P_X12_next_v σ32 τ0 _ _ _ _ σ36 τ36 := hp36
        have hP : va_P D vwCl (gw cA ad σ36 τ36) H36 := hP
        have hFL := hFL.step fL36 (by decide)
        have gRV := gRV.agL (AgrL.fr fL36 (by decide))
        have hF := hF.step f36 (by decide)
        have gMT := gMT.ag (Agr.fr f36 (by decide))
        have gPV := PV.fr gPV hR f36 (by decide)
        have gSN := gSN.ag (Agr.fr f36 (by decide))
        have t37 : (σ36 387 39).toInt = (σ32 387 39).toInt := congrArg Int32.toInt (f36.at 387 39 (by decide))
        have t38 : (σ36 387 38).toInt = (σ32 387 38).toInt := congrArg Int32.toInt (f36.at 387 38 (by decide))
        have t39 : (σ36 387 40).toInt = (σ32 387 40).toInt := congrArg Int32.toInt (f36.at 387 40 (by decide))
        have t40 : (σ36 387 42).toInt = (σ32 387 42).toInt := congrArg Int32.toInt (f36.at 387 42 (by decide))
        have gMK := hp36_3
        refine r_iconst hx hb dX12_behind_90 (by decide) (fun z41 ez41 => ?_)
        exact r_zret hx hb hr hK hP hS hk (by omega) dX12_behind_91 (show P_X12_behind σ0 τ0 b N mo q nn K z41 σ36 τ36 from ⟨hR, hF, hFL, by omega, by first | exact Or.inl (by omega) | exact Or.inr gPV, by omega, by omega, by first | (exfalso; omega) | exact MO.ofr (beh_j (by omega)) (by omega) ⟨gMK, by show _ = ((nn : Nat) : Int); omega, gSN, by show _ = (0 : Int); omega⟩ | exact MO.ofk (beh_x (by omega) (Or.inl (by omega))) (by omega) (by omega) (by omega) | exact MO.ofk (beh_x (by omega) (Or.inr (gSN.emp (by omega)))) (by omega) (by omega) (by omega) | exact MO.ofr ((congrArg (behP b N mo q nn) ek1).trans (beh_c (by omega))) (by omega) ⟨gMK, by show _ = ((nn : Nat) : Int); omega, gSN, by show _ = (1 : Int); omega⟩, gMT, gRV⟩)
      · replace hp16_0 := hp16_0.resolve_left (by omega)
        refine r_bipush hx hb dX12_behind_63 (by decide) (fun z42 ez42 => ?_)
        refine lv_goto (tgt := 70) hx hb dX12_behind_65 (by decide) ?_
        obtain ⟨j43, ej43⟩ : ∃ j : Nat, (σ11 387 40).toInt = (j : Int) := ⟨_, ti_nat (by omega)⟩
        refine as_mstack (k := 401) (j := j43) hx hb hK hP hI hR hS (by decide) (by decide) ej43 (by omega) dX12_behind_70 (fun σ44 H44 locs44 u44 v44 hR hP hS => ?_)
        have ua := u44
        have va := v44
        have hF := hF.puts u44 2 rfl (by decide) (by decide) (by omega) (by omega)
        have gMK := gMK.ag (Agr.putV u44 (by intro q hq; simp only [Gd_MK, List.mem_cons, List.not_mem_nil, or_false] at hq; rcases hq with rfl | rfl | rfl <;> dsimp only [inRc] <;> omega))
        have gMT := gMT.ag (Agr.putV u44 (by intro q hq; simp only [Gd_MT, List.mem_cons, List.not_mem_nil, or_false] at hq; rcases hq with rfl | rfl | rfl <;> dsimp only [inRc] <;> omega))
        have t45 : (σ44 387 39).toInt = (σ11 387 39).toInt := congrArg Int32.toInt (u44 387 39 (by omega))
        have t46 : (σ44 387 42).toInt = (σ11 387 42).toInt := congrArg Int32.toInt (u44 387 42 (by omega))
        have t47 : (σ44 387 38).toInt = (σ11 387 38).toInt := congrArg Int32.toInt (u44 387 38 (by omega))
        have t48 : (σ44 387 40).toInt = (σ11 387 40).toInt := congrArg Int32.toInt (u44 387 40 (by omega))
        refine lv_aload_n hx hb dX12_behind_71 rfl (lv_at hl 0 rfl) ?_
        refine lv_dup hx hb dX12_behind_72 rfl ?_
        refine fg_12_40 (k := 387) hx hb hts in_X12_behind_12 hown hK hP (by decide) (by decide) (hts _ lk_X12_behind_434) dX12_behind_73 ?_
        refine r_iconst hx hb dX12_behind_76 (by decide) (fun z49 ez49 => ?_)
        refine r_iadd hx hb dX12_behind_77 (by omega) (fun z50 ez50 => ?_)
        refine fp_12_40 (k := 387) hx hb hts in_X12_behind_12 hown hK hP (by decide) (by decide) (hts _ lk_X12_behind_434) hI hR hS (by omega) dX12_behind_78 (fun σ51 H51 locs51 u51 v51 hR hP hS => ?_)
        have ub := u51
        have vb := v51
        have hF := hF.puts u51 3 rfl (by decide) (by decide) (by decide) (by decide)
        have gMK := gMK.ag (Agr.put u51 (by decide))
        have gMT := gMT.ag (Agr.put u51 (by decide))
        have t52 : (σ51 387 39).toInt = (σ44 387 39).toInt := congrArg Int32.toInt (u51 387 39 (by omega))
        have t53 : (σ51 387 42).toInt = (σ44 387 42).toInt := congrArg Int32.toInt (u51 387 42 (by omega))
        have t54 : (σ51 387 38).toInt = (σ44 387 38).toInt := congrArg Int32.toInt (u51 387 38 (by omega))
        have gSN := SN.push gSN (pnt_pn K) (by omega) (by omega) ua (by omega) ub (by omega)
        refine lv_aload_n hx hb dX12_behind_81 rfl (lv_at hl 0 rfl) ?_
        refine r_iconst hx hb dX12_behind_82 (by decide) (fun z55 ez55 => ?_)
        refine fp_12_42 (k := 387) hx hb hts in_X12_behind_12 hown hK hP (by decide) (by decide) (hts _ lk_X12_behind_449) hI hR hS (by omega) dX12_behind_83 (fun σ56 H56 locs56 u56 v56 hR hP hS => ?_)
        have uc := u56
        have vc := v56
        have hF := hF.puts u56 3 rfl (by decide) (by decide) (by decide) (by decide)
        have gMK := gMK.ag (Agr.put u56 (by decide))
        have gMT := gMT.ag (Agr.put u56 (by decide))
        have gSN := gSN.ag (Agr.put u56 (by decide))
        have t57 : (σ56 387 39).toInt = (σ51 387 39).toInt := congrArg Int32.toInt (u56 387 39 (by omega))
        have t58 : (σ56 387 38).toInt = (σ51 387 38).toInt := congrArg Int32.toInt (u56 387 38 (by omega))
        have t59 : (σ56 387 40).toInt = (σ51 387 40).toInt := congrArg Int32.toInt (u56 387 40 (by omega))
        have gPV := PV.bin gPV (by omega) ua va (by omega) (by omega) ub (by omega) uc (by omega)
        refine lv_aload_n hx hb dX12_behind_86 rfl (lv_at hl 0 rfl) ?_
        refine r_cVv (k := 387) (As := []) (rest := []) ⟨hx, hb, hml, hown, hts⟩ hK hP hN hS (c_X12_next_v l D cA ad hI σ56 τ0 hR _ _ _ _ gMK.mp gMT) (cwV 0 hts gX12_behind_X12_next rfl rfl rfl (by decide +kernel) ⟨by decide, by decide⟩) (rv_M hK hP (by decide) (by decide)) rfl hl.1 rfl (Nat.le_of_ble_eq_true rfl) dX12_behind_87 (Nat.zero_le _) (Nat.zero_le _) (fun u60 H60 locs60 hp60 hP hS => ?_)
        obtain ⟨σ60, τ60⟩ := u60
        obtain ⟨hR, f60, fL60, hp60_0, hp60_1, hp60_2, hp60_3, gnMT⟩ : P_X12_next_v σ56 τ0 _ _ _ _ σ60 τ60 := hp60
        have hP : va_P D vwCl (gw cA ad σ60 τ60) H60 := hP
        have hFL := hFL.step fL60 (by decide)
        have gRV := gRV.agL (AgrL.fr fL60 (by decide))
        have hF := hF.step f60 (by decide)
        have gMT := gMT.ag (Agr.fr f60 (by decide))
        have gPV := PV.fr gPV hR f60 (by decide)
        have gSN := gSN.ag (Agr.fr f60 (by decide))
        have t61 : (σ60 387 39).toInt = (σ56 387 39).toInt := congrArg Int32.toInt (f60.at 387 39 (by decide))
        have t62 : (σ60 387 38).toInt = (σ56 387 38).toInt := congrArg Int32.toInt (f60.at 387 38 (by decide))
        have t63 : (σ60 387 40).toInt = (σ56 387 40).toInt := congrArg Int32.toInt (f60.at 387 40 (by decide))
        have t64 : (σ60 387 42).toInt = (σ56 387 42).toInt := congrArg Int32.toInt (f60.at 387 42 (by decide))
        have gMK := hp60_3
        refine r_iconst hx hb dX12_behind_90 (by decide) (fun z65 ez65 => ?_)
        exact r_zret hx hb hr hK hP hS hk (by omega) dX12_behind_91 (show P_X12_behind σ0 τ0 b N mo q nn K z65 σ60 τ60 from ⟨hR, hF, hFL, by omega, by first | exact Or.inl (by omega) | exact Or.inr gPV, by omega, by omega, by first | (exfalso; omega) | exact MO.ofr (beh_j (by omega)) (by omega) ⟨gMK, by show _ = ((nn : Nat) : Int); omega, gSN, by show _ = (0 : Int); omega⟩ | exact MO.ofk (beh_x (by omega) (Or.inl (by omega))) (by omega) (by omega) (by omega) | exact MO.ofk (beh_x (by omega) (Or.inr (gSN.emp (by omega)))) (by omega) (by omega) (by omega) | exact MO.ofr ((congrArg (behP b N mo q nn) ek1).trans (beh_c (by omega))) (by omega) ⟨gMK, by show _ = ((nn : Nat) : Int); omega, gSN, by show _ = (1 : Int); omega⟩, gMT, gRV⟩)
    · replace hp8_0 := hp8_0.resolve_left (by omega)
      refine r_bipush hx hb dX12_behind_35 (by decide) (fun z66 ez66 => ?_)
      refine lv_goto (tgt := 42) hx hb dX12_behind_37 (by decide) ?_
      refine r_cVv (k := 387) (As := [.int z66]) (rest := []) ⟨hx, hb, hml, hown, hts⟩ hK hP hN hS (c_X12_joins l D cA ad hI σ1 τ0 hR z66 (pnt K) (by omega) (by omega) (by omega) (pnt_pn K) gPV gSN) (cwV 1 hts gX12_behind_X12_joins rfl rfl rfl (by decide +kernel) ⟨by decide, by decide⟩) (rv_M hK hP (by decide) (by decide)) rfl hl.1 rfl (Nat.le_of_ble_eq_true rfl) dX12_behind_42 (Nat.zero_le _) (Nat.zero_le _) (fun u67 H67 locs67 hp67 hP hS => ?_)
      obtain ⟨σ67, τ67⟩ := u67
      obtain ⟨hR, f67, fL67, hp67_0, hp67_1, hp67_2, hp67_3, gnPV, gnSN⟩ : P_X12_joins σ1 τ0 z66 (pnt K) σ67 τ67 := hp67
      have hP : va_P D vwCl (gw cA ad σ67 τ67) H67 := hP
      obtain rfl := FrL.nil fL67
      have hF := hF.step f67 (by decide)
      have gMK := gMK.ag (Agr.fr f67 (by decide))
      have gMT := gMT.ag (Agr.fr f67 (by decide))
      have t68 : (σ67 387 39).toInt = (σ1 387 39).toInt := congrArg Int32.toInt (f67.at 387 39 (by decide))
      have t69 : (σ67 387 42).toInt = (σ1 387 42).toInt := congrArg Int32.toInt (f67.at 387 42 (by decide))
      have hr70 := rg_12_38 hR (k := 387) (by decide) (by decide)
      have hr71 := rg_12_40 hR (k := 387) (by decide) (by decide)
      have gPV := gnPV
      have gSN := gnSN
      refine lv_aload_n hx hb dX12_behind_45 rfl (lv_at hl 0 rfl) ?_
      refine fg_12_37 (k := 387) hx hb hts in_X12_behind_12 hown hK hP (by decide) (by decide) (hts _ lk_X12_behind_71) dX12_behind_46 ?_
      refine lv_aload_n hx hb dX12_behind_49 rfl (lv_at hl 0 rfl) ?_
      refine fg_12_40 (k := 387) hx hb hts in_X12_behind_12 hown hK hP (by decide) (by decide) (hts _ lk_X12_behind_434) dX12_behind_50 ?_
      refine lv_aload_n hx hb dX12_behind_53 rfl (lv_at hl 0 rfl) ?_
      refine lv_ldc2 (v := 6385252) hx hb hown (hts _ lk_X12_behind_129) dX12_behind_54 ?_
      refine r_cVi (k := 387) (As := [.long (6385252)]) (rest := [.int (σ67 387 40), .ref (ad 401)]) ⟨hx, hb, hml, hown, hts⟩ hK hP hN hS (c_X12_isWord_v l D cA ad hI σ67 τ0 hR (6385252) _ _ _ _ 21 (by decide) (by decide) gMK) (cwV 1 hts gX12_behind_X12_isWord rfl rfl rfl (by decide +kernel) ⟨by decide, by decide⟩) (rv_M hK hP (by decide) (by decide)) rfl hl.1 rfl (Nat.le_of_ble_eq_true rfl) dX12_behind_57 (Nat.zero_le _) (Nat.zero_le _) (fun r72 u72 H72 locs72 hp72 hP hS => ?_)
      obtain ⟨σ72, τ72⟩ := u72
      obtain ⟨hR, f72, fL72, hq72, hp72_0, hp72_1, gnMK⟩ : P_X12_isWord_v σ67 τ0 (6385252) _ _ _ _ 21 r72 σ72 τ72 := hp72
      have ia4 := hp72_1
      have hP : va_P D vwCl (gw cA ad σ72 τ72) H72 := hP
      obtain rfl := FrL.nil fL72
      obtain rfl := Fr.nil f72
      refine r_if_eq (tgt := 68) hx hb dX12_behind_60 (by decide) (fun c73 => ?_) (fun c73 => ?_)
      · clear hp72_0
        refine r_bipush hx hb dX12_behind_68 (by decide) (fun z74 ez74 => ?_)
        obtain ⟨j75, ej75⟩ : ∃ j : Nat, (σ67 387 40).toInt = (j : Int) := ⟨_, ti_nat (by omega)⟩
        refine as_mstack (k := 401) (j := j75) hx hb hK hP hI hR hS (by decide) (by decide) ej75 (by omega) dX12_behind_70 (fun σ76 H76 locs76 u76 v76 hR hP hS => ?_)
        have ua := u76
        have va := v76
        have hF := hF.puts u76 2 rfl (by decide) (by decide) (by omega) (by omega)
        have gMK := gMK.ag (Agr.putV u76 (by intro q hq; simp only [Gd_MK, List.mem_cons, List.not_mem_nil, or_false] at hq; rcases hq with rfl | rfl | rfl <;> dsimp only [inRc] <;> omega))
        have gMT := gMT.ag (Agr.putV u76 (by intro q hq; simp only [Gd_MT, List.mem_cons, List.not_mem_nil, or_false] at hq; rcases hq with rfl | rfl | rfl <;> dsimp only [inRc] <;> omega))
        have t77 : (σ76 387 39).toInt = (σ67 387 39).toInt := congrArg Int32.toInt (u76 387 39 (by omega))
        have t78 : (σ76 387 42).toInt = (σ67 387 42).toInt := congrArg Int32.toInt (u76 387 42 (by omega))
        have t79 : (σ76 387 38).toInt = (σ67 387 38).toInt := congrArg Int32.toInt (u76 387 38 (by omega))
        have t80 : (σ76 387 40).toInt = (σ67 387 40).toInt := congrArg Int32.toInt (u76 387 40 (by omega))
        refine lv_aload_n hx hb dX12_behind_71 rfl (lv_at hl 0 rfl) ?_
        refine lv_dup hx hb dX12_behind_72 rfl ?_
        refine fg_12_40 (k := 387) hx hb hts in_X12_behind_12 hown hK hP (by decide) (by decide) (hts _ lk_X12_behind_434) dX12_behind_73 ?_
        refine r_iconst hx hb dX12_behind_76 (by decide) (fun z81 ez81 => ?_)
        refine r_iadd hx hb dX12_behind_77 (by omega) (fun z82 ez82 => ?_)
        refine fp_12_40 (k := 387) hx hb hts in_X12_behind_12 hown hK hP (by decide) (by decide) (hts _ lk_X12_behind_434) hI hR hS (by omega) dX12_behind_78 (fun σ83 H83 locs83 u83 v83 hR hP hS => ?_)
        have ub := u83
        have vb := v83
        have hF := hF.puts u83 3 rfl (by decide) (by decide) (by decide) (by decide)
        have gMK := gMK.ag (Agr.put u83 (by decide))
        have gMT := gMT.ag (Agr.put u83 (by decide))
        have t84 : (σ83 387 39).toInt = (σ76 387 39).toInt := congrArg Int32.toInt (u83 387 39 (by omega))
        have t85 : (σ83 387 42).toInt = (σ76 387 42).toInt := congrArg Int32.toInt (u83 387 42 (by omega))
        have t86 : (σ83 387 38).toInt = (σ76 387 38).toInt := congrArg Int32.toInt (u83 387 38 (by omega))
        have gSN := SN.push gSN (pnt_pn K) (by omega) (by omega) ua (by omega) ub (by omega)
        refine lv_aload_n hx hb dX12_behind_81 rfl (lv_at hl 0 rfl) ?_
        refine r_iconst hx hb dX12_behind_82 (by decide) (fun z87 ez87 => ?_)
        refine fp_12_42 (k := 387) hx hb hts in_X12_behind_12 hown hK hP (by decide) (by decide) (hts _ lk_X12_behind_449) hI hR hS (by omega) dX12_behind_83 (fun σ88 H88 locs88 u88 v88 hR hP hS => ?_)
        have uc := u88
        have vc := v88
        have hF := hF.puts u88 3 rfl (by decide) (by decide) (by decide) (by decide)
        have gMK := gMK.ag (Agr.put u88 (by decide))
        have gMT := gMT.ag (Agr.put u88 (by decide))
        have gSN := gSN.ag (Agr.put u88 (by decide))
        have t89 : (σ88 387 39).toInt = (σ83 387 39).toInt := congrArg Int32.toInt (u88 387 39 (by omega))
        have t90 : (σ88 387 38).toInt = (σ83 387 38).toInt := congrArg Int32.toInt (u88 387 38 (by omega))
        have t91 : (σ88 387 40).toInt = (σ83 387 40).toInt := congrArg Int32.toInt (u88 387 40 (by omega))
        have gPV := PV.bin gPV (by omega) ua va (by omega) (by omega) ub (by omega) uc (by omega)
        refine lv_aload_n hx hb dX12_behind_86 rfl (lv_at hl 0 rfl) ?_
        refine r_cVv (k := 387) (As := []) (rest := []) ⟨hx, hb, hml, hown, hts⟩ hK hP hN hS (c_X12_next_v l D cA ad hI σ88 τ0 hR _ _ _ _ gMK.mp gMT) (cwV 0 hts gX12_behind_X12_next rfl rfl rfl (by decide +kernel) ⟨by decide, by decide⟩) (rv_M hK hP (by decide) (by decide)) rfl hl.1 rfl (Nat.le_of_ble_eq_true rfl) dX12_behind_87 (Nat.zero_le _) (Nat.zero_le _) (fun u92 H92 locs92 hp92 hP hS => ?_)
        obtain ⟨σ92, τ92⟩ := u92
        obtain ⟨hR, f92, fL92, hp92_0, hp92_1, hp92_2, hp92_3, gnMT⟩ : P_X12_next_v σ88 τ0 _ _ _ _ σ92 τ92 := hp92
        have hP : va_P D vwCl (gw cA ad σ92 τ92) H92 := hP
        have hFL := hFL.step fL92 (by decide)
        have gRV := gRV.agL (AgrL.fr fL92 (by decide))
        have hF := hF.step f92 (by decide)
        have gMT := gMT.ag (Agr.fr f92 (by decide))
        have gPV := PV.fr gPV hR f92 (by decide)
        have gSN := gSN.ag (Agr.fr f92 (by decide))
        have t93 : (σ92 387 39).toInt = (σ88 387 39).toInt := congrArg Int32.toInt (f92.at 387 39 (by decide))
        have t94 : (σ92 387 38).toInt = (σ88 387 38).toInt := congrArg Int32.toInt (f92.at 387 38 (by decide))
        have t95 : (σ92 387 40).toInt = (σ88 387 40).toInt := congrArg Int32.toInt (f92.at 387 40 (by decide))
        have t96 : (σ92 387 42).toInt = (σ88 387 42).toInt := congrArg Int32.toInt (f92.at 387 42 (by decide))
        have gMK := hp92_3
        refine r_iconst hx hb dX12_behind_90 (by decide) (fun z97 ez97 => ?_)
        exact r_zret hx hb hr hK hP hS hk (by omega) dX12_behind_91 (show P_X12_behind σ0 τ0 b N mo q nn K z97 σ92 τ92 from ⟨hR, hF, hFL, by omega, by first | exact Or.inl (by omega) | exact Or.inr gPV, by omega, by omega, by first | (exfalso; omega) | exact MO.ofr (beh_j (by omega)) (by omega) ⟨gMK, by show _ = ((nn : Nat) : Int); omega, gSN, by show _ = (0 : Int); omega⟩ | exact MO.ofk (beh_x (by omega) (Or.inl (by omega))) (by omega) (by omega) (by omega) | exact MO.ofk (beh_x (by omega) (Or.inr (gSN.emp (by omega)))) (by omega) (by omega) (by omega) | exact MO.ofr ((congrArg (behP b N mo q nn) ek1).trans (beh_c (by omega))) (by omega) ⟨gMK, by show _ = ((nn : Nat) : Int); omega, gSN, by show _ = (1 : Int); omega⟩, gMT, gRV⟩)
      · replace hp72_0 := hp72_0.resolve_left (by omega)
        refine r_bipush hx hb dX12_behind_63 (by decide) (fun z98 ez98 => ?_)
        refine lv_goto (tgt := 70) hx hb dX12_behind_65 (by decide) ?_
        obtain ⟨j99, ej99⟩ : ∃ j : Nat, (σ67 387 40).toInt = (j : Int) := ⟨_, ti_nat (by omega)⟩
        refine as_mstack (k := 401) (j := j99) hx hb hK hP hI hR hS (by decide) (by decide) ej99 (by omega) dX12_behind_70 (fun σ100 H100 locs100 u100 v100 hR hP hS => ?_)
        have ua := u100
        have va := v100
        have hF := hF.puts u100 2 rfl (by decide) (by decide) (by omega) (by omega)
        have gMK := gMK.ag (Agr.putV u100 (by intro q hq; simp only [Gd_MK, List.mem_cons, List.not_mem_nil, or_false] at hq; rcases hq with rfl | rfl | rfl <;> dsimp only [inRc] <;> omega))
        have gMT := gMT.ag (Agr.putV u100 (by intro q hq; simp only [Gd_MT, List.mem_cons, List.not_mem_nil, or_false] at hq; rcases hq with rfl | rfl | rfl <;> dsimp only [inRc] <;> omega))
        have t101 : (σ100 387 39).toInt = (σ67 387 39).toInt := congrArg Int32.toInt (u100 387 39 (by omega))
        have t102 : (σ100 387 42).toInt = (σ67 387 42).toInt := congrArg Int32.toInt (u100 387 42 (by omega))
        have t103 : (σ100 387 38).toInt = (σ67 387 38).toInt := congrArg Int32.toInt (u100 387 38 (by omega))
        have t104 : (σ100 387 40).toInt = (σ67 387 40).toInt := congrArg Int32.toInt (u100 387 40 (by omega))
        refine lv_aload_n hx hb dX12_behind_71 rfl (lv_at hl 0 rfl) ?_
        refine lv_dup hx hb dX12_behind_72 rfl ?_
        refine fg_12_40 (k := 387) hx hb hts in_X12_behind_12 hown hK hP (by decide) (by decide) (hts _ lk_X12_behind_434) dX12_behind_73 ?_
        refine r_iconst hx hb dX12_behind_76 (by decide) (fun z105 ez105 => ?_)
        refine r_iadd hx hb dX12_behind_77 (by omega) (fun z106 ez106 => ?_)
        refine fp_12_40 (k := 387) hx hb hts in_X12_behind_12 hown hK hP (by decide) (by decide) (hts _ lk_X12_behind_434) hI hR hS (by omega) dX12_behind_78 (fun σ107 H107 locs107 u107 v107 hR hP hS => ?_)
        have ub := u107
        have vb := v107
        have hF := hF.puts u107 3 rfl (by decide) (by decide) (by decide) (by decide)
        have gMK := gMK.ag (Agr.put u107 (by decide))
        have gMT := gMT.ag (Agr.put u107 (by decide))
        have t108 : (σ107 387 39).toInt = (σ100 387 39).toInt := congrArg Int32.toInt (u107 387 39 (by omega))
        have t109 : (σ107 387 42).toInt = (σ100 387 42).toInt := congrArg Int32.toInt (u107 387 42 (by omega))
        have t110 : (σ107 387 38).toInt = (σ100 387 38).toInt := congrArg Int32.toInt (u107 387 38 (by omega))
        have gSN := SN.push gSN (pnt_pn K) (by omega) (by omega) ua (by omega) ub (by omega)
        refine lv_aload_n hx hb dX12_behind_81 rfl (lv_at hl 0 rfl) ?_
        refine r_iconst hx hb dX12_behind_82 (by decide) (fun z111 ez111 => ?_)
        refine fp_12_42 (k := 387) hx hb hts in_X12_behind_12 hown hK hP (by decide) (by decide) (hts _ lk_X12_behind_449) hI hR hS (by omega) dX12_behind_83 (fun σ112 H112 locs112 u112 v112 hR hP hS => ?_)
        have uc := u112
        have vc := v112
        have hF := hF.puts u112 3 rfl (by decide) (by decide) (by decide) (by decide)
        have gMK := gMK.ag (Agr.put u112 (by decide))
        have gMT := gMT.ag (Agr.put u112 (by decide))
        have gSN := gSN.ag (Agr.put u112 (by decide))
        have t113 : (σ112 387 39).toInt = (σ107 387 39).toInt := congrArg Int32.toInt (u112 387 39 (by omega))
        have t114 : (σ112 387 38).toInt = (σ107 387 38).toInt := congrArg Int32.toInt (u112 387 38 (by omega))
        have t115 : (σ112 387 40).toInt = (σ107 387 40).toInt := congrArg Int32.toInt (u112 387 40 (by omega))
        have gPV := PV.bin gPV (by omega) ua va (by omega) (by omega) ub (by omega) uc (by omega)
        refine lv_aload_n hx hb dX12_behind_86 rfl (lv_at hl 0 rfl) ?_
        refine r_cVv (k := 387) (As := []) (rest := []) ⟨hx, hb, hml, hown, hts⟩ hK hP hN hS (c_X12_next_v l D cA ad hI σ112 τ0 hR _ _ _ _ gMK.mp gMT) (cwV 0 hts gX12_behind_X12_next rfl rfl rfl (by decide +kernel) ⟨by decide, by decide⟩) (rv_M hK hP (by decide) (by decide)) rfl hl.1 rfl (Nat.le_of_ble_eq_true rfl) dX12_behind_87 (Nat.zero_le _) (Nat.zero_le _) (fun u116 H116 locs116 hp116 hP hS => ?_)
        obtain ⟨σ116, τ116⟩ := u116
        obtain ⟨hR, f116, fL116, hp116_0, hp116_1, hp116_2, hp116_3, gnMT⟩ : P_X12_next_v σ112 τ0 _ _ _ _ σ116 τ116 := hp116
        have hP : va_P D vwCl (gw cA ad σ116 τ116) H116 := hP
        have hFL := hFL.step fL116 (by decide)
        have gRV := gRV.agL (AgrL.fr fL116 (by decide))
        have hF := hF.step f116 (by decide)
        have gMT := gMT.ag (Agr.fr f116 (by decide))
        have gPV := PV.fr gPV hR f116 (by decide)
        have gSN := gSN.ag (Agr.fr f116 (by decide))
        have t117 : (σ116 387 39).toInt = (σ112 387 39).toInt := congrArg Int32.toInt (f116.at 387 39 (by decide))
        have t118 : (σ116 387 38).toInt = (σ112 387 38).toInt := congrArg Int32.toInt (f116.at 387 38 (by decide))
        have t119 : (σ116 387 40).toInt = (σ112 387 40).toInt := congrArg Int32.toInt (f116.at 387 40 (by decide))
        have t120 : (σ116 387 42).toInt = (σ112 387 42).toInt := congrArg Int32.toInt (f116.at 387 42 (by decide))
        have gMK := hp116_3
        refine r_iconst hx hb dX12_behind_90 (by decide) (fun z121 ez121 => ?_)
        exact r_zret hx hb hr hK hP hS hk (by omega) dX12_behind_91 (show P_X12_behind σ0 τ0 b N mo q nn K z121 σ116 τ116 from ⟨hR, hF, hFL, by omega, by first | exact Or.inl (by omega) | exact Or.inr gPV, by omega, by omega, by first | (exfalso; omega) | exact MO.ofr (beh_j (by omega)) (by omega) ⟨gMK, by show _ = ((nn : Nat) : Int); omega, gSN, by show _ = (0 : Int); omega⟩ | exact MO.ofk (beh_x (by omega) (Or.inl (by omega))) (by omega) (by omega) (by omega) | exact MO.ofk (beh_x (by omega) (Or.inr (gSN.emp (by omega)))) (by omega) (by omega) (by omega) | exact MO.ofr ((congrArg (behP b N mo q nn) ek1).trans (beh_c (by omega))) (by omega) ⟨gMK, by show _ = ((nn : Nat) : Int); omega, gSN, by show _ = (1 : Int); omega⟩, gMT, gRV⟩)
  · clear hp6_0
    refine lv_aload_n hx hb dX12_behind_14 rfl (lv_at hl 0 rfl) ?_
    refine lv_ldc2 (v := 28530) hx hb hown (hts _ lk_X12_behind_127) dX12_behind_15 ?_
    refine r_cVi (k := 387) (As := [.long (28530)]) (rest := []) ⟨hx, hb, hml, hown, hts⟩ hK hP hN hS (c_X12_isWord_v l D cA ad hI σ1 τ0 hR (28530) _ _ _ _ 20 (by decide) (by decide) gMK) (cwV 1 hts gX12_behind_X12_isWord rfl rfl rfl (by decide +kernel) ⟨by decide, by decide⟩) (rv_M hK hP (by decide) (by decide)) rfl hl.1 rfl (Nat.le_of_ble_eq_true rfl) dX12_behind_18 (Nat.zero_le _) (Nat.zero_le _) (fun r122 u122 H122 locs122 hp122 hP hS => ?_)
    obtain ⟨σ122, τ122⟩ := u122
    obtain ⟨hR, f122, fL122, hq122, hp122_0, hp122_1, gnMK⟩ : P_X12_isWord_v σ1 τ0 (28530) _ _ _ _ 20 r122 σ122 τ122 := hp122
    have ia2 := hp122_1
    have hP : va_P D vwCl (gw cA ad σ122 τ122) H122 := hP
    obtain rfl := FrL.nil fL122
    obtain rfl := Fr.nil f122
    refine r_if_eq (tgt := 92) hx hb dX12_behind_21 (by decide) (fun c123 => ?_) (fun c123 => ?_)
    · clear hp122_0
      refine lv_aload_n hx hb dX12_behind_92 rfl (lv_at hl 0 rfl) ?_
      refine r_bipush hx hb dX12_behind_93 (by decide) (fun z124 ez124 => ?_)
      refine r_cVv (k := 387) (As := [.int z124]) (rest := []) ⟨hx, hb, hml, hown, hts⟩ hK hP hN hS (c_X12_joins l D cA ad hI σ1 τ0 hR z124 (pnt K) (by omega) (by omega) (by omega) (pnt_pn K) gPV gSN) (cwV 1 hts gX12_behind_X12_joins rfl rfl rfl (by decide +kernel) ⟨by decide, by decide⟩) (rv_M hK hP (by decide) (by decide)) rfl hl.1 rfl (Nat.le_of_ble_eq_true rfl) dX12_behind_95 (Nat.zero_le _) (Nat.zero_le _) (fun u125 H125 locs125 hp125 hP hS => ?_)
      obtain ⟨σ125, τ125⟩ := u125
      obtain ⟨hR, f125, fL125, hp125_0, hp125_1, hp125_2, hp125_3, gnPV, gnSN⟩ : P_X12_joins σ1 τ0 z124 (pnt K) σ125 τ125 := hp125
      have nb := hp125_2
      have hP : va_P D vwCl (gw cA ad σ125 τ125) H125 := hP
      obtain rfl := FrL.nil fL125
      have hF := hF.step f125 (by decide)
      have gMK := gMK.ag (Agr.fr f125 (by decide))
      have gMT := gMT.ag (Agr.fr f125 (by decide))
      have t126 : (σ125 387 39).toInt = (σ1 387 39).toInt := congrArg Int32.toInt (f125.at 387 39 (by decide))
      have t127 : (σ125 387 42).toInt = (σ1 387 42).toInt := congrArg Int32.toInt (f125.at 387 42 (by decide))
      have hr128 := rg_12_38 hR (k := 387) (by decide) (by decide)
      have hr129 := rg_12_40 hR (k := 387) (by decide) (by decide)
      have gPV := gnPV
      have gSN := gnSN
      refine lv_aload_n hx hb dX12_behind_98 rfl (lv_at hl 0 rfl) ?_
      refine r_bipush hx hb dX12_behind_99 (by decide) (fun z130 ez130 => ?_)
      refine r_cVi (k := 387) (As := [.int z130]) (rest := []) ⟨hx, hb, hml, hown, hts⟩ hK hP hN hS (c_X12_isSign_s l D cA ad hI σ125 τ0 hR z130 b N mo q 45 (by omega) (by omega) gMK) (cwV 1 hts gX12_behind_X12_isSign rfl rfl rfl (by decide +kernel) ⟨by decide, by decide⟩) (rv_M hK hP (by decide) (by decide)) rfl hl.1 rfl (Nat.le_of_ble_eq_true rfl) dX12_behind_101 (Nat.zero_le _) (Nat.zero_le _) (fun r131 u131 H131 locs131 hp131 hP hS => ?_)
      obtain ⟨σ131, τ131⟩ := u131
      obtain ⟨hR, f131, fL131, hq131, hp131_0, hp131_1, gnMK⟩ : P_X12_isSign_s σ125 τ0 z130 b N mo q 45 r131 σ131 τ131 := hp131
      have ia5 := hp131_1
      have hP : va_P D vwCl (gw cA ad σ131 τ131) H131 := hP
      obtain rfl := FrL.nil fL131
      obtain rfl := Fr.nil f131
      refine r_if_eq (tgt := 114) hx hb dX12_behind_104 (by decide) (fun c132 => ?_) (fun c132 => ?_)
      · clear hp131_0
        refine lv_aload_n hx hb dX12_behind_114 rfl (lv_at hl 0 rfl) ?_
        refine r_iconst hx hb dX12_behind_115 (by decide) (fun z133 ez133 => ?_)
        refine r_cVi (k := 387) (As := [.int z133]) (rest := []) ⟨hx, hb, hml, hown, hts⟩ hK hP hN hS (c_X12_bad_v l D cA ad hI σ125 τ0 hR z133 _ _ _ _ (by omega) gMK) (cwV 1 hts gX12_behind_X12_bad rfl rfl rfl (by decide +kernel) ⟨by decide, by decide⟩) (rv_M hK hP (by decide) (by decide)) rfl hl.1 rfl (Nat.le_of_ble_eq_true rfl) dX12_behind_116 (Nat.zero_le _) (Nat.zero_le _) (fun r134 u134 H134 locs134 hp134 hP hS => ?_)
        obtain ⟨σ134, τ134⟩ := u134
        obtain ⟨hR, f134, fL134, hq134, hp134_0, hp134_1, hp134_2, gnMK⟩ : P_X12_bad_v σ125 τ0 z133 _ _ _ _ r134 σ134 τ134 := hp134
        have hP : va_P D vwCl (gw cA ad σ134 τ134) H134 := hP
        obtain rfl := FrL.nil fL134
        have hF := hF.step f134 (by decide)
        have gMK := gMK.ag (Agr.fr f134 (by decide))
        have gMT := gMT.ag (Agr.fr f134 (by decide))
        have gPV := PV.fr gPV hR f134 (by decide)
        have gSN := gSN.ag (Agr.fr f134 (by decide))
        have t135 : (σ134 387 39).toInt = (σ125 387 39).toInt := congrArg Int32.toInt (f134.at 387 39 (by decide))
        have t136 : (σ134 387 42).toInt = (σ125 387 42).toInt := congrArg Int32.toInt (f134.at 387 42 (by decide))
        have t137 : (σ134 387 38).toInt = (σ125 387 38).toInt := congrArg Int32.toInt (f134.at 387 38 (by decide))
        have t138 : (σ134 387 40).toInt = (σ125 387 40).toInt := congrArg Int32.toInt (f134.at 387 40 (by decide))
        exact r_zret hx hb hr hK hP hS hk (by omega) dX12_behind_119 (show P_X12_behind σ0 τ0 b N mo q nn K r134 σ134 τ0 from ⟨hR, hF, hFL, by omega, by first | exact Or.inl (by omega) | exact Or.inr gPV, by omega, by omega, by first | (exfalso; omega) | exact MO.ofr (beh_j (by omega)) (by omega) ⟨gMK, by show _ = ((nn : Nat) : Int); omega, gSN, by show _ = (0 : Int); omega⟩ | exact MO.ofk (beh_x (by omega) (Or.inl (by omega))) (by omega) (by omega) (by omega) | exact MO.ofk (beh_x (by omega) (Or.inr (gSN.emp (by omega)))) (by omega) (by omega) (by omega) | exact MO.ofr ((congrArg (behP b N mo q nn) ek1).trans (beh_c (by omega))) (by omega) ⟨gMK, by show _ = ((nn : Nat) : Int); omega, gSN, by show _ = (1 : Int); omega⟩, gMT, gRV⟩)
      · replace hp131_0 := hp131_0.resolve_left (by omega)
        refine lv_aload_n hx hb dX12_behind_107 rfl (lv_at hl 0 rfl) ?_
        refine fg_12_40 (k := 387) hx hb hts in_X12_behind_12 hown hK hP (by decide) (by decide) (hts _ lk_X12_behind_434) dX12_behind_108 ?_
        refine r_if_ne (tgt := 120) hx hb dX12_behind_111 (by decide) (fun c139 => ?_) (fun c139 => ?_)
        · refine lv_aload_n hx hb dX12_behind_120 rfl (lv_at hl 0 rfl) ?_
          refine lv_dup hx hb dX12_behind_121 rfl ?_
          have hcl := nb ((σ125 387 40).toInt - 1).toNat (by omega) (by omega)
          have ejl : ((((σ125 387 40).toInt - 1).toNat : Nat) : Int) = (σ125 387 40).toInt - 1 := (by omega)
          refine fg_12_40 (k := 387) hx hb hts in_X12_behind_12 hown hK hP (by decide) (by decide) (hts _ lk_X12_behind_434) dX12_behind_122 ?_
          refine r_iconst hx hb dX12_behind_125 (by decide) (fun z140 ez140 => ?_)
          refine r_isub hx hb dX12_behind_126 (by omega) (fun z141 ez141 => ?_)
          refine fp_12_40 (k := 387) hx hb hts in_X12_behind_12 hown hK hP (by decide) (by decide) (hts _ lk_X12_behind_434) hI hR hS (by omega) dX12_behind_127 (fun σ142 H142 locs142 u142 v142 hR hP hS => ?_)
          have ut := u142
          have vt := v142
          have hF := hF.puts u142 3 rfl (by decide) (by decide) (by decide) (by decide)
          have gMK := gMK.ag (Agr.put u142 (by decide))
          have gMT := gMT.ag (Agr.put u142 (by decide))
          have t143 : (σ142 387 39).toInt = (σ125 387 39).toInt := congrArg Int32.toInt (u142 387 39 (by omega))
          have t144 : (σ142 387 42).toInt = (σ125 387 42).toInt := congrArg Int32.toInt (u142 387 42 (by omega))
          have t145 : (σ142 387 38).toInt = (σ125 387 38).toInt := congrArg Int32.toInt (u142 387 38 (by omega))
          have gPV := PV.close gPV ejl hcl ut (by omega)
          refine lv_aload_n hx hb dX12_behind_130 rfl (lv_at hl 0 rfl) ?_
          refine lv_dup hx hb dX12_behind_131 rfl ?_
          refine fg_12_41 (k := 387) hx hb hts in_X12_behind_12 hown hK hP (by decide) (by decide) (hts _ lk_X12_behind_440) dX12_behind_132 ?_
          have hdl := SN.dl gSN
          have hd9 := congrArg Int32.toInt (ut 387 41 (by omega))
          refine r_iconst hx hb dX12_behind_135 (by decide) (fun z146 ez146 => ?_)
          refine r_isub hx hb dX12_behind_136 (by omega) (fun z147 ez147 => ?_)
          refine fp_12_41 (k := 387) hx hb hts in_X12_behind_12 hown hK hP (by decide) (by decide) (hts _ lk_X12_behind_440) hI hR hS dX12_behind_137 (fun σ148 H148 locs148 u148 v148 hR hP hS => ?_)
          have ud := u148
          have vd := v148
          have hF := hF.puts u148 3 rfl (by decide) (by decide) (by decide) (by decide)
          have gMK := gMK.ag (Agr.put u148 (by decide))
          have gMT := gMT.ag (Agr.put u148 (by decide))
          have gPV := PV.put gPV hR u148 (by decide)
          have t149 : (σ148 387 39).toInt = (σ142 387 39).toInt := congrArg Int32.toInt (u148 387 39 (by omega))
          have t150 : (σ148 387 42).toInt = (σ142 387 42).toInt := congrArg Int32.toInt (u148 387 42 (by omega))
          have t151 : (σ148 387 38).toInt = (σ142 387 38).toInt := congrArg Int32.toInt (u148 387 38 (by omega))
          have t152 : (σ148 387 40).toInt = (σ142 387 40).toInt := congrArg Int32.toInt (u148 387 40 (by omega))
          obtain ⟨K1, ek1, gSN⟩ := SN.close gSN (pnt_pn K) (by omega) hcl ut (by omega) ud (by omega)
          refine lv_aload_n hx hb dX12_behind_140 rfl (lv_at hl 0 rfl) ?_
          refine r_cVv (k := 387) (As := []) (rest := []) ⟨hx, hb, hml, hown, hts⟩ hK hP hN hS (c_X12_next_v l D cA ad hI σ148 τ0 hR _ _ _ _ gMK.mp gMT) (cwV 0 hts gX12_behind_X12_next rfl rfl rfl (by decide +kernel) ⟨by decide, by decide⟩) (rv_M hK hP (by decide) (by decide)) rfl hl.1 rfl (Nat.le_of_ble_eq_true rfl) dX12_behind_141 (Nat.zero_le _) (Nat.zero_le _) (fun u153 H153 locs153 hp153 hP hS => ?_)
          obtain ⟨σ153, τ153⟩ := u153
          obtain ⟨hR, f153, fL153, hp153_0, hp153_1, hp153_2, hp153_3, gnMT⟩ : P_X12_next_v σ148 τ0 _ _ _ _ σ153 τ153 := hp153
          have hP : va_P D vwCl (gw cA ad σ153 τ153) H153 := hP
          have hFL := hFL.step fL153 (by decide)
          have gRV := gRV.agL (AgrL.fr fL153 (by decide))
          have hF := hF.step f153 (by decide)
          have gMT := gMT.ag (Agr.fr f153 (by decide))
          have gPV := PV.fr gPV hR f153 (by decide)
          have gSN := gSN.ag (Agr.fr f153 (by decide))
          have t154 : (σ153 387 39).toInt = (σ148 387 39).toInt := congrArg Int32.toInt (f153.at 387 39 (by decide))
          have t155 : (σ153 387 42).toInt = (σ148 387 42).toInt := congrArg Int32.toInt (f153.at 387 42 (by decide))
          have t156 : (σ153 387 38).toInt = (σ148 387 38).toInt := congrArg Int32.toInt (f153.at 387 38 (by decide))
          have t157 : (σ153 387 40).toInt = (σ148 387 40).toInt := congrArg Int32.toInt (f153.at 387 40 (by decide))
          have gMK := hp153_3
          refine r_iconst hx hb dX12_behind_144 (by decide) (fun z158 ez158 => ?_)
          exact r_zret hx hb hr hK hP hS hk (by omega) dX12_behind_145 (show P_X12_behind σ0 τ0 b N mo q nn K z158 σ153 τ153 from ⟨hR, hF, hFL, by omega, by first | exact Or.inl (by omega) | exact Or.inr gPV, by omega, by omega, by first | (exfalso; omega) | exact MO.ofr (beh_j (by omega)) (by omega) ⟨gMK, by show _ = ((nn : Nat) : Int); omega, gSN, by show _ = (0 : Int); omega⟩ | exact MO.ofk (beh_x (by omega) (Or.inl (by omega))) (by omega) (by omega) (by omega) | exact MO.ofk (beh_x (by omega) (Or.inr (gSN.emp (by omega)))) (by omega) (by omega) (by omega) | exact MO.ofr ((congrArg (behP b N mo q nn) ek1).trans (beh_c (by omega))) (by omega) ⟨gMK, by show _ = ((nn : Nat) : Int); omega, gSN, by show _ = (1 : Int); omega⟩, gMT, gRV⟩)
        · refine lv_aload_n hx hb dX12_behind_114 rfl (lv_at hl 0 rfl) ?_
          refine r_iconst hx hb dX12_behind_115 (by decide) (fun z159 ez159 => ?_)
          refine r_cVi (k := 387) (As := [.int z159]) (rest := []) ⟨hx, hb, hml, hown, hts⟩ hK hP hN hS (c_X12_bad_v l D cA ad hI σ125 τ0 hR z159 _ _ _ _ (by omega) gMK) (cwV 1 hts gX12_behind_X12_bad rfl rfl rfl (by decide +kernel) ⟨by decide, by decide⟩) (rv_M hK hP (by decide) (by decide)) rfl hl.1 rfl (Nat.le_of_ble_eq_true rfl) dX12_behind_116 (Nat.zero_le _) (Nat.zero_le _) (fun r160 u160 H160 locs160 hp160 hP hS => ?_)
          obtain ⟨σ160, τ160⟩ := u160
          obtain ⟨hR, f160, fL160, hq160, hp160_0, hp160_1, hp160_2, gnMK⟩ : P_X12_bad_v σ125 τ0 z159 _ _ _ _ r160 σ160 τ160 := hp160
          have hP : va_P D vwCl (gw cA ad σ160 τ160) H160 := hP
          obtain rfl := FrL.nil fL160
          have hF := hF.step f160 (by decide)
          have gMK := gMK.ag (Agr.fr f160 (by decide))
          have gMT := gMT.ag (Agr.fr f160 (by decide))
          have gPV := PV.fr gPV hR f160 (by decide)
          have gSN := gSN.ag (Agr.fr f160 (by decide))
          have t161 : (σ160 387 39).toInt = (σ125 387 39).toInt := congrArg Int32.toInt (f160.at 387 39 (by decide))
          have t162 : (σ160 387 42).toInt = (σ125 387 42).toInt := congrArg Int32.toInt (f160.at 387 42 (by decide))
          have t163 : (σ160 387 38).toInt = (σ125 387 38).toInt := congrArg Int32.toInt (f160.at 387 38 (by decide))
          have t164 : (σ160 387 40).toInt = (σ125 387 40).toInt := congrArg Int32.toInt (f160.at 387 40 (by decide))
          exact r_zret hx hb hr hK hP hS hk (by omega) dX12_behind_119 (show P_X12_behind σ0 τ0 b N mo q nn K r160 σ160 τ0 from ⟨hR, hF, hFL, by omega, by first | exact Or.inl (by omega) | exact Or.inr gPV, by omega, by omega, by first | (exfalso; omega) | exact MO.ofr (beh_j (by omega)) (by omega) ⟨gMK, by show _ = ((nn : Nat) : Int); omega, gSN, by show _ = (0 : Int); omega⟩ | exact MO.ofk (beh_x (by omega) (Or.inl (by omega))) (by omega) (by omega) (by omega) | exact MO.ofk (beh_x (by omega) (Or.inr (gSN.emp (by omega)))) (by omega) (by omega) (by omega) | exact MO.ofr ((congrArg (behP b N mo q nn) ek1).trans (beh_c (by omega))) (by omega) ⟨gMK, by show _ = ((nn : Nat) : Int); omega, gSN, by show _ = (1 : Int); omega⟩, gMT, gRV⟩)
    · replace hp122_0 := hp122_0.resolve_left (by omega)
      refine lv_aload_n hx hb dX12_behind_24 rfl (lv_at hl 0 rfl) ?_
      refine lv_aload_n hx hb dX12_behind_25 rfl (lv_at hl 0 rfl) ?_
      refine lv_ldc2 (v := 6385252) hx hb hown (hts _ lk_X12_behind_129) dX12_behind_26 ?_
      refine r_cVi (k := 387) (As := [.long (6385252)]) (rest := [.ref (ad 387)]) ⟨hx, hb, hml, hown, hts⟩ hK hP hN hS (c_X12_isWord_v l D cA ad hI σ1 τ0 hR (6385252) _ _ _ _ 21 (by decide) (by decide) gMK) (cwV 1 hts gX12_behind_X12_isWord rfl rfl rfl (by decide +kernel) ⟨by decide, by decide⟩) (rv_M hK hP (by decide) (by decide)) rfl hl.1 rfl (Nat.le_of_ble_eq_true rfl) dX12_behind_29 (Nat.zero_le _) (Nat.zero_le _) (fun r165 u165 H165 locs165 hp165 hP hS => ?_)
      obtain ⟨σ165, τ165⟩ := u165
      obtain ⟨hR, f165, fL165, hq165, hp165_0, hp165_1, gnMK⟩ : P_X12_isWord_v σ1 τ0 (6385252) _ _ _ _ 21 r165 σ165 τ165 := hp165
      have ia3 := hp165_1
      have hP : va_P D vwCl (gw cA ad σ165 τ165) H165 := hP
      obtain rfl := FrL.nil fL165
      obtain rfl := Fr.nil f165
      refine r_if_eq (tgt := 40) hx hb dX12_behind_32 (by decide) (fun c166 => ?_) (fun c166 => ?_)
      · clear hp165_0
        refine r_bipush hx hb dX12_behind_40 (by decide) (fun z167 ez167 => ?_)
        refine r_cVv (k := 387) (As := [.int z167]) (rest := []) ⟨hx, hb, hml, hown, hts⟩ hK hP hN hS (c_X12_joins l D cA ad hI σ1 τ0 hR z167 (pnt K) (by omega) (by omega) (by omega) (pnt_pn K) gPV gSN) (cwV 1 hts gX12_behind_X12_joins rfl rfl rfl (by decide +kernel) ⟨by decide, by decide⟩) (rv_M hK hP (by decide) (by decide)) rfl hl.1 rfl (Nat.le_of_ble_eq_true rfl) dX12_behind_42 (Nat.zero_le _) (Nat.zero_le _) (fun u168 H168 locs168 hp168 hP hS => ?_)
        obtain ⟨σ168, τ168⟩ := u168
        obtain ⟨hR, f168, fL168, hp168_0, hp168_1, hp168_2, hp168_3, gnPV, gnSN⟩ : P_X12_joins σ1 τ0 z167 (pnt K) σ168 τ168 := hp168
        have hP : va_P D vwCl (gw cA ad σ168 τ168) H168 := hP
        obtain rfl := FrL.nil fL168
        have hF := hF.step f168 (by decide)
        have gMK := gMK.ag (Agr.fr f168 (by decide))
        have gMT := gMT.ag (Agr.fr f168 (by decide))
        have t169 : (σ168 387 39).toInt = (σ1 387 39).toInt := congrArg Int32.toInt (f168.at 387 39 (by decide))
        have t170 : (σ168 387 42).toInt = (σ1 387 42).toInt := congrArg Int32.toInt (f168.at 387 42 (by decide))
        have hr171 := rg_12_38 hR (k := 387) (by decide) (by decide)
        have hr172 := rg_12_40 hR (k := 387) (by decide) (by decide)
        have gPV := gnPV
        have gSN := gnSN
        refine lv_aload_n hx hb dX12_behind_45 rfl (lv_at hl 0 rfl) ?_
        refine fg_12_37 (k := 387) hx hb hts in_X12_behind_12 hown hK hP (by decide) (by decide) (hts _ lk_X12_behind_71) dX12_behind_46 ?_
        refine lv_aload_n hx hb dX12_behind_49 rfl (lv_at hl 0 rfl) ?_
        refine fg_12_40 (k := 387) hx hb hts in_X12_behind_12 hown hK hP (by decide) (by decide) (hts _ lk_X12_behind_434) dX12_behind_50 ?_
        refine lv_aload_n hx hb dX12_behind_53 rfl (lv_at hl 0 rfl) ?_
        refine lv_ldc2 (v := 6385252) hx hb hown (hts _ lk_X12_behind_129) dX12_behind_54 ?_
        refine r_cVi (k := 387) (As := [.long (6385252)]) (rest := [.int (σ168 387 40), .ref (ad 401)]) ⟨hx, hb, hml, hown, hts⟩ hK hP hN hS (c_X12_isWord_v l D cA ad hI σ168 τ0 hR (6385252) _ _ _ _ 21 (by decide) (by decide) gMK) (cwV 1 hts gX12_behind_X12_isWord rfl rfl rfl (by decide +kernel) ⟨by decide, by decide⟩) (rv_M hK hP (by decide) (by decide)) rfl hl.1 rfl (Nat.le_of_ble_eq_true rfl) dX12_behind_57 (Nat.zero_le _) (Nat.zero_le _) (fun r173 u173 H173 locs173 hp173 hP hS => ?_)
        obtain ⟨σ173, τ173⟩ := u173
        obtain ⟨hR, f173, fL173, hq173, hp173_0, hp173_1, gnMK⟩ : P_X12_isWord_v σ168 τ0 (6385252) _ _ _ _ 21 r173 σ173 τ173 := hp173
        have ia4 := hp173_1
        have hP : va_P D vwCl (gw cA ad σ173 τ173) H173 := hP
        obtain rfl := FrL.nil fL173
        obtain rfl := Fr.nil f173
        refine r_if_eq (tgt := 68) hx hb dX12_behind_60 (by decide) (fun c174 => ?_) (fun c174 => ?_)
        · clear hp173_0
          refine r_bipush hx hb dX12_behind_68 (by decide) (fun z175 ez175 => ?_)
          obtain ⟨j176, ej176⟩ : ∃ j : Nat, (σ168 387 40).toInt = (j : Int) := ⟨_, ti_nat (by omega)⟩
          refine as_mstack (k := 401) (j := j176) hx hb hK hP hI hR hS (by decide) (by decide) ej176 (by omega) dX12_behind_70 (fun σ177 H177 locs177 u177 v177 hR hP hS => ?_)
          have ua := u177
          have va := v177
          have hF := hF.puts u177 2 rfl (by decide) (by decide) (by omega) (by omega)
          have gMK := gMK.ag (Agr.putV u177 (by intro q hq; simp only [Gd_MK, List.mem_cons, List.not_mem_nil, or_false] at hq; rcases hq with rfl | rfl | rfl <;> dsimp only [inRc] <;> omega))
          have gMT := gMT.ag (Agr.putV u177 (by intro q hq; simp only [Gd_MT, List.mem_cons, List.not_mem_nil, or_false] at hq; rcases hq with rfl | rfl | rfl <;> dsimp only [inRc] <;> omega))
          have t178 : (σ177 387 39).toInt = (σ168 387 39).toInt := congrArg Int32.toInt (u177 387 39 (by omega))
          have t179 : (σ177 387 42).toInt = (σ168 387 42).toInt := congrArg Int32.toInt (u177 387 42 (by omega))
          have t180 : (σ177 387 38).toInt = (σ168 387 38).toInt := congrArg Int32.toInt (u177 387 38 (by omega))
          have t181 : (σ177 387 40).toInt = (σ168 387 40).toInt := congrArg Int32.toInt (u177 387 40 (by omega))
          refine lv_aload_n hx hb dX12_behind_71 rfl (lv_at hl 0 rfl) ?_
          refine lv_dup hx hb dX12_behind_72 rfl ?_
          refine fg_12_40 (k := 387) hx hb hts in_X12_behind_12 hown hK hP (by decide) (by decide) (hts _ lk_X12_behind_434) dX12_behind_73 ?_
          refine r_iconst hx hb dX12_behind_76 (by decide) (fun z182 ez182 => ?_)
          refine r_iadd hx hb dX12_behind_77 (by omega) (fun z183 ez183 => ?_)
          refine fp_12_40 (k := 387) hx hb hts in_X12_behind_12 hown hK hP (by decide) (by decide) (hts _ lk_X12_behind_434) hI hR hS (by omega) dX12_behind_78 (fun σ184 H184 locs184 u184 v184 hR hP hS => ?_)
          have ub := u184
          have vb := v184
          have hF := hF.puts u184 3 rfl (by decide) (by decide) (by decide) (by decide)
          have gMK := gMK.ag (Agr.put u184 (by decide))
          have gMT := gMT.ag (Agr.put u184 (by decide))
          have t185 : (σ184 387 39).toInt = (σ177 387 39).toInt := congrArg Int32.toInt (u184 387 39 (by omega))
          have t186 : (σ184 387 42).toInt = (σ177 387 42).toInt := congrArg Int32.toInt (u184 387 42 (by omega))
          have t187 : (σ184 387 38).toInt = (σ177 387 38).toInt := congrArg Int32.toInt (u184 387 38 (by omega))
          have gSN := SN.push gSN (pnt_pn K) (by omega) (by omega) ua (by omega) ub (by omega)
          refine lv_aload_n hx hb dX12_behind_81 rfl (lv_at hl 0 rfl) ?_
          refine r_iconst hx hb dX12_behind_82 (by decide) (fun z188 ez188 => ?_)
          refine fp_12_42 (k := 387) hx hb hts in_X12_behind_12 hown hK hP (by decide) (by decide) (hts _ lk_X12_behind_449) hI hR hS (by omega) dX12_behind_83 (fun σ189 H189 locs189 u189 v189 hR hP hS => ?_)
          have uc := u189
          have vc := v189
          have hF := hF.puts u189 3 rfl (by decide) (by decide) (by decide) (by decide)
          have gMK := gMK.ag (Agr.put u189 (by decide))
          have gMT := gMT.ag (Agr.put u189 (by decide))
          have gSN := gSN.ag (Agr.put u189 (by decide))
          have t190 : (σ189 387 39).toInt = (σ184 387 39).toInt := congrArg Int32.toInt (u189 387 39 (by omega))
          have t191 : (σ189 387 38).toInt = (σ184 387 38).toInt := congrArg Int32.toInt (u189 387 38 (by omega))
          have t192 : (σ189 387 40).toInt = (σ184 387 40).toInt := congrArg Int32.toInt (u189 387 40 (by omega))
          have gPV := PV.bin gPV (by omega) ua va (by omega) (by omega) ub (by omega) uc (by omega)
          refine lv_aload_n hx hb dX12_behind_86 rfl (lv_at hl 0 rfl) ?_
          refine r_cVv (k := 387) (As := []) (rest := []) ⟨hx, hb, hml, hown, hts⟩ hK hP hN hS (c_X12_next_v l D cA ad hI σ189 τ0 hR _ _ _ _ gMK.mp gMT) (cwV 0 hts gX12_behind_X12_next rfl rfl rfl (by decide +kernel) ⟨by decide, by decide⟩) (rv_M hK hP (by decide) (by decide)) rfl hl.1 rfl (Nat.le_of_ble_eq_true rfl) dX12_behind_87 (Nat.zero_le _) (Nat.zero_le _) (fun u193 H193 locs193 hp193 hP hS => ?_)
          obtain ⟨σ193, τ193⟩ := u193
          obtain ⟨hR, f193, fL193, hp193_0, hp193_1, hp193_2, hp193_3, gnMT⟩ : P_X12_next_v σ189 τ0 _ _ _ _ σ193 τ193 := hp193
          have hP : va_P D vwCl (gw cA ad σ193 τ193) H193 := hP
          have hFL := hFL.step fL193 (by decide)
          have gRV := gRV.agL (AgrL.fr fL193 (by decide))
          have hF := hF.step f193 (by decide)
          have gMT := gMT.ag (Agr.fr f193 (by decide))
          have gPV := PV.fr gPV hR f193 (by decide)
          have gSN := gSN.ag (Agr.fr f193 (by decide))
          have t194 : (σ193 387 39).toInt = (σ189 387 39).toInt := congrArg Int32.toInt (f193.at 387 39 (by decide))
          have t195 : (σ193 387 38).toInt = (σ189 387 38).toInt := congrArg Int32.toInt (f193.at 387 38 (by decide))
          have t196 : (σ193 387 40).toInt = (σ189 387 40).toInt := congrArg Int32.toInt (f193.at 387 40 (by decide))
          have t197 : (σ193 387 42).toInt = (σ189 387 42).toInt := congrArg Int32.toInt (f193.at 387 42 (by decide))
          have gMK := hp193_3
          refine r_iconst hx hb dX12_behind_90 (by decide) (fun z198 ez198 => ?_)
          exact r_zret hx hb hr hK hP hS hk (by omega) dX12_behind_91 (show P_X12_behind σ0 τ0 b N mo q nn K z198 σ193 τ193 from ⟨hR, hF, hFL, by omega, by first | exact Or.inl (by omega) | exact Or.inr gPV, by omega, by omega, by first | (exfalso; omega) | exact MO.ofr (beh_j (by omega)) (by omega) ⟨gMK, by show _ = ((nn : Nat) : Int); omega, gSN, by show _ = (0 : Int); omega⟩ | exact MO.ofk (beh_x (by omega) (Or.inl (by omega))) (by omega) (by omega) (by omega) | exact MO.ofk (beh_x (by omega) (Or.inr (gSN.emp (by omega)))) (by omega) (by omega) (by omega) | exact MO.ofr ((congrArg (behP b N mo q nn) ek1).trans (beh_c (by omega))) (by omega) ⟨gMK, by show _ = ((nn : Nat) : Int); omega, gSN, by show _ = (1 : Int); omega⟩, gMT, gRV⟩)
        · replace hp173_0 := hp173_0.resolve_left (by omega)
          refine r_bipush hx hb dX12_behind_63 (by decide) (fun z199 ez199 => ?_)
          refine lv_goto (tgt := 70) hx hb dX12_behind_65 (by decide) ?_
          obtain ⟨j200, ej200⟩ : ∃ j : Nat, (σ168 387 40).toInt = (j : Int) := ⟨_, ti_nat (by omega)⟩
          refine as_mstack (k := 401) (j := j200) hx hb hK hP hI hR hS (by decide) (by decide) ej200 (by omega) dX12_behind_70 (fun σ201 H201 locs201 u201 v201 hR hP hS => ?_)
          have ua := u201
          have va := v201
          have hF := hF.puts u201 2 rfl (by decide) (by decide) (by omega) (by omega)
          have gMK := gMK.ag (Agr.putV u201 (by intro q hq; simp only [Gd_MK, List.mem_cons, List.not_mem_nil, or_false] at hq; rcases hq with rfl | rfl | rfl <;> dsimp only [inRc] <;> omega))
          have gMT := gMT.ag (Agr.putV u201 (by intro q hq; simp only [Gd_MT, List.mem_cons, List.not_mem_nil, or_false] at hq; rcases hq with rfl | rfl | rfl <;> dsimp only [inRc] <;> omega))
          have t202 : (σ201 387 39).toInt = (σ168 387 39).toInt := congrArg Int32.toInt (u201 387 39 (by omega))
          have t203 : (σ201 387 42).toInt = (σ168 387 42).toInt := congrArg Int32.toInt (u201 387 42 (by omega))
          have t204 : (σ201 387 38).toInt = (σ168 387 38).toInt := congrArg Int32.toInt (u201 387 38 (by omega))
          have t205 : (σ201 387 40).toInt = (σ168 387 40).toInt := congrArg Int32.toInt (u201 387 40 (by omega))
          refine lv_aload_n hx hb dX12_behind_71 rfl (lv_at hl 0 rfl) ?_
          refine lv_dup hx hb dX12_behind_72 rfl ?_
          refine fg_12_40 (k := 387) hx hb hts in_X12_behind_12 hown hK hP (by decide) (by decide) (hts _ lk_X12_behind_434) dX12_behind_73 ?_
          refine r_iconst hx hb dX12_behind_76 (by decide) (fun z206 ez206 => ?_)
          refine r_iadd hx hb dX12_behind_77 (by omega) (fun z207 ez207 => ?_)
          refine fp_12_40 (k := 387) hx hb hts in_X12_behind_12 hown hK hP (by decide) (by decide) (hts _ lk_X12_behind_434) hI hR hS (by omega) dX12_behind_78 (fun σ208 H208 locs208 u208 v208 hR hP hS => ?_)
          have ub := u208
          have vb := v208
          have hF := hF.puts u208 3 rfl (by decide) (by decide) (by decide) (by decide)
          have gMK := gMK.ag (Agr.put u208 (by decide))
          have gMT := gMT.ag (Agr.put u208 (by decide))
          have t209 : (σ208 387 39).toInt = (σ201 387 39).toInt := congrArg Int32.toInt (u208 387 39 (by omega))
          have t210 : (σ208 387 42).toInt = (σ201 387 42).toInt := congrArg Int32.toInt (u208 387 42 (by omega))
          have t211 : (σ208 387 38).toInt = (σ201 387 38).toInt := congrArg Int32.toInt (u208 387 38 (by omega))
          have gSN := SN.push gSN (pnt_pn K) (by omega) (by omega) ua (by omega) ub (by omega)
          refine lv_aload_n hx hb dX12_behind_81 rfl (lv_at hl 0 rfl) ?_
          refine r_iconst hx hb dX12_behind_82 (by decide) (fun z212 ez212 => ?_)
          refine fp_12_42 (k := 387) hx hb hts in_X12_behind_12 hown hK hP (by decide) (by decide) (hts _ lk_X12_behind_449) hI hR hS (by omega) dX12_behind_83 (fun σ213 H213 locs213 u213 v213 hR hP hS => ?_)
          have uc := u213
          have vc := v213
          have hF := hF.puts u213 3 rfl (by decide) (by decide) (by decide) (by decide)
          have gMK := gMK.ag (Agr.put u213 (by decide))
          have gMT := gMT.ag (Agr.put u213 (by decide))
          have gSN := gSN.ag (Agr.put u213 (by decide))
          have t214 : (σ213 387 39).toInt = (σ208 387 39).toInt := congrArg Int32.toInt (u213 387 39 (by omega))
          have t215 : (σ213 387 38).toInt = (σ208 387 38).toInt := congrArg Int32.toInt (u213 387 38 (by omega))
          have t216 : (σ213 387 40).toInt = (σ208 387 40).toInt := congrArg Int32.toInt (u213 387 40 (by omega))
          have gPV := PV.bin gPV (by omega) ua va (by omega) (by omega) ub (by omega) uc (by omega)
          refine lv_aload_n hx hb dX12_behind_86 rfl (lv_at hl 0 rfl) ?_
          refine r_cVv (k := 387) (As := []) (rest := []) ⟨hx, hb, hml, hown, hts⟩ hK hP hN hS (c_X12_next_v l D cA ad hI σ213 τ0 hR _ _ _ _ gMK.mp gMT) (cwV 0 hts gX12_behind_X12_next rfl rfl rfl (by decide +kernel) ⟨by decide, by decide⟩) (rv_M hK hP (by decide) (by decide)) rfl hl.1 rfl (Nat.le_of_ble_eq_true rfl) dX12_behind_87 (Nat.zero_le _) (Nat.zero_le _) (fun u217 H217 locs217 hp217 hP hS => ?_)
          obtain ⟨σ217, τ217⟩ := u217
          obtain ⟨hR, f217, fL217, hp217_0, hp217_1, hp217_2, hp217_3, gnMT⟩ : P_X12_next_v σ213 τ0 _ _ _ _ σ217 τ217 := hp217
          have hP : va_P D vwCl (gw cA ad σ217 τ217) H217 := hP
          have hFL := hFL.step fL217 (by decide)
          have gRV := gRV.agL (AgrL.fr fL217 (by decide))
          have hF := hF.step f217 (by decide)
          have gMT := gMT.ag (Agr.fr f217 (by decide))
          have gPV := PV.fr gPV hR f217 (by decide)
          have gSN := gSN.ag (Agr.fr f217 (by decide))
          have t218 : (σ217 387 39).toInt = (σ213 387 39).toInt := congrArg Int32.toInt (f217.at 387 39 (by decide))
          have t219 : (σ217 387 38).toInt = (σ213 387 38).toInt := congrArg Int32.toInt (f217.at 387 38 (by decide))
          have t220 : (σ217 387 40).toInt = (σ213 387 40).toInt := congrArg Int32.toInt (f217.at 387 40 (by decide))
          have t221 : (σ217 387 42).toInt = (σ213 387 42).toInt := congrArg Int32.toInt (f217.at 387 42 (by decide))
          have gMK := hp217_3
          refine r_iconst hx hb dX12_behind_90 (by decide) (fun z222 ez222 => ?_)
          exact r_zret hx hb hr hK hP hS hk (by omega) dX12_behind_91 (show P_X12_behind σ0 τ0 b N mo q nn K z222 σ217 τ217 from ⟨hR, hF, hFL, by omega, by first | exact Or.inl (by omega) | exact Or.inr gPV, by omega, by omega, by first | (exfalso; omega) | exact MO.ofr (beh_j (by omega)) (by omega) ⟨gMK, by show _ = ((nn : Nat) : Int); omega, gSN, by show _ = (0 : Int); omega⟩ | exact MO.ofk (beh_x (by omega) (Or.inl (by omega))) (by omega) (by omega) (by omega) | exact MO.ofk (beh_x (by omega) (Or.inr (gSN.emp (by omega)))) (by omega) (by omega) (by omega) | exact MO.ofr ((congrArg (behP b N mo q nn) ek1).trans (beh_c (by omega))) (by omega) ⟨gMK, by show _ = ((nn : Nat) : Int); omega, gSN, by show _ = (1 : Int); omega⟩, gMT, gRV⟩)
      · replace hp165_0 := hp165_0.resolve_left (by omega)
        refine r_bipush hx hb dX12_behind_35 (by decide) (fun z223 ez223 => ?_)
        refine lv_goto (tgt := 42) hx hb dX12_behind_37 (by decide) ?_
        refine r_cVv (k := 387) (As := [.int z223]) (rest := []) ⟨hx, hb, hml, hown, hts⟩ hK hP hN hS (c_X12_joins l D cA ad hI σ1 τ0 hR z223 (pnt K) (by omega) (by omega) (by omega) (pnt_pn K) gPV gSN) (cwV 1 hts gX12_behind_X12_joins rfl rfl rfl (by decide +kernel) ⟨by decide, by decide⟩) (rv_M hK hP (by decide) (by decide)) rfl hl.1 rfl (Nat.le_of_ble_eq_true rfl) dX12_behind_42 (Nat.zero_le _) (Nat.zero_le _) (fun u224 H224 locs224 hp224 hP hS => ?_)
        obtain ⟨σ224, τ224⟩ := u224
        obtain ⟨hR, f224, fL224, hp224_0, hp224_1, hp224_2, hp224_3, gnPV, gnSN⟩ : P_X12_joins σ1 τ0 z223 (pnt K) σ224 τ224 := hp224
        have hP : va_P D vwCl (gw cA ad σ224 τ224) H224 := hP
        obtain rfl := FrL.nil fL224
        have hF := hF.step f224 (by decide)
        have gMK := gMK.ag (Agr.fr f224 (by decide))
        have gMT := gMT.ag (Agr.fr f224 (by decide))
        have t225 : (σ224 387 39).toInt = (σ1 387 39).toInt := congrArg Int32.toInt (f224.at 387 39 (by decide))
        have t226 : (σ224 387 42).toInt = (σ1 387 42).toInt := congrArg Int32.toInt (f224.at 387 42 (by decide))
        have hr227 := rg_12_38 hR (k := 387) (by decide) (by decide)
        have hr228 := rg_12_40 hR (k := 387) (by decide) (by decide)
        have gPV := gnPV
        have gSN := gnSN
        refine lv_aload_n hx hb dX12_behind_45 rfl (lv_at hl 0 rfl) ?_
        refine fg_12_37 (k := 387) hx hb hts in_X12_behind_12 hown hK hP (by decide) (by decide) (hts _ lk_X12_behind_71) dX12_behind_46 ?_
        refine lv_aload_n hx hb dX12_behind_49 rfl (lv_at hl 0 rfl) ?_
        refine fg_12_40 (k := 387) hx hb hts in_X12_behind_12 hown hK hP (by decide) (by decide) (hts _ lk_X12_behind_434) dX12_behind_50 ?_
        refine lv_aload_n hx hb dX12_behind_53 rfl (lv_at hl 0 rfl) ?_
        refine lv_ldc2 (v := 6385252) hx hb hown (hts _ lk_X12_behind_129) dX12_behind_54 ?_
        refine r_cVi (k := 387) (As := [.long (6385252)]) (rest := [.int (σ224 387 40), .ref (ad 401)]) ⟨hx, hb, hml, hown, hts⟩ hK hP hN hS (c_X12_isWord_v l D cA ad hI σ224 τ0 hR (6385252) _ _ _ _ 21 (by decide) (by decide) gMK) (cwV 1 hts gX12_behind_X12_isWord rfl rfl rfl (by decide +kernel) ⟨by decide, by decide⟩) (rv_M hK hP (by decide) (by decide)) rfl hl.1 rfl (Nat.le_of_ble_eq_true rfl) dX12_behind_57 (Nat.zero_le _) (Nat.zero_le _) (fun r229 u229 H229 locs229 hp229 hP hS => ?_)
        obtain ⟨σ229, τ229⟩ := u229
        obtain ⟨hR, f229, fL229, hq229, hp229_0, hp229_1, gnMK⟩ : P_X12_isWord_v σ224 τ0 (6385252) _ _ _ _ 21 r229 σ229 τ229 := hp229
        have ia4 := hp229_1
        have hP : va_P D vwCl (gw cA ad σ229 τ229) H229 := hP
        obtain rfl := FrL.nil fL229
        obtain rfl := Fr.nil f229
        refine r_if_eq (tgt := 68) hx hb dX12_behind_60 (by decide) (fun c230 => ?_) (fun c230 => ?_)
        · clear hp229_0
          refine r_bipush hx hb dX12_behind_68 (by decide) (fun z231 ez231 => ?_)
          obtain ⟨j232, ej232⟩ : ∃ j : Nat, (σ224 387 40).toInt = (j : Int) := ⟨_, ti_nat (by omega)⟩
          refine as_mstack (k := 401) (j := j232) hx hb hK hP hI hR hS (by decide) (by decide) ej232 (by omega) dX12_behind_70 (fun σ233 H233 locs233 u233 v233 hR hP hS => ?_)
          have ua := u233
          have va := v233
          have hF := hF.puts u233 2 rfl (by decide) (by decide) (by omega) (by omega)
          have gMK := gMK.ag (Agr.putV u233 (by intro q hq; simp only [Gd_MK, List.mem_cons, List.not_mem_nil, or_false] at hq; rcases hq with rfl | rfl | rfl <;> dsimp only [inRc] <;> omega))
          have gMT := gMT.ag (Agr.putV u233 (by intro q hq; simp only [Gd_MT, List.mem_cons, List.not_mem_nil, or_false] at hq; rcases hq with rfl | rfl | rfl <;> dsimp only [inRc] <;> omega))
          have t234 : (σ233 387 39).toInt = (σ224 387 39).toInt := congrArg Int32.toInt (u233 387 39 (by omega))
          have t235 : (σ233 387 42).toInt = (σ224 387 42).toInt := congrArg Int32.toInt (u233 387 42 (by omega))
          have t236 : (σ233 387 38).toInt = (σ224 387 38).toInt := congrArg Int32.toInt (u233 387 38 (by omega))
          have t237 : (σ233 387 40).toInt = (σ224 387 40).toInt := congrArg Int32.toInt (u233 387 40 (by omega))
          refine lv_aload_n hx hb dX12_behind_71 rfl (lv_at hl 0 rfl) ?_
          refine lv_dup hx hb dX12_behind_72 rfl ?_
          refine fg_12_40 (k := 387) hx hb hts in_X12_behind_12 hown hK hP (by decide) (by decide) (hts _ lk_X12_behind_434) dX12_behind_73 ?_
          refine r_iconst hx hb dX12_behind_76 (by decide) (fun z238 ez238 => ?_)
          refine r_iadd hx hb dX12_behind_77 (by omega) (fun z239 ez239 => ?_)
          refine fp_12_40 (k := 387) hx hb hts in_X12_behind_12 hown hK hP (by decide) (by decide) (hts _ lk_X12_behind_434) hI hR hS (by omega) dX12_behind_78 (fun σ240 H240 locs240 u240 v240 hR hP hS => ?_)
          have ub := u240
          have vb := v240
          have hF := hF.puts u240 3 rfl (by decide) (by decide) (by decide) (by decide)
          have gMK := gMK.ag (Agr.put u240 (by decide))
          have gMT := gMT.ag (Agr.put u240 (by decide))
          have t241 : (σ240 387 39).toInt = (σ233 387 39).toInt := congrArg Int32.toInt (u240 387 39 (by omega))
          have t242 : (σ240 387 42).toInt = (σ233 387 42).toInt := congrArg Int32.toInt (u240 387 42 (by omega))
          have t243 : (σ240 387 38).toInt = (σ233 387 38).toInt := congrArg Int32.toInt (u240 387 38 (by omega))
          have gSN := SN.push gSN (pnt_pn K) (by omega) (by omega) ua (by omega) ub (by omega)
          refine lv_aload_n hx hb dX12_behind_81 rfl (lv_at hl 0 rfl) ?_
          refine r_iconst hx hb dX12_behind_82 (by decide) (fun z244 ez244 => ?_)
          refine fp_12_42 (k := 387) hx hb hts in_X12_behind_12 hown hK hP (by decide) (by decide) (hts _ lk_X12_behind_449) hI hR hS (by omega) dX12_behind_83 (fun σ245 H245 locs245 u245 v245 hR hP hS => ?_)
          have uc := u245
          have vc := v245
          have hF := hF.puts u245 3 rfl (by decide) (by decide) (by decide) (by decide)
          have gMK := gMK.ag (Agr.put u245 (by decide))
          have gMT := gMT.ag (Agr.put u245 (by decide))
          have gSN := gSN.ag (Agr.put u245 (by decide))
          have t246 : (σ245 387 39).toInt = (σ240 387 39).toInt := congrArg Int32.toInt (u245 387 39 (by omega))
          have t247 : (σ245 387 38).toInt = (σ240 387 38).toInt := congrArg Int32.toInt (u245 387 38 (by omega))
          have t248 : (σ245 387 40).toInt = (σ240 387 40).toInt := congrArg Int32.toInt (u245 387 40 (by omega))
          have gPV := PV.bin gPV (by omega) ua va (by omega) (by omega) ub (by omega) uc (by omega)
          refine lv_aload_n hx hb dX12_behind_86 rfl (lv_at hl 0 rfl) ?_
          refine r_cVv (k := 387) (As := []) (rest := []) ⟨hx, hb, hml, hown, hts⟩ hK hP hN hS (c_X12_next_v l D cA ad hI σ245 τ0 hR _ _ _ _ gMK.mp gMT) (cwV 0 hts gX12_behind_X12_next rfl rfl rfl (by decide +kernel) ⟨by decide, by decide⟩) (rv_M hK hP (by decide) (by decide)) rfl hl.1 rfl (Nat.le_of_ble_eq_true rfl) dX12_behind_87 (Nat.zero_le _) (Nat.zero_le _) (fun u249 H249 locs249 hp249 hP hS => ?_)
          obtain ⟨σ249, τ249⟩ := u249
          obtain ⟨hR, f249, fL249, hp249_0, hp249_1, hp249_2, hp249_3, gnMT⟩ : P_X12_next_v σ245 τ0 _ _ _ _ σ249 τ249 := hp249
          have hP : va_P D vwCl (gw cA ad σ249 τ249) H249 := hP
          have hFL := hFL.step fL249 (by decide)
          have gRV := gRV.agL (AgrL.fr fL249 (by decide))
          have hF := hF.step f249 (by decide)
          have gMT := gMT.ag (Agr.fr f249 (by decide))
          have gPV := PV.fr gPV hR f249 (by decide)
          have gSN := gSN.ag (Agr.fr f249 (by decide))
          have t250 : (σ249 387 39).toInt = (σ245 387 39).toInt := congrArg Int32.toInt (f249.at 387 39 (by decide))
          have t251 : (σ249 387 38).toInt = (σ245 387 38).toInt := congrArg Int32.toInt (f249.at 387 38 (by decide))
          have t252 : (σ249 387 40).toInt = (σ245 387 40).toInt := congrArg Int32.toInt (f249.at 387 40 (by decide))
          have t253 : (σ249 387 42).toInt = (σ245 387 42).toInt := congrArg Int32.toInt (f249.at 387 42 (by decide))
          have gMK := hp249_3
          refine r_iconst hx hb dX12_behind_90 (by decide) (fun z254 ez254 => ?_)
          exact r_zret hx hb hr hK hP hS hk (by omega) dX12_behind_91 (show P_X12_behind σ0 τ0 b N mo q nn K z254 σ249 τ249 from ⟨hR, hF, hFL, by omega, by first | exact Or.inl (by omega) | exact Or.inr gPV, by omega, by omega, by first | (exfalso; omega) | exact MO.ofr (beh_j (by omega)) (by omega) ⟨gMK, by show _ = ((nn : Nat) : Int); omega, gSN, by show _ = (0 : Int); omega⟩ | exact MO.ofk (beh_x (by omega) (Or.inl (by omega))) (by omega) (by omega) (by omega) | exact MO.ofk (beh_x (by omega) (Or.inr (gSN.emp (by omega)))) (by omega) (by omega) (by omega) | exact MO.ofr ((congrArg (behP b N mo q nn) ek1).trans (beh_c (by omega))) (by omega) ⟨gMK, by show _ = ((nn : Nat) : Int); omega, gSN, by show _ = (1 : Int); omega⟩, gMT, gRV⟩)
        · replace hp229_0 := hp229_0.resolve_left (by omega)
          refine r_bipush hx hb dX12_behind_63 (by decide) (fun z255 ez255 => ?_)
          refine lv_goto (tgt := 70) hx hb dX12_behind_65 (by decide) ?_
          obtain ⟨j256, ej256⟩ : ∃ j : Nat, (σ224 387 40).toInt = (j : Int) := ⟨_, ti_nat (by omega)⟩
          refine as_mstack (k := 401) (j := j256) hx hb hK hP hI hR hS (by decide) (by decide) ej256 (by omega) dX12_behind_70 (fun σ257 H257 locs257 u257 v257 hR hP hS => ?_)
          have ua := u257
          have va := v257
          have hF := hF.puts u257 2 rfl (by decide) (by decide) (by omega) (by omega)
          have gMK := gMK.ag (Agr.putV u257 (by intro q hq; simp only [Gd_MK, List.mem_cons, List.not_mem_nil, or_false] at hq; rcases hq with rfl | rfl | rfl <;> dsimp only [inRc] <;> omega))
          have gMT := gMT.ag (Agr.putV u257 (by intro q hq; simp only [Gd_MT, List.mem_cons, List.not_mem_nil, or_false] at hq; rcases hq with rfl | rfl | rfl <;> dsimp only [inRc] <;> omega))
          have t258 : (σ257 387 39).toInt = (σ224 387 39).toInt := congrArg Int32.toInt (u257 387 39 (by omega))
          have t259 : (σ257 387 42).toInt = (σ224 387 42).toInt := congrArg Int32.toInt (u257 387 42 (by omega))
          have t260 : (σ257 387 38).toInt = (σ224 387 38).toInt := congrArg Int32.toInt (u257 387 38 (by omega))
          have t261 : (σ257 387 40).toInt = (σ224 387 40).toInt := congrArg Int32.toInt (u257 387 40 (by omega))
          refine lv_aload_n hx hb dX12_behind_71 rfl (lv_at hl 0 rfl) ?_
          refine lv_dup hx hb dX12_behind_72 rfl ?_
          refine fg_12_40 (k := 387) hx hb hts in_X12_behind_12 hown hK hP (by decide) (by decide) (hts _ lk_X12_behind_434) dX12_behind_73 ?_
          refine r_iconst hx hb dX12_behind_76 (by decide) (fun z262 ez262 => ?_)
          refine r_iadd hx hb dX12_behind_77 (by omega) (fun z263 ez263 => ?_)
          refine fp_12_40 (k := 387) hx hb hts in_X12_behind_12 hown hK hP (by decide) (by decide) (hts _ lk_X12_behind_434) hI hR hS (by omega) dX12_behind_78 (fun σ264 H264 locs264 u264 v264 hR hP hS => ?_)
          have ub := u264
          have vb := v264
          have hF := hF.puts u264 3 rfl (by decide) (by decide) (by decide) (by decide)
          have gMK := gMK.ag (Agr.put u264 (by decide))
          have gMT := gMT.ag (Agr.put u264 (by decide))
          have t265 : (σ264 387 39).toInt = (σ257 387 39).toInt := congrArg Int32.toInt (u264 387 39 (by omega))
          have t266 : (σ264 387 42).toInt = (σ257 387 42).toInt := congrArg Int32.toInt (u264 387 42 (by omega))
          have t267 : (σ264 387 38).toInt = (σ257 387 38).toInt := congrArg Int32.toInt (u264 387 38 (by omega))
          have gSN := SN.push gSN (pnt_pn K) (by omega) (by omega) ua (by omega) ub (by omega)
          refine lv_aload_n hx hb dX12_behind_81 rfl (lv_at hl 0 rfl) ?_
          refine r_iconst hx hb dX12_behind_82 (by decide) (fun z268 ez268 => ?_)
          refine fp_12_42 (k := 387) hx hb hts in_X12_behind_12 hown hK hP (by decide) (by decide) (hts _ lk_X12_behind_449) hI hR hS (by omega) dX12_behind_83 (fun σ269 H269 locs269 u269 v269 hR hP hS => ?_)
          have uc := u269
          have vc := v269
          have hF := hF.puts u269 3 rfl (by decide) (by decide) (by decide) (by decide)
          have gMK := gMK.ag (Agr.put u269 (by decide))
          have gMT := gMT.ag (Agr.put u269 (by decide))
          have gSN := gSN.ag (Agr.put u269 (by decide))
          have t270 : (σ269 387 39).toInt = (σ264 387 39).toInt := congrArg Int32.toInt (u269 387 39 (by omega))
          have t271 : (σ269 387 38).toInt = (σ264 387 38).toInt := congrArg Int32.toInt (u269 387 38 (by omega))
          have t272 : (σ269 387 40).toInt = (σ264 387 40).toInt := congrArg Int32.toInt (u269 387 40 (by omega))
          have gPV := PV.bin gPV (by omega) ua va (by omega) (by omega) ub (by omega) uc (by omega)
          refine lv_aload_n hx hb dX12_behind_86 rfl (lv_at hl 0 rfl) ?_
          refine r_cVv (k := 387) (As := []) (rest := []) ⟨hx, hb, hml, hown, hts⟩ hK hP hN hS (c_X12_next_v l D cA ad hI σ269 τ0 hR _ _ _ _ gMK.mp gMT) (cwV 0 hts gX12_behind_X12_next rfl rfl rfl (by decide +kernel) ⟨by decide, by decide⟩) (rv_M hK hP (by decide) (by decide)) rfl hl.1 rfl (Nat.le_of_ble_eq_true rfl) dX12_behind_87 (Nat.zero_le _) (Nat.zero_le _) (fun u273 H273 locs273 hp273 hP hS => ?_)
          obtain ⟨σ273, τ273⟩ := u273
          obtain ⟨hR, f273, fL273, hp273_0, hp273_1, hp273_2, hp273_3, gnMT⟩ : P_X12_next_v σ269 τ0 _ _ _ _ σ273 τ273 := hp273
          have hP : va_P D vwCl (gw cA ad σ273 τ273) H273 := hP
          have hFL := hFL.step fL273 (by decide)
          have gRV := gRV.agL (AgrL.fr fL273 (by decide))
          have hF := hF.step f273 (by decide)
          have gMT := gMT.ag (Agr.fr f273 (by decide))
          have gPV := PV.fr gPV hR f273 (by decide)
          have gSN := gSN.ag (Agr.fr f273 (by decide))
          have t274 : (σ273 387 39).toInt = (σ269 387 39).toInt := congrArg Int32.toInt (f273.at 387 39 (by decide))
          have t275 : (σ273 387 38).toInt = (σ269 387 38).toInt := congrArg Int32.toInt (f273.at 387 38 (by decide))
          have t276 : (σ273 387 40).toInt = (σ269 387 40).toInt := congrArg Int32.toInt (f273.at 387 40 (by decide))
          have t277 : (σ273 387 42).toInt = (σ269 387 42).toInt := congrArg Int32.toInt (f273.at 387 42 (by decide))
          have gMK := hp273_3
          refine r_iconst hx hb dX12_behind_90 (by decide) (fun z278 ez278 => ?_)
          exact r_zret hx hb hr hK hP hS hk (by omega) dX12_behind_91 (show P_X12_behind σ0 τ0 b N mo q nn K z278 σ273 τ273 from ⟨hR, hF, hFL, by omega, by first | exact Or.inl (by omega) | exact Or.inr gPV, by omega, by omega, by first | (exfalso; omega) | exact MO.ofr (beh_j (by omega)) (by omega) ⟨gMK, by show _ = ((nn : Nat) : Int); omega, gSN, by show _ = (0 : Int); omega⟩ | exact MO.ofk (beh_x (by omega) (Or.inl (by omega))) (by omega) (by omega) (by omega) | exact MO.ofk (beh_x (by omega) (Or.inr (gSN.emp (by omega)))) (by omega) (by omega) (by omega) | exact MO.ofr ((congrArg (behP b N mo q nn) ek1).trans (beh_c (by omega))) (by omega) ⟨gMK, by show _ = ((nn : Nat) : Int); omega, gSN, by show _ = (1 : Int); omega⟩, gMT, gRV⟩)
