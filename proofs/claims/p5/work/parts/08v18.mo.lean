theorem in_X12_rolled_12 : ∀ w ∈ u_ws RX12 TX12 47, w ∈ wsX12_rolled := by decide +kernel
theorem lk_X12_rolled_1 : Cond.fieldLink RX12 1 "CuckooSharesModel" "thrown" "I" ∈ wsX12_rolled := by decide +kernel
theorem lk_X12_rolled_428 : Cond.fieldLink RX12 428 "CuckooSharesModel" "hasRolled" "Z" ∈ wsX12_rolled := by decide +kernel
theorem lk_X12_rolled_68 : Cond.fieldLink RX12 68 "CuckooSharesModel" "rolledAt" "[I" ∈ wsX12_rolled := by decide +kernel
abbrev L_X12_rolled : List Rc := [(387, 387, 0, 0)]
abbrev LL_X12_rolled : List Rc := []
def P_X12_rolled (σ0 : Nat → Nat → Int32) (τ0 : Nat → Nat → Int64) (a1 : Int32) (r : Int32) (σ : Nat → Nat → Int32) (τ : Nat → Nat → Int64) : Prop := Rg σ ∧ Fr L_X12_rolled σ0 σ ∧ FrL LL_X12_rolled τ0 τ
set_option maxHeartbeats 4000000 in
theorem c_X12_rolled (l : Launch) (D : va_G) (cA : Nat → ClassId) (ad : Nat → Nat) (hI : Inj ad) (σ0 : Nat → Nat → Int32) (τ0 : Nat → Nat → Int64) (hR : Rg σ0) (a1 : Int32)  : Met l yX12_rolled wsX12_rolled ({ frames := 1, cells := 0, slots := 0, locals := 22 } : Room) (WQc D cA ad [.ref (ad 387), .int a1] σ0 τ0) (va_Qi (fun (r : Int32) (u : SS) => P_X12_rolled σ0 τ0 a1 r u.1 u.2) (WB D cA ad) (AA ad)) 0 0 (AA ad) := by
  refine Met.ofW (cc := cX12_rolled) (maxL := 2) (ret := (some .int)) (by decide) rfl ?_
  intro p e s m args below meth c s₁ B hml hv
  obtain ⟨rfl, hP, hK, hN⟩ := hv
  have C : Cy p s m _ meth c cX12_rolled 2 wsX12_rolled RX12 D cA ad (some .int) := ⟨B.exec, B.bytes, hml, findClass_of_methodNamed B.named, atoms_spec (ws := wsX12_rolled) B.pre, hK, B.notSynchronized, B.returns, hI, hN⟩
  have hl := lv_entry ([.ref (ad 387), .int a1]) (n := 2) (Nat.le_of_ble_eq_true rfl)
  rw [lg_entry_eq]
  generalize (lg_sl ([.ref (ad 387), .int a1]) ++ List.replicate (2 - (lg_sl ([.ref (ad 387), .int a1])).length) Slot.unset).toArray = ls at hl ⊢
  have hl : lv_has ls 2 [(0, .ref (ad 387)), (1, .int a1)] := hl
  have hS : va_S (AA ad) s.heap s.heap [] := va_S.rf
  have hF : Fr L_X12_rolled σ0 σ0 := Fr.rf
  have hFL : FrL LL_X12_rolled τ0 τ0 := FrL.rf
  obtain ⟨hx, hb, _, hown, hts, _, hk, hr, _, _⟩ := C
  refine lv_aload_n hx hb dX12_rolled_0 rfl (lv_at hl 0 rfl) ?_
  refine r_iconst hx hb dX12_rolled_1 (by decide) (fun z1 ez1 => ?_)
  refine fp_12_0 (k := 387) hx hb hts in_X12_rolled_12 hown hK hP (by decide) (by decide) (hts _ lk_X12_rolled_1) hI hR hS (by omega) dX12_rolled_2 (fun σ2 H2 locs2 u2 v2 hR hP hS => ?_)
  have hF := hF.puts u2 0 rfl (by decide) (by decide) (by decide) (by decide)
  refine lv_aload_n hx hb dX12_rolled_5 rfl (lv_at hl 0 rfl) ?_
  refine fg_12_36 (k := 387) hx hb hts in_X12_rolled_12 hown hK hP (by decide) (by decide) (hts _ lk_X12_rolled_428) dX12_rolled_6 ?_
  have hr3 := rg_12_36 hR (k := 387) (by decide) (by decide)
  refine r_if_eq (tgt := 30) hx hb dX12_rolled_9 (by decide) (fun c4 => ?_) (fun c4 => ?_)
  · refine r_iconst hx hb dX12_rolled_30 (by decide) (fun z5 ez5 => ?_)
    exact r_iret hx hb hr hK hP hS hk dX12_rolled_31 (show P_X12_rolled σ0 τ0 a1 z5 σ2 τ0 from ⟨hR, hF, hFL⟩)
  · refine lv_iload_n hx hb dX12_rolled_12 rfl (lv_at hl 1 rfl) ?_
    refine r_iconst hx hb dX12_rolled_13 (by decide) (fun z6 ez6 => ?_)
    refine r_iconst hx hb dX12_rolled_14 (by decide) (fun z7 ez7 => ?_)
    refine r_cSi (As := [.int a1, .int z6, .int z7]) (rest := []) ⟨hx, hb, hml, hown, hts⟩ hK hP hN hS (c_X12_isIn l D cA ad hI σ2 τ0 hR a1 z6 z7) (va_cwS 3 hts gX12_rolled_X12_isIn rfl rfl rfl (by decide +kernel) ⟨by decide, by decide⟩) rfl hl.1 rfl (Nat.le_of_ble_eq_true rfl) dX12_rolled_15 (Nat.zero_le _) (Nat.zero_le _) (fun r8 u8 H8 locs8 hp8 hP hS => ?_)
    obtain ⟨σ8, τ8⟩ := u8
    obtain ⟨hR, f8, fL8, hq8, hp8_0, hp8_1⟩ : P_X12_isIn σ2 τ0 a1 z6 z7 r8 σ8 τ8 := hp8
    have hP : va_P D vwCl (gw cA ad σ8 τ8) H8 := hP
    obtain rfl := FrL.nil fL8
    obtain rfl := Fr.nil f8
    refine r_if_eq (tgt := 30) hx hb dX12_rolled_18 (by decide) (fun c9 => ?_) (fun c9 => ?_)
    · clear hp8_0
      refine r_iconst hx hb dX12_rolled_30 (by decide) (fun z10 ez10 => ?_)
      exact r_iret hx hb hr hK hP hS hk dX12_rolled_31 (show P_X12_rolled σ0 τ0 a1 z10 σ2 τ0 from ⟨hR, hF, hFL⟩)
    · replace hp8_0 := hp8_0.resolve_left (by omega)
      refine lv_aload_n hx hb dX12_rolled_21 rfl (lv_at hl 0 rfl) ?_
      refine fg_12_35 (k := 387) hx hb hts in_X12_rolled_12 hown hK hP (by decide) (by decide) (hts _ lk_X12_rolled_68) dX12_rolled_22 ?_
      refine lv_iload_n hx hb dX12_rolled_25 rfl (lv_at hl 1 rfl) ?_
      obtain ⟨j11, ej11⟩ : ∃ j : Nat, a1.toInt = (j : Int) := ⟨_, ti_nat (by omega)⟩
      refine ad_mrolled (k := 400) (j := j11) hx hb hK hP (by decide) (by decide) ej11 (by omega) dX12_rolled_26 ?_
      refine lv_goto (tgt := 31) hx hb dX12_rolled_27 (by decide) ?_
      exact r_iret hx hb hr hK hP hS hk dX12_rolled_31 (show P_X12_rolled σ0 τ0 a1 (σ2 400 j11) σ2 τ0 from ⟨hR, hF, hFL⟩)
abbrev L_X12_isSign_s : List Rc := []
abbrev LL_X12_isSign_s : List Rc := []
def P_X12_isSign_s (σ0 : Nat → Nat → Int32) (τ0 : Nat → Nat → Int64) (a1 : Int32) (b : Nat → Int) (N : Nat) (mo : Nat) (q : Nat) (kk : Int) (r : Int32) (σ : Nat → Nat → Int32) (τ : Nat → Nat → Int64) : Prop := Rg σ ∧ Fr L_X12_isSign_s σ0 σ ∧ FrL LL_X12_isSign_s τ0 τ ∧ (0 ≤ r.toInt ∧ r.toInt ≤ 1) ∧ (r.toInt = 0 ∨ (σ0 387 11).toInt = 3) ∧ ((r.toInt = 1 ∧ tkq b N mo q = kk) ∨ (r.toInt = 0 ∧ tkq b N mo q ≠ kk)) ∧ MK σ τ b N mo q
set_option maxHeartbeats 4000000 in
theorem c_X12_isSign_s (l : Launch) (D : va_G) (cA : Nat → ClassId) (ad : Nat → Nat) (hI : Inj ad) (σ0 : Nat → Nat → Int32) (τ0 : Nat → Nat → Int64) (hR : Rg σ0) (a1 : Int32) (b : Nat → Int) (N : Nat) (mo : Nat) (q : Nat) (kk : Int) (ha1 : 40 ≤ a1.toInt ∧ a1.toInt ≤ 41) (hpre0 : (a1.toInt = 40 ∧ kk = 44) ∨ (a1.toInt = 41 ∧ kk = 45)) (gMK0 : MK σ0 τ0 b N mo q) : Met l yX12_isSign wsX12_isSign ({ frames := 0, cells := 0, slots := 0, locals := 0 } : Room) (WQc D cA ad [.ref (ad 387), .int a1] σ0 τ0) (va_Qi (fun (r : Int32) (u : SS) => P_X12_isSign_s σ0 τ0 a1 b N mo q kk r u.1 u.2) (WB D cA ad) (AA ad)) 0 0 (AA ad) := by
  refine Met.ofW (cc := cX12_isSign) (maxL := 2) (ret := (some .boolean)) (by decide) rfl ?_
  intro p e s m args below meth c s₁ B hml hv
  obtain ⟨rfl, hP, hK, hN⟩ := hv
  have C : Cy p s m _ meth c cX12_isSign 2 wsX12_isSign RX12 D cA ad (some .boolean) := ⟨B.exec, B.bytes, hml, findClass_of_methodNamed B.named, atoms_spec (ws := wsX12_isSign) B.pre, hK, B.notSynchronized, B.returns, hI, hN⟩
  have hl := lv_entry ([.ref (ad 387), .int a1]) (n := 2) (Nat.le_of_ble_eq_true rfl)
  rw [lg_entry_eq]
  generalize (lg_sl ([.ref (ad 387), .int a1]) ++ List.replicate (2 - (lg_sl ([.ref (ad 387), .int a1])).length) Slot.unset).toArray = ls at hl ⊢
  have hl : lv_has ls 2 [(0, .ref (ad 387)), (1, .int a1)] := hl
  have hS : va_S (AA ad) s.heap s.heap [] := va_S.rf
  have hF : Fr L_X12_isSign_s σ0 σ0 := Fr.rf
  have hFL : FrL LL_X12_isSign_s τ0 τ0 := FrL.rf
  have gMK := gMK0
  obtain ⟨hx, hb, _, hown, hts, _, hk, hr, _, _⟩ := C
  have hsg := gMK.sgc hpre0
  refine lv_aload_n hx hb dX12_isSign_0 rfl (lv_at hl 0 rfl) ?_
  refine fg_12_11 (k := 387) hx hb hts in_X12_isSign_12 hown hK hP (by decide) (by decide) (hts _ lk_X12_isSign_159) dX12_isSign_1 ?_
  refine r_iconst hx hb dX12_isSign_4 (by decide) (fun z1 ez1 => ?_)
  refine r_icmp_ne (tgt := 20) hx hb dX12_isSign_5 (by decide) (fun c2 => ?_) (fun c2 => ?_)
  · refine r_iconst hx hb dX12_isSign_20 (by decide) (fun z3 ez3 => ?_)
    exact r_zret hx hb hr hK hP hS hk (by omega) dX12_isSign_21 (show P_X12_isSign_s σ0 τ0 a1 b N mo q kk z3 σ0 τ0 from ⟨hR, hF, hFL, by omega, by omega, by omega, gMK⟩)
  · refine lv_aload_n hx hb dX12_isSign_8 rfl (lv_at hl 0 rfl) ?_
    refine fg_12_14 (k := 387) hx hb hts in_X12_isSign_12 hown hK hP (by decide) (by decide) (hts _ lk_X12_isSign_169) dX12_isSign_9 ?_
    refine lv_iload_n hx hb dX12_isSign_12 rfl (lv_at hl 1 rfl) ?_
    refine r_icmp_ne (tgt := 20) hx hb dX12_isSign_13 (by decide) (fun c4 => ?_) (fun c4 => ?_)
    · refine r_iconst hx hb dX12_isSign_20 (by decide) (fun z5 ez5 => ?_)
      exact r_zret hx hb hr hK hP hS hk (by omega) dX12_isSign_21 (show P_X12_isSign_s σ0 τ0 a1 b N mo q kk z5 σ0 τ0 from ⟨hR, hF, hFL, by omega, by omega, by omega, gMK⟩)
    · refine r_iconst hx hb dX12_isSign_16 (by decide) (fun z6 ez6 => ?_)
      refine lv_goto (tgt := 21) hx hb dX12_isSign_17 (by decide) ?_
      exact r_zret hx hb hr hK hP hS hk (by omega) dX12_isSign_21 (show P_X12_isSign_s σ0 τ0 a1 b N mo q kk z6 σ0 τ0 from ⟨hR, hF, hFL, by omega, by omega, by omega, gMK⟩)
theorem in_X12_code_12 : ∀ w ∈ u_ws RX12 TX12 47, w ∈ wsX12_code := by decide +kernel
theorem lk_X12_code_40 : Cond.fieldLink RX12 40 "CuckooSharesModel" "read" "[I" ∈ wsX12_code := by decide +kernel
theorem lk_X12_code_431 : Cond.fieldLink RX12 431 "CuckooSharesModel" "codes" "I" ∈ wsX12_code := by decide +kernel
abbrev L_X12_code : List Rc := [(391, 391, 0, 119), (387, 387, 38, 38)]
abbrev LL_X12_code : List Rc := []
def P_X12_code (σ0 : Nat → Nat → Int32) (τ0 : Nat → Nat → Int64) (a1 : Int32) (a2 : Int32) (a3 : Int32) (σ : Nat → Nat → Int32) (τ : Nat → Nat → Int64) : Prop := Rg σ ∧ Fr L_X12_code σ0 σ ∧ FrL LL_X12_code τ0 τ ∧ (CD σ0 σ a1)
set_option maxHeartbeats 4000000 in
theorem c_X12_code (l : Launch) (D : va_G) (cA : Nat → ClassId) (ad : Nat → Nat) (hI : Inj ad) (σ0 : Nat → Nat → Int32) (τ0 : Nat → Nat → Int64) (hR : Rg σ0) (a1 : Int32) (a2 : Int32) (a3 : Int32) (ha1 : 0 ≤ a1.toInt ∧ a1.toInt ≤ 22) (ha2 : 0 ≤ a2.toInt ∧ a2.toInt ≤ 62) (hpre0 : (σ0 387 38).toInt ≤ 39) : Met l yX12_code wsX12_code ({ frames := 0, cells := 0, slots := 0, locals := 0 } : Room) (WQc D cA ad [.ref (ad 387), .int a1, .int a2, .int a3] σ0 τ0) (va_Qv (fun u : SS => P_X12_code σ0 τ0 a1 a2 a3 u.1 u.2) (WB D cA ad) (AA ad)) 0 0 (AA ad) := by
  refine Met.ofW (cc := cX12_code) (maxL := 4) (ret := none) (by decide) rfl ?_
  intro p e s m args below meth c s₁ B hml hv
  obtain ⟨rfl, hP, hK, hN⟩ := hv
  have C : Cy p s m _ meth c cX12_code 4 wsX12_code RX12 D cA ad none := ⟨B.exec, B.bytes, hml, findClass_of_methodNamed B.named, atoms_spec (ws := wsX12_code) B.pre, hK, B.notSynchronized, B.returns, hI, hN⟩
  have hl := lv_entry ([.ref (ad 387), .int a1, .int a2, .int a3]) (n := 4) (Nat.le_of_ble_eq_true rfl)
  rw [lg_entry_eq]
  generalize (lg_sl ([.ref (ad 387), .int a1, .int a2, .int a3]) ++ List.replicate (4 - (lg_sl ([.ref (ad 387), .int a1, .int a2, .int a3])).length) Slot.unset).toArray = ls at hl ⊢
  have hl : lv_has ls 4 [(0, .ref (ad 387)), (1, .int a1), (2, .int a2), (3, .int a3)] := hl
  have hS : va_S (AA ad) s.heap s.heap [] := va_S.rf
  have hF : Fr L_X12_code σ0 σ0 := Fr.rf
  have hFL : FrL LL_X12_code τ0 τ0 := FrL.rf
  obtain ⟨hx, hb, _, hown, hts, _, hk, hr, _, _⟩ := C
  have hrt38 := rg_12_38 hR (k := 387) (by decide) (by decide)
  refine lv_aload_n hx hb dX12_code_0 rfl (lv_at hl 0 rfl) ?_
  refine fg_12_8 (k := 387) hx hb hts in_X12_code_12 hown hK hP (by decide) (by decide) (hts _ lk_X12_code_40) dX12_code_1 ?_
  refine r_iconst hx hb dX12_code_4 (by decide) (fun z1 ez1 => ?_)
  refine lv_aload_n hx hb dX12_code_5 rfl (lv_at hl 0 rfl) ?_
  refine fg_12_38 (k := 387) hx hb hts in_X12_code_12 hown hK hP (by decide) (by decide) (hts _ lk_X12_code_431) dX12_code_6 ?_
  refine r_imulL (n := 3) hx hb dX12_code_9 (by omega) (by omega) (fun z2 ez2 => ?_)
  refine lv_iload_n hx hb dX12_code_10 rfl (lv_at hl 1 rfl) ?_
  obtain ⟨j3, ej3⟩ : ∃ j : Nat, z2.toInt = (j : Int) := ⟨_, ti_nat (by omega)⟩
  refine as_mread (k := 391) (j := j3) hx hb hK hP hI hR hS (by decide) (by decide) ej3 (by omega) dX12_code_11 (fun σ4 H4 locs4 u4 v4 hR hP hS => ?_)
  have ua := u4
  have va := v4
  have hF := hF.puts u4 0 rfl (by decide) (by decide) (by omega) (by omega)
  have t5 : (σ4 387 38).toInt = (σ0 387 38).toInt := congrArg Int32.toInt (u4 387 38 (by omega))
  refine lv_aload_n hx hb dX12_code_12 rfl (lv_at hl 0 rfl) ?_
  refine fg_12_8 (k := 387) hx hb hts in_X12_code_12 hown hK hP (by decide) (by decide) (hts _ lk_X12_code_40) dX12_code_13 ?_
  refine r_iconst hx hb dX12_code_16 (by decide) (fun z6 ez6 => ?_)
  refine lv_aload_n hx hb dX12_code_17 rfl (lv_at hl 0 rfl) ?_
  refine fg_12_38 (k := 387) hx hb hts in_X12_code_12 hown hK hP (by decide) (by decide) (hts _ lk_X12_code_431) dX12_code_18 ?_
  refine r_imulL (n := 3) hx hb dX12_code_21 (by omega) (by omega) (fun z7 ez7 => ?_)
  refine r_iconst hx hb dX12_code_22 (by decide) (fun z8 ez8 => ?_)
  refine r_iadd hx hb dX12_code_23 (by omega) (fun z9 ez9 => ?_)
  refine lv_iload_n hx hb dX12_code_24 rfl (lv_at hl 2 rfl) ?_
  obtain ⟨j10, ej10⟩ : ∃ j : Nat, z9.toInt = (j : Int) := ⟨_, ti_nat (by omega)⟩
  refine as_mread (k := 391) (j := j10) hx hb hK hP hI hR hS (by decide) (by decide) ej10 (by omega) dX12_code_25 (fun σ11 H11 locs11 u11 v11 hR hP hS => ?_)
  have ub := u11
  have vb := v11
  have hF := hF.puts u11 0 rfl (by decide) (by decide) (by omega) (by omega)
  have t12 : (σ11 387 38).toInt = (σ4 387 38).toInt := congrArg Int32.toInt (u11 387 38 (by omega))
  refine lv_aload_n hx hb dX12_code_26 rfl (lv_at hl 0 rfl) ?_
  refine fg_12_8 (k := 387) hx hb hts in_X12_code_12 hown hK hP (by decide) (by decide) (hts _ lk_X12_code_40) dX12_code_27 ?_
  refine r_iconst hx hb dX12_code_30 (by decide) (fun z13 ez13 => ?_)
  refine lv_aload_n hx hb dX12_code_31 rfl (lv_at hl 0 rfl) ?_
  refine fg_12_38 (k := 387) hx hb hts in_X12_code_12 hown hK hP (by decide) (by decide) (hts _ lk_X12_code_431) dX12_code_32 ?_
  refine r_imulL (n := 3) hx hb dX12_code_35 (by omega) (by omega) (fun z14 ez14 => ?_)
  refine r_iconst hx hb dX12_code_36 (by decide) (fun z15 ez15 => ?_)
  refine r_iadd hx hb dX12_code_37 (by omega) (fun z16 ez16 => ?_)
  refine lv_iload_n hx hb dX12_code_38 rfl (lv_at hl 3 rfl) ?_
  obtain ⟨j17, ej17⟩ : ∃ j : Nat, z16.toInt = (j : Int) := ⟨_, ti_nat (by omega)⟩
  refine as_mread (k := 391) (j := j17) hx hb hK hP hI hR hS (by decide) (by decide) ej17 (by omega) dX12_code_39 (fun σ18 H18 locs18 u18 v18 hR hP hS => ?_)
  have uc := u18
  have vc := v18
  have hF := hF.puts u18 0 rfl (by decide) (by decide) (by omega) (by omega)
  have t19 : (σ18 387 38).toInt = (σ11 387 38).toInt := congrArg Int32.toInt (u18 387 38 (by omega))
  refine lv_aload_n hx hb dX12_code_40 rfl (lv_at hl 0 rfl) ?_
  refine lv_dup hx hb dX12_code_41 rfl ?_
  refine fg_12_38 (k := 387) hx hb hts in_X12_code_12 hown hK hP (by decide) (by decide) (hts _ lk_X12_code_431) dX12_code_42 ?_
  refine r_iconst hx hb dX12_code_45 (by decide) (fun z20 ez20 => ?_)
  refine r_iadd hx hb dX12_code_46 (by omega) (fun z21 ez21 => ?_)
  refine fp_12_38 (k := 387) hx hb hts in_X12_code_12 hown hK hP (by decide) (by decide) (hts _ lk_X12_code_431) hI hR hS (by omega) dX12_code_47 (fun σ22 H22 locs22 u22 v22 hR hP hS => ?_)
  have ud := u22
  have vd := v22
  have hF := hF.puts u22 1 rfl (by decide) (by decide) (by decide) (by decide)
  exact r_vret hx hb hr hK hP hS hk dX12_code_50 (show P_X12_code σ0 τ0 a1 a2 a3 σ22 τ0 from ⟨hR, hF, hFL, CD.of ua va ub uc ud vd (by omega) (by omega) (by omega) (by omega) (by omega)⟩)
theorem in_X12_joins_12 : ∀ w ∈ u_ws RX12 TX12 47, w ∈ wsX12_joins := by decide +kernel
theorem lk_X12_joins_434 : Cond.fieldLink RX12 434 "CuckooSharesModel" "top" "I" ∈ wsX12_joins := by decide +kernel
theorem lk_X12_joins_71 : Cond.fieldLink RX12 71 "CuckooSharesModel" "stack" "[I" ∈ wsX12_joins := by decide +kernel
abbrev L_X12_joins : List Rc := [(387, 387, 40, 40), (391, 391, 0, 119), (387, 387, 38, 38)]
abbrev LL_X12_joins : List Rc := []
def P_X12_joins (σ0 : Nat → Nat → Int32) (τ0 : Nat → Nat → Int64) (a1 : Int32) (K : List Bool) (σ : Nat → Nat → Int32) (τ : Nat → Nat → Int64) : Prop := Rg σ ∧ Fr L_X12_joins σ0 σ ∧ FrL LL_X12_joins τ0 τ ∧ ((σ 387 38).toInt + (σ 387 40).toInt = (σ0 387 38).toInt + (σ0 387 40).toInt) ∧ ((σ 387 40).toInt ≤ (σ0 387 40).toInt) ∧ (∀ t : Nat, (σ 387 40).toInt = (t : Int) + 1 → a1.toInt = 22 → (σ 401 t).toInt ≠ 21 ∧ (σ 401 t).toInt ≠ 22) ∧ ((σ 387 39).toInt = (σ0 387 39).toInt) ∧ PV σ ∧ SN σ K
def J_X12_joins_0 (p : Program) (l : Launch) (e : Env) (s : State) (m : MethodId) (args : Array Value) (below : List Frame) (meth : Method) (c : Code) (D : va_G) (cA : Nat → ClassId) (ad : Nat → Nat) (σ0 : Nat → Nat → Int32) (τ0 : Nat → Nat → Int64) (a1 : Int32) (K : List Bool) (n : Nat) : Prop := ∀ (σ : Nat → Nat → Int32) (τ : Nat → Nat → Int64) (H : Heap) (locs : List Loc)  (ls : Array Slot), Rg σ → Fr L_X12_joins σ0 σ → FrL LL_X12_joins τ0 τ → va_P D vwCl (gw cA ad σ τ) H → va_S (AA ad) s.heap H locs → (0 ≤ (σ 387 42).toInt ∧ (σ 387 42).toInt ≤ 1) → (0 ≤ (σ 387 39).toInt ∧ (σ 387 39).toInt ≤ 20) → (0 ≤ (σ 387 40).toInt ∧ (σ 387 40).toInt ≤ 40) → (0 ≤ (σ 387 38).toInt ∧ (σ 387 38).toInt ≤ 40) → ((σ 387 38).toInt + (σ 387 40).toInt = (σ0 387 38).toInt + (σ0 387 40).toInt) → ((σ 387 40).toInt ≤ (σ0 387 40).toInt) → ((σ 387 42).toInt = 1) → ((σ 387 39).toInt = (σ0 387 39).toInt) → (PV σ) → (SN σ K) → lv_has ls 2 [(0, .ref (ad 387)), (1, .int a1)] → 2 * (σ 387 40).toInt + 1 < (n : Int) → W p l e ({ frames := 1, cells := 0, slots := 0, locals := 23 } : Room) s m args below meth c H locs 0 0 (MQ below (va_Qv (fun u : SS => P_X12_joins σ0 τ0 a1 K u.1 u.2) (WB D cA ad) (AA ad)) args s 0 0 (AA ad)) (F0 m 0 ls [])
set_option maxHeartbeats 4000000 in
theorem B_X12_joins_0 (p : Program) (l : Launch) (e : Env) (s : State) (m : MethodId) (args : Array Value) (below : List Frame) (meth : Method) (c : Code) (D : va_G) (cA : Nat → ClassId) (ad : Nat → Nat) (σ0 : Nat → Nat → Int32) (τ0 : Nat → Nat → Int64) (a1 : Int32) (K : List Bool) (n : Nat) (C : Cy p s m args meth c cX12_joins 2 wsX12_joins RX12 D cA ad none) (ha1 : 21 ≤ a1.toInt ∧ a1.toInt ≤ 22) (hpre0 : (σ0 387 42).toInt = 1) (hpre1 : (σ0 387 38).toInt + (σ0 387 40).toInt ≤ 40) (hpre2 : pnt K = K) (gPV0 : PV σ0) (gSN0 : SN σ0 K) (K0 : J_X12_joins_0 p l e s m args below meth c D cA ad σ0 τ0 a1 K n) : J_X12_joins_0 p l e s m args below meth c D cA ad σ0 τ0 a1 K (n + 1) := by
  obtain ⟨hx, hb, hml, hown, hts, hK, hk, hr, hI, hN⟩ := C
  intro σ τ H locs ls hR hF hFL hP hS hc0 hc1 hc2 hc3 hi0 hi1 hi2 hi3 gPV gSN hl hm
  obtain rfl := FrL.nil hFL
  refine lv_aload_n hx hb dX12_joins_0 rfl (lv_at hl 0 rfl) ?_
  refine fg_12_40 (k := 387) hx hb hts in_X12_joins_12 hown hK hP (by decide) (by decide) (hts _ lk_X12_joins_434) dX12_joins_1 ?_
  refine r_if_le (tgt := 73) hx hb dX12_joins_4 (by decide) (fun c1 => ?_) (fun c1 => ?_)
  · exact r_vret hx hb hr hK hP hS hk dX12_joins_73 (show P_X12_joins σ0 τ0 a1 K σ τ0 from ⟨hR, hF, hFL, by omega, by omega, by intro t h1 h2; first | (exfalso; omega) | (have ej : t = 0 := (by omega); subst ej; omega), by omega, gPV, gSN⟩)
  · refine lv_aload_n hx hb dX12_joins_7 rfl (lv_at hl 0 rfl) ?_
    refine fg_12_37 (k := 387) hx hb hts in_X12_joins_12 hown hK hP (by decide) (by decide) (hts _ lk_X12_joins_71) dX12_joins_8 ?_
    refine lv_aload_n hx hb dX12_joins_11 rfl (lv_at hl 0 rfl) ?_
    refine fg_12_40 (k := 387) hx hb hts in_X12_joins_12 hown hK hP (by decide) (by decide) (hts _ lk_X12_joins_434) dX12_joins_12 ?_
    refine r_iconst hx hb dX12_joins_15 (by decide) (fun z2 ez2 => ?_)
    refine r_isub hx hb dX12_joins_16 (by omega) (fun z3 ez3 => ?_)
    obtain ⟨j4, ej4⟩ : ∃ j : Nat, z3.toInt = (j : Int) := ⟨_, ti_nat (by omega)⟩
    refine ad_mstack (k := 401) (j := j4) hx hb hK hP (by decide) (by decide) ej4 (by omega) dX12_joins_17 ?_
    refine r_bipush hx hb dX12_joins_18 (by decide) (fun z5 ez5 => ?_)
    refine r_icmp_eq (tgt := 45) hx hb dX12_joins_20 (by decide) (fun c6 => ?_) (fun c6 => ?_)
    · refine lv_aload_n hx hb dX12_joins_45 rfl (lv_at hl 0 rfl) ?_
      refine lv_dup hx hb dX12_joins_46 rfl ?_
      refine fg_12_40 (k := 387) hx hb hts in_X12_joins_12 hown hK hP (by decide) (by decide) (hts _ lk_X12_joins_434) dX12_joins_47 ?_
      refine r_iconst hx hb dX12_joins_50 (by decide) (fun z7 ez7 => ?_)
      refine r_isub hx hb dX12_joins_51 (by omega) (fun z8 ez8 => ?_)
      refine fp_12_40 (k := 387) hx hb hts in_X12_joins_12 hown hK hP (by decide) (by decide) (hts _ lk_X12_joins_434) hI hR hS (by omega) dX12_joins_52 (fun σ9 H9 locs9 u9 v9 hR hP hS => ?_)
      have ut := u9
      have vt := v9
      have hF := hF.puts u9 0 rfl (by decide) (by decide) (by decide) (by decide)
      have t10 : (σ9 387 42).toInt = (σ 387 42).toInt := congrArg Int32.toInt (u9 387 42 (by omega))
      have t11 : (σ9 387 39).toInt = (σ 387 39).toInt := congrArg Int32.toInt (u9 387 39 (by omega))
      have t12 : (σ9 387 38).toInt = (σ 387 38).toInt := congrArg Int32.toInt (u9 387 38 (by omega))
      have t13 : (σ9 401 j4).toInt = (σ 401 j4).toInt := congrArg Int32.toInt (u9 401 j4 (by omega))
      have gSN := SN.join (t := j4) gSN (by omega) (by omega) ut (by omega)
      refine lv_aload_n hx hb dX12_joins_55 rfl (lv_at hl 0 rfl) ?_
      refine lv_aload_n hx hb dX12_joins_56 rfl (lv_at hl 0 rfl) ?_
      refine fg_12_37 (k := 387) hx hb hts in_X12_joins_12 hown hK hP (by decide) (by decide) (hts _ lk_X12_joins_71) dX12_joins_57 ?_
      refine lv_aload_n hx hb dX12_joins_60 rfl (lv_at hl 0 rfl) ?_
      refine fg_12_40 (k := 387) hx hb hts in_X12_joins_12 hown hK hP (by decide) (by decide) (hts _ lk_X12_joins_434) dX12_joins_61 ?_
      refine ad_mstack (k := 401) (j := j4) hx hb hK hP (by decide) (by decide) (by omega) (by omega) dX12_joins_64 ?_
      refine r_iconst hx hb dX12_joins_65 (by decide) (fun z14 ez14 => ?_)
      refine r_iconst hx hb dX12_joins_66 (by decide) (fun z15 ez15 => ?_)
      refine r_cVv (k := 387) (As := [.int (σ9 401 j4), .int z14, .int z15]) (rest := []) ⟨hx, hb, hml, hown, hts⟩ hK hP hN hS (c_X12_code l D cA ad hI σ9 τ0 hR (σ9 401 j4) z14 z15 (by omega) (by omega) (by omega)) (cwV 3 hts gX12_joins_X12_code rfl rfl rfl (by decide +kernel) ⟨by decide, by decide⟩) (rv_M hK hP (by decide) (by decide)) rfl hl.1 rfl (Nat.le_of_ble_eq_true rfl) dX12_joins_67 (Nat.zero_le _) (Nat.zero_le _) (fun u16 H16 locs16 hp16 hP hS => ?_)
      obtain ⟨σ16, τ16⟩ := u16
      obtain ⟨hR, f16, fL16, hp16_0⟩ : P_X12_code σ9 τ0 (σ9 401 j4) z14 z15 σ16 τ16 := hp16
      have cd := hp16_0
      have fc := f16
      have hP : va_P D vwCl (gw cA ad σ16 τ16) H16 := hP
      obtain rfl := FrL.nil fL16
      have hF := hF.step f16 (by decide)
      have gSN := gSN.ag (Agr.fr f16 (by decide))
      have t17 : (σ16 387 42).toInt = (σ9 387 42).toInt := congrArg Int32.toInt (f16.at 387 42 (by decide))
      have t18 : (σ16 387 39).toInt = (σ9 387 39).toInt := congrArg Int32.toInt (f16.at 387 39 (by decide))
      have t19 : (σ16 401 j4).toInt = (σ9 401 j4).toInt := congrArg Int32.toInt (f16.atV 401 j4 (by intro q hq; simp only [L_X12_code, List.mem_cons, List.not_mem_nil, or_false] at hq; rcases hq with rfl | rfl <;> dsimp only <;> omega))
      have t20 : (σ16 387 40).toInt = (σ9 387 40).toInt := congrArg Int32.toInt (f16.at 387 40 (by decide))
      have hr21 := rg_12_38 hR (k := 387) (by decide) (by decide)
      have gPV := PV.join (j := j4) gPV (by omega) ut (by omega) (by omega) (by omega) (by omega) cd fc (by decide) (by omega)
      obtain ⟨cc0, hcc1, hcc2, _, _⟩ := id cd
      refine lv_goto (tgt := 0) hx hb dX12_joins_70 (by decide) ?_
      exact K0 σ16 τ0 H16 locs16  ls hR hF hFL hP hS (by omega) (by omega) (by omega) (by omega) (by omega) (by omega) (by omega) (by omega) gPV gSN (lv_sub hl [0, 1] rfl) (by omega)
    · refine lv_aload_n hx hb dX12_joins_23 rfl (lv_at hl 0 rfl) ?_
      refine fg_12_37 (k := 387) hx hb hts in_X12_joins_12 hown hK hP (by decide) (by decide) (hts _ lk_X12_joins_71) dX12_joins_24 ?_
      refine lv_aload_n hx hb dX12_joins_27 rfl (lv_at hl 0 rfl) ?_
      refine fg_12_40 (k := 387) hx hb hts in_X12_joins_12 hown hK hP (by decide) (by decide) (hts _ lk_X12_joins_434) dX12_joins_28 ?_
      refine r_iconst hx hb dX12_joins_31 (by decide) (fun z22 ez22 => ?_)
      refine r_isub hx hb dX12_joins_32 (by omega) (fun z23 ez23 => ?_)
      refine ad_mstack (k := 401) (j := j4) hx hb hK hP (by decide) (by decide) (by omega) (by omega) dX12_joins_33 ?_
      refine r_bipush hx hb dX12_joins_34 (by decide) (fun z24 ez24 => ?_)
      refine r_icmp_ne (tgt := 73) hx hb dX12_joins_36 (by decide) (fun c25 => ?_) (fun c25 => ?_)
      · exact r_vret hx hb hr hK hP hS hk dX12_joins_73 (show P_X12_joins σ0 τ0 a1 K σ τ0 from ⟨hR, hF, hFL, by omega, by omega, by intro t h1 h2; first | (exfalso; omega) | (have ej : t = j4 := (by omega); subst ej; omega), by omega, gPV, gSN⟩)
      · refine lv_iload_n hx hb dX12_joins_39 rfl (lv_at hl 1 rfl) ?_
        refine r_bipush hx hb dX12_joins_40 (by decide) (fun z26 ez26 => ?_)
        refine r_icmp_ne (tgt := 73) hx hb dX12_joins_42 (by decide) (fun c27 => ?_) (fun c27 => ?_)
        · exact r_vret hx hb hr hK hP hS hk dX12_joins_73 (show P_X12_joins σ0 τ0 a1 K σ τ0 from ⟨hR, hF, hFL, by omega, by omega, by intro t h1 h2; first | (exfalso; omega) | (have ej : t = j4 := (by omega); subst ej; omega), by omega, gPV, gSN⟩)
        · refine lv_aload_n hx hb dX12_joins_45 rfl (lv_at hl 0 rfl) ?_
          refine lv_dup hx hb dX12_joins_46 rfl ?_
          refine fg_12_40 (k := 387) hx hb hts in_X12_joins_12 hown hK hP (by decide) (by decide) (hts _ lk_X12_joins_434) dX12_joins_47 ?_
          refine r_iconst hx hb dX12_joins_50 (by decide) (fun z28 ez28 => ?_)
          refine r_isub hx hb dX12_joins_51 (by omega) (fun z29 ez29 => ?_)
          refine fp_12_40 (k := 387) hx hb hts in_X12_joins_12 hown hK hP (by decide) (by decide) (hts _ lk_X12_joins_434) hI hR hS (by omega) dX12_joins_52 (fun σ30 H30 locs30 u30 v30 hR hP hS => ?_)
          have ut := u30
          have vt := v30
          have hF := hF.puts u30 0 rfl (by decide) (by decide) (by decide) (by decide)
          have t31 : (σ30 387 42).toInt = (σ 387 42).toInt := congrArg Int32.toInt (u30 387 42 (by omega))
          have t32 : (σ30 387 39).toInt = (σ 387 39).toInt := congrArg Int32.toInt (u30 387 39 (by omega))
          have t33 : (σ30 387 38).toInt = (σ 387 38).toInt := congrArg Int32.toInt (u30 387 38 (by omega))
          have t34 : (σ30 401 j4).toInt = (σ 401 j4).toInt := congrArg Int32.toInt (u30 401 j4 (by omega))
          have gSN := SN.join (t := j4) gSN (by omega) (by omega) ut (by omega)
          refine lv_aload_n hx hb dX12_joins_55 rfl (lv_at hl 0 rfl) ?_
          refine lv_aload_n hx hb dX12_joins_56 rfl (lv_at hl 0 rfl) ?_
          refine fg_12_37 (k := 387) hx hb hts in_X12_joins_12 hown hK hP (by decide) (by decide) (hts _ lk_X12_joins_71) dX12_joins_57 ?_
          refine lv_aload_n hx hb dX12_joins_60 rfl (lv_at hl 0 rfl) ?_
          refine fg_12_40 (k := 387) hx hb hts in_X12_joins_12 hown hK hP (by decide) (by decide) (hts _ lk_X12_joins_434) dX12_joins_61 ?_
          refine ad_mstack (k := 401) (j := j4) hx hb hK hP (by decide) (by decide) (by omega) (by omega) dX12_joins_64 ?_
          refine r_iconst hx hb dX12_joins_65 (by decide) (fun z35 ez35 => ?_)
          refine r_iconst hx hb dX12_joins_66 (by decide) (fun z36 ez36 => ?_)
          refine r_cVv (k := 387) (As := [.int (σ30 401 j4), .int z35, .int z36]) (rest := []) ⟨hx, hb, hml, hown, hts⟩ hK hP hN hS (c_X12_code l D cA ad hI σ30 τ0 hR (σ30 401 j4) z35 z36 (by omega) (by omega) (by omega)) (cwV 3 hts gX12_joins_X12_code rfl rfl rfl (by decide +kernel) ⟨by decide, by decide⟩) (rv_M hK hP (by decide) (by decide)) rfl hl.1 rfl (Nat.le_of_ble_eq_true rfl) dX12_joins_67 (Nat.zero_le _) (Nat.zero_le _) (fun u37 H37 locs37 hp37 hP hS => ?_)
          obtain ⟨σ37, τ37⟩ := u37
          obtain ⟨hR, f37, fL37, hp37_0⟩ : P_X12_code σ30 τ0 (σ30 401 j4) z35 z36 σ37 τ37 := hp37
          have cd := hp37_0
          have fc := f37
          have hP : va_P D vwCl (gw cA ad σ37 τ37) H37 := hP
          obtain rfl := FrL.nil fL37
          have hF := hF.step f37 (by decide)
          have gSN := gSN.ag (Agr.fr f37 (by decide))
          have t38 : (σ37 387 42).toInt = (σ30 387 42).toInt := congrArg Int32.toInt (f37.at 387 42 (by decide))
          have t39 : (σ37 387 39).toInt = (σ30 387 39).toInt := congrArg Int32.toInt (f37.at 387 39 (by decide))
          have t40 : (σ37 401 j4).toInt = (σ30 401 j4).toInt := congrArg Int32.toInt (f37.atV 401 j4 (by intro q hq; simp only [L_X12_code, List.mem_cons, List.not_mem_nil, or_false] at hq; rcases hq with rfl | rfl <;> dsimp only <;> omega))
          have t41 : (σ37 387 40).toInt = (σ30 387 40).toInt := congrArg Int32.toInt (f37.at 387 40 (by decide))
          have hr42 := rg_12_38 hR (k := 387) (by decide) (by decide)
          have gPV := PV.join (j := j4) gPV (by omega) ut (by omega) (by omega) (by omega) (by omega) cd fc (by decide) (by omega)
          obtain ⟨cc0, hcc1, hcc2, _, _⟩ := id cd
          refine lv_goto (tgt := 0) hx hb dX12_joins_70 (by decide) ?_
          exact K0 σ37 τ0 H37 locs37  ls hR hF hFL hP hS (by omega) (by omega) (by omega) (by omega) (by omega) (by omega) (by omega) (by omega) gPV gSN (lv_sub hl [0, 1] rfl) (by omega)
theorem A_X12_joins (p : Program) (l : Launch) (e : Env) (s : State) (m : MethodId) (args : Array Value) (below : List Frame) (meth : Method) (c : Code) (D : va_G) (cA : Nat → ClassId) (ad : Nat → Nat) (σ0 : Nat → Nat → Int32) (τ0 : Nat → Nat → Int64) (a1 : Int32) (K : List Bool) (C : Cy p s m args meth c cX12_joins 2 wsX12_joins RX12 D cA ad none) (ha1 : 21 ≤ a1.toInt ∧ a1.toInt ≤ 22) (hpre0 : (σ0 387 42).toInt = 1) (hpre1 : (σ0 387 38).toInt + (σ0 387 40).toInt ≤ 40) (hpre2 : pnt K = K) (gPV0 : PV σ0) (gSN0 : SN σ0 K) : ∀ n : Nat, J_X12_joins_0 p l e s m args below meth c D cA ad σ0 τ0 a1 K n := by
  intro n
  induction n with
  | zero =>
    exact (by intro σ τ H locs ls hR hF hFL hP hS hc0 hc1 hc2 hc3 hi0 hi1 hi2 hi3 gPV gSN hl hm; exfalso; omega)
  | succ n ih =>
    exact B_X12_joins_0 p l e s m args below meth c D cA ad σ0 τ0 a1 K n C ha1 hpre0 hpre1 hpre2 gPV0 gSN0 ih
set_option maxHeartbeats 4000000 in
theorem c_X12_joins (l : Launch) (D : va_G) (cA : Nat → ClassId) (ad : Nat → Nat) (hI : Inj ad) (σ0 : Nat → Nat → Int32) (τ0 : Nat → Nat → Int64) (hR : Rg σ0) (a1 : Int32) (K : List Bool) (ha1 : 21 ≤ a1.toInt ∧ a1.toInt ≤ 22) (hpre0 : (σ0 387 42).toInt = 1) (hpre1 : (σ0 387 38).toInt + (σ0 387 40).toInt ≤ 40) (hpre2 : pnt K = K) (gPV0 : PV σ0) (gSN0 : SN σ0 K) : Met l yX12_joins wsX12_joins ({ frames := 1, cells := 0, slots := 0, locals := 23 } : Room) (WQc D cA ad [.ref (ad 387), .int a1] σ0 τ0) (va_Qv (fun u : SS => P_X12_joins σ0 τ0 a1 K u.1 u.2) (WB D cA ad) (AA ad)) 0 0 (AA ad) := by
  refine Met.ofW (cc := cX12_joins) (maxL := 2) (ret := none) (by decide) rfl ?_
  intro p e s m args below meth c s₁ B hml hv
  obtain ⟨rfl, hP, hK, hN⟩ := hv
  have C : Cy p s m _ meth c cX12_joins 2 wsX12_joins RX12 D cA ad none := ⟨B.exec, B.bytes, hml, findClass_of_methodNamed B.named, atoms_spec (ws := wsX12_joins) B.pre, hK, B.notSynchronized, B.returns, hI, hN⟩
  have hl := lv_entry ([.ref (ad 387), .int a1]) (n := 2) (Nat.le_of_ble_eq_true rfl)
  rw [lg_entry_eq]
  generalize (lg_sl ([.ref (ad 387), .int a1]) ++ List.replicate (2 - (lg_sl ([.ref (ad 387), .int a1])).length) Slot.unset).toArray = ls at hl ⊢
  have hl : lv_has ls 2 [(0, .ref (ad 387)), (1, .int a1)] := hl
  have hS : va_S (AA ad) s.heap s.heap [] := va_S.rf
  have hF : Fr L_X12_joins σ0 σ0 := Fr.rf
  have hFL : FrL LL_X12_joins τ0 τ0 := FrL.rf
  have gPV := gPV0
  have gSN := gSN0
  have hA := A_X12_joins p l e s m _ below meth c D cA ad σ0 τ0 a1 K C ha1 hpre0 hpre1 hpre2 gPV0 gSN0 170
  have K0 := hA
  clear hA
  obtain ⟨hx, hb, _, hown, hts, _, hk, hr, _, _⟩ := C
  have hrt38 := rg_12_38 hR (k := 387) (by decide) (by decide)
  have hrt40 := rg_12_40 hR (k := 387) (by decide) (by decide)
  have hrt42 := rg_12_42 hR (k := 387) (by decide) (by decide)
  have hrt39 := rg_12_39 hR (k := 387) (by decide) (by decide)
  exact K0 σ0 τ0 s.heap []  ls hR hF hFL hP hS (by omega) (by omega) (by omega) (by omega) (by omega) (by omega) (by omega) (by omega) gPV gSN (lv_sub hl [0, 1] rfl) (by omega)
theorem in_X12_nots_12 : ∀ w ∈ u_ws RX12 TX12 47, w ∈ wsX12_nots := by decide +kernel
theorem lk_X12_nots_434 : Cond.fieldLink RX12 434 "CuckooSharesModel" "top" "I" ∈ wsX12_nots := by decide +kernel
theorem lk_X12_nots_440 : Cond.fieldLink RX12 440 "CuckooSharesModel" "deep" "I" ∈ wsX12_nots := by decide +kernel
theorem lk_X12_nots_71 : Cond.fieldLink RX12 71 "CuckooSharesModel" "stack" "[I" ∈ wsX12_nots := by decide +kernel
abbrev L_X12_nots : List Rc := [(387, 387, 40, 41), (391, 391, 0, 119), (387, 387, 38, 38)]
abbrev LL_X12_nots : List Rc := []
def P_X12_nots (σ0 : Nat → Nat → Int32) (τ0 : Nat → Nat → Int64) (K : List Bool) (σ : Nat → Nat → Int32) (τ : Nat → Nat → Int64) : Prop := Rg σ ∧ Fr L_X12_nots σ0 σ ∧ FrL LL_X12_nots τ0 τ ∧ ((σ 387 38).toInt + (σ 387 40).toInt = (σ0 387 38).toInt + (σ0 387 40).toInt) ∧ ((σ 387 40).toInt ≤ (σ0 387 40).toInt) ∧ (SN σ (pnt K)) ∧ ((σ 387 39).toInt = (σ0 387 39).toInt) ∧ PV σ
def J_X12_nots_0 (p : Program) (l : Launch) (e : Env) (s : State) (m : MethodId) (args : Array Value) (below : List Frame) (meth : Method) (c : Code) (D : va_G) (cA : Nat → ClassId) (ad : Nat → Nat) (σ0 : Nat → Nat → Int32) (τ0 : Nat → Nat → Int64) (K : List Bool) (n : Nat) : Prop := ∀ (σ : Nat → Nat → Int32) (τ : Nat → Nat → Int64) (H : Heap) (locs : List Loc) (K1 : List Bool) (ls : Array Slot), Rg σ → Fr L_X12_nots σ0 σ → FrL LL_X12_nots τ0 τ → va_P D vwCl (gw cA ad σ τ) H → va_S (AA ad) s.heap H locs → (0 ≤ (σ 387 42).toInt ∧ (σ 387 42).toInt ≤ 1) → (0 ≤ (σ 387 39).toInt ∧ (σ 387 39).toInt ≤ 20) → (0 ≤ (σ 387 40).toInt ∧ (σ 387 40).toInt ≤ 40) → (0 ≤ (σ 387 38).toInt ∧ (σ 387 38).toInt ≤ 40) → ((σ 387 38).toInt + (σ 387 40).toInt = (σ0 387 38).toInt + (σ0 387 40).toInt) → ((σ 387 40).toInt ≤ (σ0 387 40).toInt) → ((σ 387 42).toInt = 1) → (pnt K1 = pnt K) → ((σ 387 39).toInt = (σ0 387 39).toInt) → (PV σ) → (SN σ K1) → lv_has ls 1 [(0, .ref (ad 387))] → 2 * (σ 387 40).toInt + 1 < (n : Int) → W p l e ({ frames := 1, cells := 0, slots := 0, locals := 23 } : Room) s m args below meth c H locs 0 0 (MQ below (va_Qv (fun u : SS => P_X12_nots σ0 τ0 K u.1 u.2) (WB D cA ad) (AA ad)) args s 0 0 (AA ad)) (F0 m 0 ls [])
set_option maxHeartbeats 4000000 in
theorem B_X12_nots_0 (p : Program) (l : Launch) (e : Env) (s : State) (m : MethodId) (args : Array Value) (below : List Frame) (meth : Method) (c : Code) (D : va_G) (cA : Nat → ClassId) (ad : Nat → Nat) (σ0 : Nat → Nat → Int32) (τ0 : Nat → Nat → Int64) (K : List Bool) (n : Nat) (C : Cy p s m args meth c cX12_nots 1 wsX12_nots RX12 D cA ad none) (hpre0 : (σ0 387 42).toInt = 1) (hpre1 : (σ0 387 38).toInt + (σ0 387 40).toInt ≤ 40) (gPV0 : PV σ0) (gSN0 : SN σ0 K) (K0 : J_X12_nots_0 p l e s m args below meth c D cA ad σ0 τ0 K n) : J_X12_nots_0 p l e s m args below meth c D cA ad σ0 τ0 K (n + 1) := by
  obtain ⟨hx, hb, hml, hown, hts, hK, hk, hr, hI, hN⟩ := C
  intro σ τ H locs K1 ls hR hF hFL hP hS hc0 hc1 hc2 hc3 hi0 hi1 hi2 ikp i39 gPV gSN hl hm
  obtain rfl := FrL.nil hFL
  refine lv_aload_n hx hb dX12_nots_0 rfl (lv_at hl 0 rfl) ?_
  refine fg_12_40 (k := 387) hx hb hts in_X12_nots_12 hown hK hP (by decide) (by decide) (hts _ lk_X12_nots_434) dX12_nots_1 ?_
  refine r_if_le (tgt := 54) hx hb dX12_nots_4 (by decide) (fun c1 => ?_) (fun c1 => ?_)
  · exact r_vret hx hb hr hK hP hS hk dX12_nots_54 (show P_X12_nots σ0 τ0 K σ τ0 from ⟨hR, hF, hFL, by omega, by omega, by rw [← ikp, SN.pn gSN (fun t h1 => by first | (exfalso; omega) | (rw [show t = 0 by omega]; omega))]; exact gSN, by omega, gPV⟩)
  · refine lv_aload_n hx hb dX12_nots_7 rfl (lv_at hl 0 rfl) ?_
    refine fg_12_37 (k := 387) hx hb hts in_X12_nots_12 hown hK hP (by decide) (by decide) (hts _ lk_X12_nots_71) dX12_nots_8 ?_
    refine lv_aload_n hx hb dX12_nots_11 rfl (lv_at hl 0 rfl) ?_
    refine fg_12_40 (k := 387) hx hb hts in_X12_nots_12 hown hK hP (by decide) (by decide) (hts _ lk_X12_nots_434) dX12_nots_12 ?_
    refine r_iconst hx hb dX12_nots_15 (by decide) (fun z2 ez2 => ?_)
    refine r_isub hx hb dX12_nots_16 (by omega) (fun z3 ez3 => ?_)
    obtain ⟨j4, ej4⟩ : ∃ j : Nat, z3.toInt = (j : Int) := ⟨_, ti_nat (by omega)⟩
    refine ad_mstack (k := 401) (j := j4) hx hb hK hP (by decide) (by decide) ej4 (by omega) dX12_nots_17 ?_
    refine r_bipush hx hb dX12_nots_18 (by decide) (fun z5 ez5 => ?_)
    refine r_icmp_ne (tgt := 54) hx hb dX12_nots_20 (by decide) (fun c6 => ?_) (fun c6 => ?_)
    · exact r_vret hx hb hr hK hP hS hk dX12_nots_54 (show P_X12_nots σ0 τ0 K σ τ0 from ⟨hR, hF, hFL, by omega, by omega, by rw [← ikp, SN.pn gSN (fun t h1 => by first | (exfalso; omega) | (rw [show t = j4 by omega]; omega))]; exact gSN, by omega, gPV⟩)
    · refine lv_aload_n hx hb dX12_nots_23 rfl (lv_at hl 0 rfl) ?_
      refine lv_dup hx hb dX12_nots_24 rfl ?_
      refine fg_12_40 (k := 387) hx hb hts in_X12_nots_12 hown hK hP (by decide) (by decide) (hts _ lk_X12_nots_434) dX12_nots_25 ?_
      refine r_iconst hx hb dX12_nots_28 (by decide) (fun z7 ez7 => ?_)
      refine r_isub hx hb dX12_nots_29 (by omega) (fun z8 ez8 => ?_)
      refine fp_12_40 (k := 387) hx hb hts in_X12_nots_12 hown hK hP (by decide) (by decide) (hts _ lk_X12_nots_434) hI hR hS (by omega) dX12_nots_30 (fun σ9 H9 locs9 u9 v9 hR hP hS => ?_)
      have ut := u9
      have vt := v9
      have hF := hF.puts u9 0 rfl (by decide) (by decide) (by decide) (by decide)
      have t10 : (σ9 387 42).toInt = (σ 387 42).toInt := congrArg Int32.toInt (u9 387 42 (by omega))
      have t11 : (σ9 387 39).toInt = (σ 387 39).toInt := congrArg Int32.toInt (u9 387 39 (by omega))
      have t12 : (σ9 387 38).toInt = (σ 387 38).toInt := congrArg Int32.toInt (u9 387 38 (by omega))
      have t13 : (σ9 401 j4).toInt = (σ 401 j4).toInt := congrArg Int32.toInt (u9 401 j4 (by omega))
      refine lv_aload_n hx hb dX12_nots_33 rfl (lv_at hl 0 rfl) ?_
      refine lv_dup hx hb dX12_nots_34 rfl ?_
      refine fg_12_41 (k := 387) hx hb hts in_X12_nots_12 hown hK hP (by decide) (by decide) (hts _ lk_X12_nots_440) dX12_nots_35 ?_
      have hdl := SN.dl gSN
      have hd9 := congrArg Int32.toInt (ut 387 41 (by omega))
      refine r_iconst hx hb dX12_nots_38 (by decide) (fun z14 ez14 => ?_)
      refine r_isub hx hb dX12_nots_39 (by omega) (fun z15 ez15 => ?_)
      refine fp_12_41 (k := 387) hx hb hts in_X12_nots_12 hown hK hP (by decide) (by decide) (hts _ lk_X12_nots_440) hI hR hS dX12_nots_40 (fun σ16 H16 locs16 u16 v16 hR hP hS => ?_)
      have ue := u16
      have ve := v16
      have hF := hF.puts u16 0 rfl (by decide) (by decide) (by decide) (by decide)
      have t17 : (σ16 387 42).toInt = (σ9 387 42).toInt := congrArg Int32.toInt (u16 387 42 (by omega))
      have t18 : (σ16 387 39).toInt = (σ9 387 39).toInt := congrArg Int32.toInt (u16 387 39 (by omega))
      have t19 : (σ16 387 38).toInt = (σ9 387 38).toInt := congrArg Int32.toInt (u16 387 38 (by omega))
      have t20 : (σ16 401 j4).toInt = (σ9 401 j4).toInt := congrArg Int32.toInt (u16 401 j4 (by omega))
      have t21 : (σ16 387 40).toInt = (σ9 387 40).toInt := congrArg Int32.toInt (u16 387 40 (by omega))
      obtain ⟨K2, ek2, gSN⟩ := SN.nots (t := j4) gSN (by omega) (by omega) ut (by omega) ue (by omega)
      refine lv_aload_n hx hb dX12_nots_43 rfl (lv_at hl 0 rfl) ?_
      refine r_bipush hx hb dX12_nots_44 (by decide) (fun z22 ez22 => ?_)
      refine r_iconst hx hb dX12_nots_46 (by decide) (fun z23 ez23 => ?_)
      refine r_iconst hx hb dX12_nots_47 (by decide) (fun z24 ez24 => ?_)
      refine r_cVv (k := 387) (As := [.int z22, .int z23, .int z24]) (rest := []) ⟨hx, hb, hml, hown, hts⟩ hK hP hN hS (c_X12_code l D cA ad hI σ16 τ0 hR z22 z23 z24 (by omega) (by omega) (by omega)) (cwV 3 hts gX12_nots_X12_code rfl rfl rfl (by decide +kernel) ⟨by decide, by decide⟩) (rv_M hK hP (by decide) (by decide)) rfl hl.1 rfl (Nat.le_of_ble_eq_true rfl) dX12_nots_48 (Nat.zero_le _) (Nat.zero_le _) (fun u25 H25 locs25 hp25 hP hS => ?_)
      obtain ⟨σ25, τ25⟩ := u25
      obtain ⟨hR, f25, fL25, hp25_0⟩ : P_X12_code σ16 τ0 z22 z23 z24 σ25 τ25 := hp25
      have cd := hp25_0
      have fc := f25
      have hP : va_P D vwCl (gw cA ad σ25 τ25) H25 := hP
      obtain rfl := FrL.nil fL25
      have hF := hF.step f25 (by decide)
      have gSN := gSN.ag (Agr.fr f25 (by decide))
      have t26 : (σ25 387 42).toInt = (σ16 387 42).toInt := congrArg Int32.toInt (f25.at 387 42 (by decide))
      have t27 : (σ25 387 39).toInt = (σ16 387 39).toInt := congrArg Int32.toInt (f25.at 387 39 (by decide))
      have t28 : (σ25 401 j4).toInt = (σ16 401 j4).toInt := congrArg Int32.toInt (f25.atV 401 j4 (by intro q hq; simp only [L_X12_code, List.mem_cons, List.not_mem_nil, or_false] at hq; rcases hq with rfl | rfl <;> dsimp only <;> omega))
      have t29 : (σ25 387 40).toInt = (σ16 387 40).toInt := congrArg Int32.toInt (f25.at 387 40 (by decide))
      have hr30 := rg_12_38 hR (k := 387) (by decide) (by decide)
      have gPV := PV.nott (j := j4) gPV (by omega) ut (by omega) ue (by omega) (by omega) (by omega) cd fc (by decide) (by omega)
      obtain ⟨cc0, hcc1, hcc2, _, _⟩ := id cd
      refine lv_goto (tgt := 0) hx hb dX12_nots_51 (by decide) ?_
      exact K0 σ25 τ0 H25 locs25 K2 ls hR hF hFL hP hS (by omega) (by omega) (by omega) (by omega) (by omega) (by omega) (by omega) (by first | rfl | exact ek2.trans ikp) (by omega) gPV gSN (lv_sub hl [0] rfl) (by omega)
theorem A_X12_nots (p : Program) (l : Launch) (e : Env) (s : State) (m : MethodId) (args : Array Value) (below : List Frame) (meth : Method) (c : Code) (D : va_G) (cA : Nat → ClassId) (ad : Nat → Nat) (σ0 : Nat → Nat → Int32) (τ0 : Nat → Nat → Int64) (K : List Bool) (C : Cy p s m args meth c cX12_nots 1 wsX12_nots RX12 D cA ad none) (hpre0 : (σ0 387 42).toInt = 1) (hpre1 : (σ0 387 38).toInt + (σ0 387 40).toInt ≤ 40) (gPV0 : PV σ0) (gSN0 : SN σ0 K) : ∀ n : Nat, J_X12_nots_0 p l e s m args below meth c D cA ad σ0 τ0 K n := by
  intro n
  induction n with
  | zero =>
    exact (by intro σ τ H locs K1 ls hR hF hFL hP hS hc0 hc1 hc2 hc3 hi0 hi1 hi2 ikp i39 gPV gSN hl hm; exfalso; omega)
  | succ n ih =>
    exact B_X12_nots_0 p l e s m args below meth c D cA ad σ0 τ0 K n C hpre0 hpre1 gPV0 gSN0 ih
set_option maxHeartbeats 4000000 in
theorem c_X12_nots (l : Launch) (D : va_G) (cA : Nat → ClassId) (ad : Nat → Nat) (hI : Inj ad) (σ0 : Nat → Nat → Int32) (τ0 : Nat → Nat → Int64) (hR : Rg σ0) (K : List Bool) (hpre0 : (σ0 387 42).toInt = 1) (hpre1 : (σ0 387 38).toInt + (σ0 387 40).toInt ≤ 40) (gPV0 : PV σ0) (gSN0 : SN σ0 K) : Met l yX12_nots wsX12_nots ({ frames := 1, cells := 0, slots := 0, locals := 23 } : Room) (WQc D cA ad [.ref (ad 387)] σ0 τ0) (va_Qv (fun u : SS => P_X12_nots σ0 τ0 K u.1 u.2) (WB D cA ad) (AA ad)) 0 0 (AA ad) := by
  refine Met.ofW (cc := cX12_nots) (maxL := 1) (ret := none) (by decide) rfl ?_
  intro p e s m args below meth c s₁ B hml hv
  obtain ⟨rfl, hP, hK, hN⟩ := hv
  have C : Cy p s m _ meth c cX12_nots 1 wsX12_nots RX12 D cA ad none := ⟨B.exec, B.bytes, hml, findClass_of_methodNamed B.named, atoms_spec (ws := wsX12_nots) B.pre, hK, B.notSynchronized, B.returns, hI, hN⟩
  have hl := lv_entry ([.ref (ad 387)]) (n := 1) (Nat.le_of_ble_eq_true rfl)
  rw [lg_entry_eq]
  generalize (lg_sl ([.ref (ad 387)]) ++ List.replicate (1 - (lg_sl ([.ref (ad 387)])).length) Slot.unset).toArray = ls at hl ⊢
  have hl : lv_has ls 1 [(0, .ref (ad 387))] := hl
  have hS : va_S (AA ad) s.heap s.heap [] := va_S.rf
  have hF : Fr L_X12_nots σ0 σ0 := Fr.rf
  have hFL : FrL LL_X12_nots τ0 τ0 := FrL.rf
  have gPV := gPV0
  have gSN := gSN0
  have hA := A_X12_nots p l e s m _ below meth c D cA ad σ0 τ0 K C hpre0 hpre1 gPV0 gSN0 170
  have K0 := hA
  clear hA
  obtain ⟨hx, hb, _, hown, hts, _, hk, hr, _, _⟩ := C
  have hrt38 := rg_12_38 hR (k := 387) (by decide) (by decide)
  have hrt40 := rg_12_40 hR (k := 387) (by decide) (by decide)
  have hrt42 := rg_12_42 hR (k := 387) (by decide) (by decide)
  have hrt39 := rg_12_39 hR (k := 387) (by decide) (by decide)
  exact K0 σ0 τ0 s.heap [] K ls hR hF hFL hP hS (by omega) (by omega) (by omega) (by omega) (by omega) (by omega) (by omega) (by first | rfl | exact ek2.trans ikp) (by omega) gPV gSN (lv_sub hl [0] rfl) (by omega)
theorem in_X12_behind_12 : ∀ w ∈ u_ws RX12 TX12 47, w ∈ wsX12_behind := by decide +kernel
theorem lk_X12_behind_127 : Cond.constantLong RX12 127 (28530) ∈ wsX12_behind := by decide +kernel
theorem lk_X12_behind_129 : Cond.constantLong RX12 129 (6385252) ∈ wsX12_behind := by decide +kernel
theorem lk_X12_behind_434 : Cond.fieldLink RX12 434 "CuckooSharesModel" "top" "I" ∈ wsX12_behind := by decide +kernel
theorem lk_X12_behind_440 : Cond.fieldLink RX12 440 "CuckooSharesModel" "deep" "I" ∈ wsX12_behind := by decide +kernel
theorem lk_X12_behind_449 : Cond.fieldLink RX12 449 "CuckooSharesModel" "isWhole" "Z" ∈ wsX12_behind := by decide +kernel
theorem lk_X12_behind_71 : Cond.fieldLink RX12 71 "CuckooSharesModel" "stack" "[I" ∈ wsX12_behind := by decide +kernel
abbrev L_X12_behind : List Rc := [(391, 391, 0, 119), (387, 387, 38, 38), (401, 401, 0, 40), (387, 387, 40, 42), (387, 387, 4, 4), (387, 387, 11, 16)]
abbrev LL_X12_behind : List Rc := [(387, 387, 17, 17)]
def P_X12_behind (σ0 : Nat → Nat → Int32) (τ0 : Nat → Nat → Int64) (b : Nat → Int) (N : Nat) (mo : Nat) (q : Nat) (nn : Nat) (K : List Bool) (r : Int32) (σ : Nat → Nat → Int32) (τ : Nat → Nat → Int64) : Prop := Rg σ ∧ Fr L_X12_behind σ0 σ ∧ FrL LL_X12_behind τ0 τ ∧ (0 ≤ r.toInt ∧ r.toInt ≤ 1) ∧ (r.toInt = 0 ∨ PV σ) ∧ (r.toInt = 0 ∨ (σ 387 38).toInt + (σ 387 40).toInt + (σ 387 42).toInt ≤ 2 * (σ 387 39).toInt) ∧ (r.toInt = 0 ∨ 2 * (σ 387 40).toInt + 3 * (σ 387 42).toInt < 2 * (σ0 387 40).toInt + 3) ∧ (MO r σ (behP b N mo q nn (pnt K)) (MS σ τ b N mo)) ∧ (r.toInt = 0 ∨ (σ 387 15).toInt = (σ0 387 15).toInt) ∧ MT σ b N mo ∧ RV τ 
set_option maxHeartbeats 4000000 in
theorem c_X12_behind (l : Launch) (D : va_G) (cA : Nat → ClassId) (ad : Nat → Nat) (hI : Inj ad) (σ0 : Nat → Nat → Int32) (τ0 : Nat → Nat → Int64) (hR : Rg σ0) (b : Nat → Int) (N : Nat) (mo : Nat) (q : Nat) (nn : Nat) (K : List Bool) (hpre0 : (σ0 387 42).toInt = 1) (hpre1 : (σ0 387 38).toInt + (σ0 387 40).toInt + 1 ≤ 2 * (σ0 387 39).toInt) (hpre2 : (σ0 387 39).toInt = (nn : Int)) (hpre3 : tkq b N mo q ≠ 48) (gPV0 : PV σ0) (gMT0 : MT σ0 b N mo) (gMK0 : MK σ0 τ0 b N mo q) (gRV0 : RV τ0 ) (gSN0 : SN σ0 K) : Met l yX12_behind wsX12_behind ({ frames := 2, cells := 0, slots := 0, locals := 44 } : Room) (WQc D cA ad [.ref (ad 387)] σ0 τ0) (va_Qi (fun (r : Int32) (u : SS) => P_X12_behind σ0 τ0 b N mo q nn K r u.1 u.2) (WB D cA ad) (AA ad)) 0 0 (AA ad) := by
  refine Met.ofW (cc := cX12_behind) (maxL := 1) (ret := (some .boolean)) (by decide) rfl ?_
  intro p e s m args below meth c s₁ B hml hv
  obtain ⟨rfl, hP, hK, hN⟩ := hv
  have C : Cy p s m _ meth c cX12_behind 1 wsX12_behind RX12 D cA ad (some .boolean) := ⟨B.exec, B.bytes, hml, findClass_of_methodNamed B.named, atoms_spec (ws := wsX12_behind) B.pre, hK, B.notSynchronized, B.returns, hI, hN⟩
  have hl := lv_entry ([.ref (ad 387)]) (n := 1) (Nat.le_of_ble_eq_true rfl)
  rw [lg_entry_eq]
  generalize (lg_sl ([.ref (ad 387)]) ++ List.replicate (1 - (lg_sl ([.ref (ad 387)])).length) Slot.unset).toArray = ls at hl ⊢
  have hl : lv_has ls 1 [(0, .ref (ad 387))] := hl
  have hS : va_S (AA ad) s.heap s.heap [] := va_S.rf
  have hF : Fr L_X12_behind σ0 σ0 := Fr.rf
  have hFL : FrL LL_X12_behind τ0 τ0 := FrL.rf
  have gPV := gPV0
  have gMT := gMT0
  have gMK := gMK0
  have gRV := gRV0
  have gSN := gSN0
  obtain ⟨hx, hb, _, hown, hts, _, hk, hr, _, _⟩ := C
  have hrt38 := rg_12_38 hR (k := 387) (by decide) (by decide)
  have hrt39 := rg_12_39 hR (k := 387) (by decide) (by decide)
  have hrt40 := rg_12_40 hR (k := 387) (by decide) (by decide)
  have hrt42 := rg_12_42 hR (k := 387) (by decide) (by decide)
  refine lv_aload_n hx hb dX12_behind_0 rfl (lv_at hl 0 rfl) ?_
  refine r_cVv (k := 387) (As := []) (rest := []) ⟨hx, hb, hml, hown, hts⟩ hK hP hN hS (c_X12_nots l D cA ad hI σ0 τ0 hR K (by omega) (by omega) gPV gSN) (cwV 0 hts gX12_behind_X12_nots rfl rfl rfl (by decide +kernel) ⟨by decide, by decide⟩) (rv_M hK hP (by decide) (by decide)) rfl hl.1 rfl (Nat.le_of_ble_eq_true rfl) dX12_behind_1 (Nat.zero_le _) (Nat.zero_le _) (fun u1 H1 locs1 hp1 hP hS => ?_)
  obtain ⟨σ1, τ1⟩ := u1
  obtain ⟨hR, f1, fL1, hp1_0, hp1_1, hp1_2, hp1_3, gnPV⟩ : P_X12_nots σ0 τ0 K σ1 τ1 := hp1
  have gSNp := hp1_2
  have hP : va_P D vwCl (gw cA ad σ1 τ1) H1 := hP
  obtain rfl := FrL.nil fL1
  have hF := hF.step f1 (by decide)
  have gMK := gMK.ag (Agr.fr f1 (by decide))
  have gMT := gMT.ag (Agr.fr f1 (by decide))
  have t2 : (σ1 387 39).toInt = (σ0 387 39).toInt := congrArg Int32.toInt (f1.at 387 39 (by decide))
  have t3 : (σ1 387 42).toInt = (σ0 387 42).toInt := congrArg Int32.toInt (f1.at 387 42 (by decide))
  have t4 : (σ1 387 15).toInt = (σ0 387 15).toInt := congrArg Int32.toInt (f1.at 387 15 (by decide))
  have hr5 := rg_12_38 hR (k := 387) (by decide) (by decide)
  have hr6 := rg_12_40 hR (k := 387) (by decide) (by decide)
  have gPV := gnPV
  have gSN := hp1_2
  refine lv_aload_n hx hb dX12_behind_4 rfl (lv_at hl 0 rfl) ?_
  refine lv_ldc2 (v := 6385252) hx hb hown (hts _ lk_X12_behind_129) dX12_behind_5 ?_
  refine r_cVi (k := 387) (As := [.long (6385252)]) (rest := []) ⟨hx, hb, hml, hown, hts⟩ hK hP hN hS (c_X12_isWord_v l D cA ad hI σ1 τ0 hR (6385252) _ _ _ _ 21 (by decide) (by decide) gMK) (cwV 1 hts gX12_behind_X12_isWord rfl rfl rfl (by decide +kernel) ⟨by decide, by decide⟩) (rv_M hK hP (by decide) (by decide)) rfl hl.1 rfl (Nat.le_of_ble_eq_true rfl) dX12_behind_8 (Nat.zero_le _) (Nat.zero_le _) (fun r7 u7 H7 locs7 hp7 hP hS => ?_)
  obtain ⟨σ7, τ7⟩ := u7
  obtain ⟨hR, f7, fL7, hq7, hp7_0, hp7_1, gnMK⟩ : P_X12_isWord_v σ1 τ0 (6385252) _ _ _ _ 21 r7 σ7 τ7 := hp7
  have ia1 := hp7_1
  have hP : va_P D vwCl (gw cA ad σ7 τ7) H7 := hP
  obtain rfl := FrL.nil fL7
  obtain rfl := Fr.nil f7
  refine r_if_ne (tgt := 24) hx hb dX12_behind_11 (by decide) (fun c8 => ?_) (fun c8 => ?_)
  · replace hp7_0 := hp7_0.resolve_left (by omega)
    refine lv_aload_n hx hb dX12_behind_24 rfl (lv_at hl 0 rfl) ?_
    refine lv_aload_n hx hb dX12_behind_25 rfl (lv_at hl 0 rfl) ?_
    refine lv_ldc2 (v := 6385252) hx hb hown (hts _ lk_X12_behind_129) dX12_behind_26 ?_
    refine r_cVi (k := 387) (As := [.long (6385252)]) (rest := [.ref (ad 387)]) ⟨hx, hb, hml, hown, hts⟩ hK hP hN hS (c_X12_isWord_v l D cA ad hI σ1 τ0 hR (6385252) _ _ _ _ 21 (by decide) (by decide) gMK) (cwV 1 hts gX12_behind_X12_isWord rfl rfl rfl (by decide +kernel) ⟨by decide, by decide⟩) (rv_M hK hP (by decide) (by decide)) rfl hl.1 rfl (Nat.le_of_ble_eq_true rfl) dX12_behind_29 (Nat.zero_le _) (Nat.zero_le _) (fun r9 u9 H9 locs9 hp9 hP hS => ?_)
    obtain ⟨σ9, τ9⟩ := u9
    obtain ⟨hR, f9, fL9, hq9, hp9_0, hp9_1, gnMK⟩ : P_X12_isWord_v σ1 τ0 (6385252) _ _ _ _ 21 r9 σ9 τ9 := hp9
    have ia3 := hp9_1
    have hP : va_P D vwCl (gw cA ad σ9 τ9) H9 := hP
    obtain rfl := FrL.nil fL9
    obtain rfl := Fr.nil f9
    refine r_if_eq (tgt := 40) hx hb dX12_behind_32 (by decide) (fun c10 => ?_) (fun c10 => ?_)
    · clear hp9_0
      refine r_bipush hx hb dX12_behind_40 (by decide) (fun z11 ez11 => ?_)
      refine r_cVv (k := 387) (As := [.int z11]) (rest := []) ⟨hx, hb, hml, hown, hts⟩ hK hP hN hS (c_X12_joins l D cA ad hI σ1 τ0 hR z11 (pnt K) (by omega) (by omega) (by omega) (pnt_pn K) gPV gSN) (cwV 1 hts gX12_behind_X12_joins rfl rfl rfl (by decide +kernel) ⟨by decide, by decide⟩) (rv_M hK hP (by decide) (by decide)) rfl hl.1 rfl (Nat.le_of_ble_eq_true rfl) dX12_behind_42 (Nat.zero_le _) (Nat.zero_le _) (fun u12 H12 locs12 hp12 hP hS => ?_)
      obtain ⟨σ12, τ12⟩ := u12
      obtain ⟨hR, f12, fL12, hp12_0, hp12_1, hp12_2, hp12_3, gnPV, gnSN⟩ : P_X12_joins σ1 τ0 z11 (pnt K) σ12 τ12 := hp12
      have hP : va_P D vwCl (gw cA ad σ12 τ12) H12 := hP
      obtain rfl := FrL.nil fL12
      have hF := hF.step f12 (by decide)
      have gMK := gMK.ag (Agr.fr f12 (by decide))
      have gMT := gMT.ag (Agr.fr f12 (by decide))
      have t13 : (σ12 387 39).toInt = (σ1 387 39).toInt := congrArg Int32.toInt (f12.at 387 39 (by decide))
      have t14 : (σ12 387 42).toInt = (σ1 387 42).toInt := congrArg Int32.toInt (f12.at 387 42 (by decide))
      have t15 : (σ12 387 15).toInt = (σ1 387 15).toInt := congrArg Int32.toInt (f12.at 387 15 (by decide))
      have hr16 := rg_12_38 hR (k := 387) (by decide) (by decide)
      have hr17 := rg_12_40 hR (k := 387) (by decide) (by decide)
      have gPV := gnPV
      have gSN := gnSN
      refine lv_aload_n hx hb dX12_behind_45 rfl (lv_at hl 0 rfl) ?_
      refine fg_12_37 (k := 387) hx hb hts in_X12_behind_12 hown hK hP (by decide) (by decide) (hts _ lk_X12_behind_71) dX12_behind_46 ?_
      refine lv_aload_n hx hb dX12_behind_49 rfl (lv_at hl 0 rfl) ?_
      refine fg_12_40 (k := 387) hx hb hts in_X12_behind_12 hown hK hP (by decide) (by decide) (hts _ lk_X12_behind_434) dX12_behind_50 ?_
      refine lv_aload_n hx hb dX12_behind_53 rfl (lv_at hl 0 rfl) ?_
      refine lv_ldc2 (v := 6385252) hx hb hown (hts _ lk_X12_behind_129) dX12_behind_54 ?_
      refine r_cVi (k := 387) (As := [.long (6385252)]) (rest := [.int (σ12 387 40), .ref (ad 401)]) ⟨hx, hb, hml, hown, hts⟩ hK hP hN hS (c_X12_isWord_v l D cA ad hI σ12 τ0 hR (6385252) _ _ _ _ 21 (by decide) (by decide) gMK) (cwV 1 hts gX12_behind_X12_isWord rfl rfl rfl (by decide +kernel) ⟨by decide, by decide⟩) (rv_M hK hP (by decide) (by decide)) rfl hl.1 rfl (Nat.le_of_ble_eq_true rfl) dX12_behind_57 (Nat.zero_le _) (Nat.zero_le _) (fun r18 u18 H18 locs18 hp18 hP hS => ?_)
      obtain ⟨σ18, τ18⟩ := u18
      obtain ⟨hR, f18, fL18, hq18, hp18_0, hp18_1, gnMK⟩ : P_X12_isWord_v σ12 τ0 (6385252) _ _ _ _ 21 r18 σ18 τ18 := hp18
      have ia4 := hp18_1
      have hP : va_P D vwCl (gw cA ad σ18 τ18) H18 := hP
      obtain rfl := FrL.nil fL18
      obtain rfl := Fr.nil f18
      refine r_if_eq (tgt := 68) hx hb dX12_behind_60 (by decide) (fun c19 => ?_) (fun c19 => ?_)
      · clear hp18_0
        refine r_bipush hx hb dX12_behind_68 (by decide) (fun z20 ez20 => ?_)
        obtain ⟨j21, ej21⟩ : ∃ j : Nat, (σ12 387 40).toInt = (j : Int) := ⟨_, ti_nat (by omega)⟩
        refine as_mstack (k := 401) (j := j21) hx hb hK hP hI hR hS (by decide) (by decide) ej21 (by omega) dX12_behind_70 (fun σ22 H22 locs22 u22 v22 hR hP hS => ?_)
        have ua := u22
        have va := v22
        have hF := hF.puts u22 2 rfl (by decide) (by decide) (by omega) (by omega)
        have gMK := gMK.ag (Agr.putV u22 (by intro q hq; simp only [Gd_MK, List.mem_cons, List.not_mem_nil, or_false] at hq; rcases hq with rfl | rfl | rfl <;> dsimp only [inRc] <;> omega))
        have gMT := gMT.ag (Agr.putV u22 (by intro q hq; simp only [Gd_MT, List.mem_cons, List.not_mem_nil, or_false] at hq; rcases hq with rfl | rfl | rfl <;> dsimp only [inRc] <;> omega))
        have t23 : (σ22 387 39).toInt = (σ12 387 39).toInt := congrArg Int32.toInt (u22 387 39 (by omega))
        have t24 : (σ22 387 42).toInt = (σ12 387 42).toInt := congrArg Int32.toInt (u22 387 42 (by omega))
        have t25 : (σ22 387 15).toInt = (σ12 387 15).toInt := congrArg Int32.toInt (u22 387 15 (by omega))
        have t26 : (σ22 387 38).toInt = (σ12 387 38).toInt := congrArg Int32.toInt (u22 387 38 (by omega))
        have t27 : (σ22 387 40).toInt = (σ12 387 40).toInt := congrArg Int32.toInt (u22 387 40 (by omega))
        refine lv_aload_n hx hb dX12_behind_71 rfl (lv_at hl 0 rfl) ?_
        refine lv_dup hx hb dX12_behind_72 rfl ?_
        refine fg_12_40 (k := 387) hx hb hts in_X12_behind_12 hown hK hP (by decide) (by decide) (hts _ lk_X12_behind_434) dX12_behind_73 ?_
        refine r_iconst hx hb dX12_behind_76 (by decide) (fun z28 ez28 => ?_)
        refine r_iadd hx hb dX12_behind_77 (by omega) (fun z29 ez29 => ?_)
        refine fp_12_40 (k := 387) hx hb hts in_X12_behind_12 hown hK hP (by decide) (by decide) (hts _ lk_X12_behind_434) hI hR hS (by omega) dX12_behind_78 (fun σ30 H30 locs30 u30 v30 hR hP hS => ?_)
        have ub := u30
        have vb := v30
        have hF := hF.puts u30 3 rfl (by decide) (by decide) (by decide) (by decide)
        have gMK := gMK.ag (Agr.put u30 (by decide))
        have gMT := gMT.ag (Agr.put u30 (by decide))
        have t31 : (σ30 387 39).toInt = (σ22 387 39).toInt := congrArg Int32.toInt (u30 387 39 (by omega))
        have t32 : (σ30 387 42).toInt = (σ22 387 42).toInt := congrArg Int32.toInt (u30 387 42 (by omega))
        have t33 : (σ30 387 15).toInt = (σ22 387 15).toInt := congrArg Int32.toInt (u30 387 15 (by omega))
        have t34 : (σ30 387 38).toInt = (σ22 387 38).toInt := congrArg Int32.toInt (u30 387 38 (by omega))
        have gSN := SN.push gSN (pnt_pn K) (by omega) (by omega) ua (by omega) ub (by omega)
        refine lv_aload_n hx hb dX12_behind_81 rfl (lv_at hl 0 rfl) ?_
        refine r_iconst hx hb dX12_behind_82 (by decide) (fun z35 ez35 => ?_)
        refine fp_12_42 (k := 387) hx hb hts in_X12_behind_12 hown hK hP (by decide) (by decide) (hts _ lk_X12_behind_449) hI hR hS (by omega) dX12_behind_83 (fun σ36 H36 locs36 u36 v36 hR hP hS => ?_)
        have uc := u36
        have vc := v36
        have hF := hF.puts u36 3 rfl (by decide) (by decide) (by decide) (by decide)
        have gMK := gMK.ag (Agr.put u36 (by decide))
        have gMT := gMT.ag (Agr.put u36 (by decide))
        have gSN := gSN.ag (Agr.put u36 (by decide))
        have t37 : (σ36 387 39).toInt = (σ30 387 39).toInt := congrArg Int32.toInt (u36 387 39 (by omega))
        have t38 : (σ36 387 15).toInt = (σ30 387 15).toInt := congrArg Int32.toInt (u36 387 15 (by omega))
        have t39 : (σ36 387 38).toInt = (σ30 387 38).toInt := congrArg Int32.toInt (u36 387 38 (by omega))
        have t40 : (σ36 387 40).toInt = (σ30 387 40).toInt := congrArg Int32.toInt (u36 387 40 (by omega))
        have gPV := PV.bin gPV (by omega) ua va (by omega) (by omega) ub (by omega) uc (by omega)
        refine lv_aload_n hx hb dX12_behind_86 rfl (lv_at hl 0 rfl) ?_
        refine r_cVv (k := 387) (As := []) (rest := []) ⟨hx, hb, hml, hown, hts⟩ hK hP hN hS (c_X12_next_v l D cA ad hI σ36 τ0 hR _ _ _ _ gMK.mp gMT) (cwV 0 hts gX12_behind_X12_next rfl rfl rfl (by decide +kernel) ⟨by decide, by decide⟩) (rv_M hK hP (by decide) (by decide)) rfl hl.1 rfl (Nat.le_of_ble_eq_true rfl) dX12_behind_87 (Nat.zero_le _) (Nat.zero_le _) (fun u41 H41 locs41 hp41 hP hS => ?_)
        obtain ⟨σ41, τ41⟩ := u41
        obtain ⟨hR, f41, fL41, hp41_0, hp41_1, hp41_2, hp41_3, gnMT⟩ : P_X12_next_v σ36 τ0 _ _ _ _ σ41 τ41 := hp41
        have hP : va_P D vwCl (gw cA ad σ41 τ41) H41 := hP
        have hFL := hFL.step fL41 (by decide)
        have gRV := gRV.agL (AgrL.fr fL41 (by decide))
        have hF := hF.step f41 (by decide)
        have gMT := gMT.ag (Agr.fr f41 (by decide))
        have gPV := PV.fr gPV hR f41 (by decide)
        have gSN := gSN.ag (Agr.fr f41 (by decide))
        have t42 : (σ41 387 39).toInt = (σ36 387 39).toInt := congrArg Int32.toInt (f41.at 387 39 (by decide))
        have t43 : (σ41 387 15).toInt = (σ36 387 15).toInt := congrArg Int32.toInt (f41.at 387 15 (by decide))
        have t44 : (σ41 387 38).toInt = (σ36 387 38).toInt := congrArg Int32.toInt (f41.at 387 38 (by decide))
        have t45 : (σ41 387 40).toInt = (σ36 387 40).toInt := congrArg Int32.toInt (f41.at 387 40 (by decide))
        have t46 : (σ41 387 42).toInt = (σ36 387 42).toInt := congrArg Int32.toInt (f41.at 387 42 (by decide))
        have gMK := hp41_3
        refine r_iconst hx hb dX12_behind_90 (by decide) (fun z47 ez47 => ?_)
        exact r_zret hx hb hr hK hP hS hk (by omega) dX12_behind_91 (show P_X12_behind σ0 τ0 b N mo q nn K z47 σ41 τ41 from ⟨hR, hF, hFL, by omega, by first | exact Or.inl (by omega) | exact Or.inr gPV, by omega, by omega, by first | (exfalso; omega) | exact MO.ofr (beh_j (by omega)) (by omega) ⟨gMK, by show _ = ((nn : Nat) : Int); omega, gSN, by show _ = (0 : Int); omega⟩ | exact MO.ofk (beh_x (by omega) (Or.inl (by omega))) (by omega) (by omega) (by omega) | exact MO.ofk (beh_x (by omega) (Or.inr (gSN.emp (by omega)))) (by omega) (by omega) (by omega) | exact MO.ofr ((congrArg (behP b N mo q nn) ek1).trans (beh_c (by omega))) (by omega) ⟨gMK, by show _ = ((nn : Nat) : Int); omega, gSN, by show _ = (1 : Int); omega⟩, by omega, gMT, gRV⟩)
      · replace hp18_0 := hp18_0.resolve_left (by omega)
        refine r_bipush hx hb dX12_behind_63 (by decide) (fun z48 ez48 => ?_)
        refine lv_goto (tgt := 70) hx hb dX12_behind_65 (by decide) ?_
        obtain ⟨j49, ej49⟩ : ∃ j : Nat, (σ12 387 40).toInt = (j : Int) := ⟨_, ti_nat (by omega)⟩
        refine as_mstack (k := 401) (j := j49) hx hb hK hP hI hR hS (by decide) (by decide) ej49 (by omega) dX12_behind_70 (fun σ50 H50 locs50 u50 v50 hR hP hS => ?_)
        have ua := u50
        have va := v50
        have hF := hF.puts u50 2 rfl (by decide) (by decide) (by omega) (by omega)
        have gMK := gMK.ag (Agr.putV u50 (by intro q hq; simp only [Gd_MK, List.mem_cons, List.not_mem_nil, or_false] at hq; rcases hq with rfl | rfl | rfl <;> dsimp only [inRc] <;> omega))
        have gMT := gMT.ag (Agr.putV u50 (by intro q hq; simp only [Gd_MT, List.mem_cons, List.not_mem_nil, or_false] at hq; rcases hq with rfl | rfl | rfl <;> dsimp only [inRc] <;> omega))
        have t51 : (σ50 387 39).toInt = (σ12 387 39).toInt := congrArg Int32.toInt (u50 387 39 (by omega))
        have t52 : (σ50 387 42).toInt = (σ12 387 42).toInt := congrArg Int32.toInt (u50 387 42 (by omega))
        have t53 : (σ50 387 15).toInt = (σ12 387 15).toInt := congrArg Int32.toInt (u50 387 15 (by omega))
        have t54 : (σ50 387 38).toInt = (σ12 387 38).toInt := congrArg Int32.toInt (u50 387 38 (by omega))
        have t55 : (σ50 387 40).toInt = (σ12 387 40).toInt := congrArg Int32.toInt (u50 387 40 (by omega))
        refine lv_aload_n hx hb dX12_behind_71 rfl (lv_at hl 0 rfl) ?_
        refine lv_dup hx hb dX12_behind_72 rfl ?_
        refine fg_12_40 (k := 387) hx hb hts in_X12_behind_12 hown hK hP (by decide) (by decide) (hts _ lk_X12_behind_434) dX12_behind_73 ?_
        refine r_iconst hx hb dX12_behind_76 (by decide) (fun z56 ez56 => ?_)
        refine r_iadd hx hb dX12_behind_77 (by omega) (fun z57 ez57 => ?_)
        refine fp_12_40 (k := 387) hx hb hts in_X12_behind_12 hown hK hP (by decide) (by decide) (hts _ lk_X12_behind_434) hI hR hS (by omega) dX12_behind_78 (fun σ58 H58 locs58 u58 v58 hR hP hS => ?_)
        have ub := u58
        have vb := v58
        have hF := hF.puts u58 3 rfl (by decide) (by decide) (by decide) (by decide)
        have gMK := gMK.ag (Agr.put u58 (by decide))
        have gMT := gMT.ag (Agr.put u58 (by decide))
        have t59 : (σ58 387 39).toInt = (σ50 387 39).toInt := congrArg Int32.toInt (u58 387 39 (by omega))
        have t60 : (σ58 387 42).toInt = (σ50 387 42).toInt := congrArg Int32.toInt (u58 387 42 (by omega))
        have t61 : (σ58 387 15).toInt = (σ50 387 15).toInt := congrArg Int32.toInt (u58 387 15 (by omega))
        have t62 : (σ58 387 38).toInt = (σ50 387 38).toInt := congrArg Int32.toInt (u58 387 38 (by omega))
        have gSN := SN.push gSN (pnt_pn K) (by omega) (by omega) ua (by omega) ub (by omega)
        refine lv_aload_n hx hb dX12_behind_81 rfl (lv_at hl 0 rfl) ?_
        refine r_iconst hx hb dX12_behind_82 (by decide) (fun z63 ez63 => ?_)
        refine fp_12_42 (k := 387) hx hb hts in_X12_behind_12 hown hK hP (by decide) (by decide) (hts _ lk_X12_behind_449) hI hR hS (by omega) dX12_behind_83 (fun σ64 H64 locs64 u64 v64 hR hP hS => ?_)
        have uc := u64
        have vc := v64
        have hF := hF.puts u64 3 rfl (by decide) (by decide) (by decide) (by decide)
        have gMK := gMK.ag (Agr.put u64 (by decide))
        have gMT := gMT.ag (Agr.put u64 (by decide))
        have gSN := gSN.ag (Agr.put u64 (by decide))
        have t65 : (σ64 387 39).toInt = (σ58 387 39).toInt := congrArg Int32.toInt (u64 387 39 (by omega))
        have t66 : (σ64 387 15).toInt = (σ58 387 15).toInt := congrArg Int32.toInt (u64 387 15 (by omega))
        have t67 : (σ64 387 38).toInt = (σ58 387 38).toInt := congrArg Int32.toInt (u64 387 38 (by omega))
        have t68 : (σ64 387 40).toInt = (σ58 387 40).toInt := congrArg Int32.toInt (u64 387 40 (by omega))
        have gPV := PV.bin gPV (by omega) ua va (by omega) (by omega) ub (by omega) uc (by omega)
        refine lv_aload_n hx hb dX12_behind_86 rfl (lv_at hl 0 rfl) ?_
        refine r_cVv (k := 387) (As := []) (rest := []) ⟨hx, hb, hml, hown, hts⟩ hK hP hN hS (c_X12_next_v l D cA ad hI σ64 τ0 hR _ _ _ _ gMK.mp gMT) (cwV 0 hts gX12_behind_X12_next rfl rfl rfl (by decide +kernel) ⟨by decide, by decide⟩) (rv_M hK hP (by decide) (by decide)) rfl hl.1 rfl (Nat.le_of_ble_eq_true rfl) dX12_behind_87 (Nat.zero_le _) (Nat.zero_le _) (fun u69 H69 locs69 hp69 hP hS => ?_)
        obtain ⟨σ69, τ69⟩ := u69
        obtain ⟨hR, f69, fL69, hp69_0, hp69_1, hp69_2, hp69_3, gnMT⟩ : P_X12_next_v σ64 τ0 _ _ _ _ σ69 τ69 := hp69
        have hP : va_P D vwCl (gw cA ad σ69 τ69) H69 := hP
        have hFL := hFL.step fL69 (by decide)
        have gRV := gRV.agL (AgrL.fr fL69 (by decide))
        have hF := hF.step f69 (by decide)
        have gMT := gMT.ag (Agr.fr f69 (by decide))
        have gPV := PV.fr gPV hR f69 (by decide)
        have gSN := gSN.ag (Agr.fr f69 (by decide))
        have t70 : (σ69 387 39).toInt = (σ64 387 39).toInt := congrArg Int32.toInt (f69.at 387 39 (by decide))
        have t71 : (σ69 387 15).toInt = (σ64 387 15).toInt := congrArg Int32.toInt (f69.at 387 15 (by decide))
        have t72 : (σ69 387 38).toInt = (σ64 387 38).toInt := congrArg Int32.toInt (f69.at 387 38 (by decide))
        have t73 : (σ69 387 40).toInt = (σ64 387 40).toInt := congrArg Int32.toInt (f69.at 387 40 (by decide))
        have t74 : (σ69 387 42).toInt = (σ64 387 42).toInt := congrArg Int32.toInt (f69.at 387 42 (by decide))
        have gMK := hp69_3
        refine r_iconst hx hb dX12_behind_90 (by decide) (fun z75 ez75 => ?_)
        exact r_zret hx hb hr hK hP hS hk (by omega) dX12_behind_91 (show P_X12_behind σ0 τ0 b N mo q nn K z75 σ69 τ69 from ⟨hR, hF, hFL, by omega, by first | exact Or.inl (by omega) | exact Or.inr gPV, by omega, by omega, by first | (exfalso; omega) | exact MO.ofr (beh_j (by omega)) (by omega) ⟨gMK, by show _ = ((nn : Nat) : Int); omega, gSN, by show _ = (0 : Int); omega⟩ | exact MO.ofk (beh_x (by omega) (Or.inl (by omega))) (by omega) (by omega) (by omega) | exact MO.ofk (beh_x (by omega) (Or.inr (gSN.emp (by omega)))) (by omega) (by omega) (by omega) | exact MO.ofr ((congrArg (behP b N mo q nn) ek1).trans (beh_c (by omega))) (by omega) ⟨gMK, by show _ = ((nn : Nat) : Int); omega, gSN, by show _ = (1 : Int); omega⟩, by omega, gMT, gRV⟩)
    · replace hp9_0 := hp9_0.resolve_left (by omega)
      refine r_bipush hx hb dX12_behind_35 (by decide) (fun z76 ez76 => ?_)
      refine lv_goto (tgt := 42) hx hb dX12_behind_37 (by decide) ?_
      refine r_cVv (k := 387) (As := [.int z76]) (rest := []) ⟨hx, hb, hml, hown, hts⟩ hK hP hN hS (c_X12_joins l D cA ad hI σ1 τ0 hR z76 (pnt K) (by omega) (by omega) (by omega) (pnt_pn K) gPV gSN) (cwV 1 hts gX12_behind_X12_joins rfl rfl rfl (by decide +kernel) ⟨by decide, by decide⟩) (rv_M hK hP (by decide) (by decide)) rfl hl.1 rfl (Nat.le_of_ble_eq_true rfl) dX12_behind_42 (Nat.zero_le _) (Nat.zero_le _) (fun u77 H77 locs77 hp77 hP hS => ?_)
      obtain ⟨σ77, τ77⟩ := u77
      obtain ⟨hR, f77, fL77, hp77_0, hp77_1, hp77_2, hp77_3, gnPV, gnSN⟩ : P_X12_joins σ1 τ0 z76 (pnt K) σ77 τ77 := hp77
      have hP : va_P D vwCl (gw cA ad σ77 τ77) H77 := hP
      obtain rfl := FrL.nil fL77
      have hF := hF.step f77 (by decide)
      have gMK := gMK.ag (Agr.fr f77 (by decide))
      have gMT := gMT.ag (Agr.fr f77 (by decide))
      have t78 : (σ77 387 39).toInt = (σ1 387 39).toInt := congrArg Int32.toInt (f77.at 387 39 (by decide))
      have t79 : (σ77 387 42).toInt = (σ1 387 42).toInt := congrArg Int32.toInt (f77.at 387 42 (by decide))
      have t80 : (σ77 387 15).toInt = (σ1 387 15).toInt := congrArg Int32.toInt (f77.at 387 15 (by decide))
      have hr81 := rg_12_38 hR (k := 387) (by decide) (by decide)
      have hr82 := rg_12_40 hR (k := 387) (by decide) (by decide)
      have gPV := gnPV
      have gSN := gnSN
      refine lv_aload_n hx hb dX12_behind_45 rfl (lv_at hl 0 rfl) ?_
      refine fg_12_37 (k := 387) hx hb hts in_X12_behind_12 hown hK hP (by decide) (by decide) (hts _ lk_X12_behind_71) dX12_behind_46 ?_
      refine lv_aload_n hx hb dX12_behind_49 rfl (lv_at hl 0 rfl) ?_
      refine fg_12_40 (k := 387) hx hb hts in_X12_behind_12 hown hK hP (by decide) (by decide) (hts _ lk_X12_behind_434) dX12_behind_50 ?_
      refine lv_aload_n hx hb dX12_behind_53 rfl (lv_at hl 0 rfl) ?_
      refine lv_ldc2 (v := 6385252) hx hb hown (hts _ lk_X12_behind_129) dX12_behind_54 ?_
      refine r_cVi (k := 387) (As := [.long (6385252)]) (rest := [.int (σ77 387 40), .ref (ad 401)]) ⟨hx, hb, hml, hown, hts⟩ hK hP hN hS (c_X12_isWord_v l D cA ad hI σ77 τ0 hR (6385252) _ _ _ _ 21 (by decide) (by decide) gMK) (cwV 1 hts gX12_behind_X12_isWord rfl rfl rfl (by decide +kernel) ⟨by decide, by decide⟩) (rv_M hK hP (by decide) (by decide)) rfl hl.1 rfl (Nat.le_of_ble_eq_true rfl) dX12_behind_57 (Nat.zero_le _) (Nat.zero_le _) (fun r83 u83 H83 locs83 hp83 hP hS => ?_)
      obtain ⟨σ83, τ83⟩ := u83
      obtain ⟨hR, f83, fL83, hq83, hp83_0, hp83_1, gnMK⟩ : P_X12_isWord_v σ77 τ0 (6385252) _ _ _ _ 21 r83 σ83 τ83 := hp83
      have ia4 := hp83_1
      have hP : va_P D vwCl (gw cA ad σ83 τ83) H83 := hP
      obtain rfl := FrL.nil fL83
      obtain rfl := Fr.nil f83
      refine r_if_eq (tgt := 68) hx hb dX12_behind_60 (by decide) (fun c84 => ?_) (fun c84 => ?_)
      · clear hp83_0
        refine r_bipush hx hb dX12_behind_68 (by decide) (fun z85 ez85 => ?_)
        obtain ⟨j86, ej86⟩ : ∃ j : Nat, (σ77 387 40).toInt = (j : Int) := ⟨_, ti_nat (by omega)⟩
        refine as_mstack (k := 401) (j := j86) hx hb hK hP hI hR hS (by decide) (by decide) ej86 (by omega) dX12_behind_70 (fun σ87 H87 locs87 u87 v87 hR hP hS => ?_)
        have ua := u87
        have va := v87
        have hF := hF.puts u87 2 rfl (by decide) (by decide) (by omega) (by omega)
        have gMK := gMK.ag (Agr.putV u87 (by intro q hq; simp only [Gd_MK, List.mem_cons, List.not_mem_nil, or_false] at hq; rcases hq with rfl | rfl | rfl <;> dsimp only [inRc] <;> omega))
        have gMT := gMT.ag (Agr.putV u87 (by intro q hq; simp only [Gd_MT, List.mem_cons, List.not_mem_nil, or_false] at hq; rcases hq with rfl | rfl | rfl <;> dsimp only [inRc] <;> omega))
        have t88 : (σ87 387 39).toInt = (σ77 387 39).toInt := congrArg Int32.toInt (u87 387 39 (by omega))
        have t89 : (σ87 387 42).toInt = (σ77 387 42).toInt := congrArg Int32.toInt (u87 387 42 (by omega))
        have t90 : (σ87 387 15).toInt = (σ77 387 15).toInt := congrArg Int32.toInt (u87 387 15 (by omega))
        have t91 : (σ87 387 38).toInt = (σ77 387 38).toInt := congrArg Int32.toInt (u87 387 38 (by omega))
        have t92 : (σ87 387 40).toInt = (σ77 387 40).toInt := congrArg Int32.toInt (u87 387 40 (by omega))
        refine lv_aload_n hx hb dX12_behind_71 rfl (lv_at hl 0 rfl) ?_
        refine lv_dup hx hb dX12_behind_72 rfl ?_
        refine fg_12_40 (k := 387) hx hb hts in_X12_behind_12 hown hK hP (by decide) (by decide) (hts _ lk_X12_behind_434) dX12_behind_73 ?_
        refine r_iconst hx hb dX12_behind_76 (by decide) (fun z93 ez93 => ?_)
        refine r_iadd hx hb dX12_behind_77 (by omega) (fun z94 ez94 => ?_)
        refine fp_12_40 (k := 387) hx hb hts in_X12_behind_12 hown hK hP (by decide) (by decide) (hts _ lk_X12_behind_434) hI hR hS (by omega) dX12_behind_78 (fun σ95 H95 locs95 u95 v95 hR hP hS => ?_)
        have ub := u95
        have vb := v95
        have hF := hF.puts u95 3 rfl (by decide) (by decide) (by decide) (by decide)
        have gMK := gMK.ag (Agr.put u95 (by decide))
        have gMT := gMT.ag (Agr.put u95 (by decide))
        have t96 : (σ95 387 39).toInt = (σ87 387 39).toInt := congrArg Int32.toInt (u95 387 39 (by omega))
        have t97 : (σ95 387 42).toInt = (σ87 387 42).toInt := congrArg Int32.toInt (u95 387 42 (by omega))
        have t98 : (σ95 387 15).toInt = (σ87 387 15).toInt := congrArg Int32.toInt (u95 387 15 (by omega))
        have t99 : (σ95 387 38).toInt = (σ87 387 38).toInt := congrArg Int32.toInt (u95 387 38 (by omega))
        have gSN := SN.push gSN (pnt_pn K) (by omega) (by omega) ua (by omega) ub (by omega)
        refine lv_aload_n hx hb dX12_behind_81 rfl (lv_at hl 0 rfl) ?_
        refine r_iconst hx hb dX12_behind_82 (by decide) (fun z100 ez100 => ?_)
        refine fp_12_42 (k := 387) hx hb hts in_X12_behind_12 hown hK hP (by decide) (by decide) (hts _ lk_X12_behind_449) hI hR hS (by omega) dX12_behind_83 (fun σ101 H101 locs101 u101 v101 hR hP hS => ?_)
        have uc := u101
        have vc := v101
        have hF := hF.puts u101 3 rfl (by decide) (by decide) (by decide) (by decide)
        have gMK := gMK.ag (Agr.put u101 (by decide))
        have gMT := gMT.ag (Agr.put u101 (by decide))
        have gSN := gSN.ag (Agr.put u101 (by decide))
        have t102 : (σ101 387 39).toInt = (σ95 387 39).toInt := congrArg Int32.toInt (u101 387 39 (by omega))
        have t103 : (σ101 387 15).toInt = (σ95 387 15).toInt := congrArg Int32.toInt (u101 387 15 (by omega))
        have t104 : (σ101 387 38).toInt = (σ95 387 38).toInt := congrArg Int32.toInt (u101 387 38 (by omega))
        have t105 : (σ101 387 40).toInt = (σ95 387 40).toInt := congrArg Int32.toInt (u101 387 40 (by omega))
        have gPV := PV.bin gPV (by omega) ua va (by omega) (by omega) ub (by omega) uc (by omega)
        refine lv_aload_n hx hb dX12_behind_86 rfl (lv_at hl 0 rfl) ?_
        refine r_cVv (k := 387) (As := []) (rest := []) ⟨hx, hb, hml, hown, hts⟩ hK hP hN hS (c_X12_next_v l D cA ad hI σ101 τ0 hR _ _ _ _ gMK.mp gMT) (cwV 0 hts gX12_behind_X12_next rfl rfl rfl (by decide +kernel) ⟨by decide, by decide⟩) (rv_M hK hP (by decide) (by decide)) rfl hl.1 rfl (Nat.le_of_ble_eq_true rfl) dX12_behind_87 (Nat.zero_le _) (Nat.zero_le _) (fun u106 H106 locs106 hp106 hP hS => ?_)
        obtain ⟨σ106, τ106⟩ := u106
        obtain ⟨hR, f106, fL106, hp106_0, hp106_1, hp106_2, hp106_3, gnMT⟩ : P_X12_next_v σ101 τ0 _ _ _ _ σ106 τ106 := hp106
        have hP : va_P D vwCl (gw cA ad σ106 τ106) H106 := hP
        have hFL := hFL.step fL106 (by decide)
        have gRV := gRV.agL (AgrL.fr fL106 (by decide))
        have hF := hF.step f106 (by decide)
        have gMT := gMT.ag (Agr.fr f106 (by decide))
        have gPV := PV.fr gPV hR f106 (by decide)
        have gSN := gSN.ag (Agr.fr f106 (by decide))
        have t107 : (σ106 387 39).toInt = (σ101 387 39).toInt := congrArg Int32.toInt (f106.at 387 39 (by decide))
        have t108 : (σ106 387 15).toInt = (σ101 387 15).toInt := congrArg Int32.toInt (f106.at 387 15 (by decide))
        have t109 : (σ106 387 38).toInt = (σ101 387 38).toInt := congrArg Int32.toInt (f106.at 387 38 (by decide))
        have t110 : (σ106 387 40).toInt = (σ101 387 40).toInt := congrArg Int32.toInt (f106.at 387 40 (by decide))
        have t111 : (σ106 387 42).toInt = (σ101 387 42).toInt := congrArg Int32.toInt (f106.at 387 42 (by decide))
        have gMK := hp106_3
        refine r_iconst hx hb dX12_behind_90 (by decide) (fun z112 ez112 => ?_)
        exact r_zret hx hb hr hK hP hS hk (by omega) dX12_behind_91 (show P_X12_behind σ0 τ0 b N mo q nn K z112 σ106 τ106 from ⟨hR, hF, hFL, by omega, by first | exact Or.inl (by omega) | exact Or.inr gPV, by omega, by omega, by first | (exfalso; omega) | exact MO.ofr (beh_j (by omega)) (by omega) ⟨gMK, by show _ = ((nn : Nat) : Int); omega, gSN, by show _ = (0 : Int); omega⟩ | exact MO.ofk (beh_x (by omega) (Or.inl (by omega))) (by omega) (by omega) (by omega) | exact MO.ofk (beh_x (by omega) (Or.inr (gSN.emp (by omega)))) (by omega) (by omega) (by omega) | exact MO.ofr ((congrArg (behP b N mo q nn) ek1).trans (beh_c (by omega))) (by omega) ⟨gMK, by show _ = ((nn : Nat) : Int); omega, gSN, by show _ = (1 : Int); omega⟩, by omega, gMT, gRV⟩)
      · replace hp83_0 := hp83_0.resolve_left (by omega)
        refine r_bipush hx hb dX12_behind_63 (by decide) (fun z113 ez113 => ?_)
        refine lv_goto (tgt := 70) hx hb dX12_behind_65 (by decide) ?_
        obtain ⟨j114, ej114⟩ : ∃ j : Nat, (σ77 387 40).toInt = (j : Int) := ⟨_, ti_nat (by omega)⟩
        refine as_mstack (k := 401) (j := j114) hx hb hK hP hI hR hS (by decide) (by decide) ej114 (by omega) dX12_behind_70 (fun σ115 H115 locs115 u115 v115 hR hP hS => ?_)
        have ua := u115
        have va := v115
        have hF := hF.puts u115 2 rfl (by decide) (by decide) (by omega) (by omega)
        have gMK := gMK.ag (Agr.putV u115 (by intro q hq; simp only [Gd_MK, List.mem_cons, List.not_mem_nil, or_false] at hq; rcases hq with rfl | rfl | rfl <;> dsimp only [inRc] <;> omega))
        have gMT := gMT.ag (Agr.putV u115 (by intro q hq; simp only [Gd_MT, List.mem_cons, List.not_mem_nil, or_false] at hq; rcases hq with rfl | rfl | rfl <;> dsimp only [inRc] <;> omega))
        have t116 : (σ115 387 39).toInt = (σ77 387 39).toInt := congrArg Int32.toInt (u115 387 39 (by omega))
        have t117 : (σ115 387 42).toInt = (σ77 387 42).toInt := congrArg Int32.toInt (u115 387 42 (by omega))
        have t118 : (σ115 387 15).toInt = (σ77 387 15).toInt := congrArg Int32.toInt (u115 387 15 (by omega))
        have t119 : (σ115 387 38).toInt = (σ77 387 38).toInt := congrArg Int32.toInt (u115 387 38 (by omega))
        have t120 : (σ115 387 40).toInt = (σ77 387 40).toInt := congrArg Int32.toInt (u115 387 40 (by omega))
        refine lv_aload_n hx hb dX12_behind_71 rfl (lv_at hl 0 rfl) ?_
        refine lv_dup hx hb dX12_behind_72 rfl ?_
        refine fg_12_40 (k := 387) hx hb hts in_X12_behind_12 hown hK hP (by decide) (by decide) (hts _ lk_X12_behind_434) dX12_behind_73 ?_
        refine r_iconst hx hb dX12_behind_76 (by decide) (fun z121 ez121 => ?_)
        refine r_iadd hx hb dX12_behind_77 (by omega) (fun z122 ez122 => ?_)
        refine fp_12_40 (k := 387) hx hb hts in_X12_behind_12 hown hK hP (by decide) (by decide) (hts _ lk_X12_behind_434) hI hR hS (by omega) dX12_behind_78 (fun σ123 H123 locs123 u123 v123 hR hP hS => ?_)
        have ub := u123
        have vb := v123
        have hF := hF.puts u123 3 rfl (by decide) (by decide) (by decide) (by decide)
        have gMK := gMK.ag (Agr.put u123 (by decide))
        have gMT := gMT.ag (Agr.put u123 (by decide))
        have t124 : (σ123 387 39).toInt = (σ115 387 39).toInt := congrArg Int32.toInt (u123 387 39 (by omega))
        have t125 : (σ123 387 42).toInt = (σ115 387 42).toInt := congrArg Int32.toInt (u123 387 42 (by omega))
        have t126 : (σ123 387 15).toInt = (σ115 387 15).toInt := congrArg Int32.toInt (u123 387 15 (by omega))
        have t127 : (σ123 387 38).toInt = (σ115 387 38).toInt := congrArg Int32.toInt (u123 387 38 (by omega))
        have gSN := SN.push gSN (pnt_pn K) (by omega) (by omega) ua (by omega) ub (by omega)
        refine lv_aload_n hx hb dX12_behind_81 rfl (lv_at hl 0 rfl) ?_
        refine r_iconst hx hb dX12_behind_82 (by decide) (fun z128 ez128 => ?_)
        refine fp_12_42 (k := 387) hx hb hts in_X12_behind_12 hown hK hP (by decide) (by decide) (hts _ lk_X12_behind_449) hI hR hS (by omega) dX12_behind_83 (fun σ129 H129 locs129 u129 v129 hR hP hS => ?_)
        have uc := u129
        have vc := v129
        have hF := hF.puts u129 3 rfl (by decide) (by decide) (by decide) (by decide)
        have gMK := gMK.ag (Agr.put u129 (by decide))
        have gMT := gMT.ag (Agr.put u129 (by decide))
        have gSN := gSN.ag (Agr.put u129 (by decide))
        have t130 : (σ129 387 39).toInt = (σ123 387 39).toInt := congrArg Int32.toInt (u129 387 39 (by omega))
        have t131 : (σ129 387 15).toInt = (σ123 387 15).toInt := congrArg Int32.toInt (u129 387 15 (by omega))
        have t132 : (σ129 387 38).toInt = (σ123 387 38).toInt := congrArg Int32.toInt (u129 387 38 (by omega))
        have t133 : (σ129 387 40).toInt = (σ123 387 40).toInt := congrArg Int32.toInt (u129 387 40 (by omega))
        have gPV := PV.bin gPV (by omega) ua va (by omega) (by omega) ub (by omega) uc (by omega)
        refine lv_aload_n hx hb dX12_behind_86 rfl (lv_at hl 0 rfl) ?_
        refine r_cVv (k := 387) (As := []) (rest := []) ⟨hx, hb, hml, hown, hts⟩ hK hP hN hS (c_X12_next_v l D cA ad hI σ129 τ0 hR _ _ _ _ gMK.mp gMT) (cwV 0 hts gX12_behind_X12_next rfl rfl rfl (by decide +kernel) ⟨by decide, by decide⟩) (rv_M hK hP (by decide) (by decide)) rfl hl.1 rfl (Nat.le_of_ble_eq_true rfl) dX12_behind_87 (Nat.zero_le _) (Nat.zero_le _) (fun u134 H134 locs134 hp134 hP hS => ?_)
        obtain ⟨σ134, τ134⟩ := u134
        obtain ⟨hR, f134, fL134, hp134_0, hp134_1, hp134_2, hp134_3, gnMT⟩ : P_X12_next_v σ129 τ0 _ _ _ _ σ134 τ134 := hp134
        have hP : va_P D vwCl (gw cA ad σ134 τ134) H134 := hP
        have hFL := hFL.step fL134 (by decide)
        have gRV := gRV.agL (AgrL.fr fL134 (by decide))
        have hF := hF.step f134 (by decide)
        have gMT := gMT.ag (Agr.fr f134 (by decide))
        have gPV := PV.fr gPV hR f134 (by decide)
        have gSN := gSN.ag (Agr.fr f134 (by decide))
        have t135 : (σ134 387 39).toInt = (σ129 387 39).toInt := congrArg Int32.toInt (f134.at 387 39 (by decide))
        have t136 : (σ134 387 15).toInt = (σ129 387 15).toInt := congrArg Int32.toInt (f134.at 387 15 (by decide))
        have t137 : (σ134 387 38).toInt = (σ129 387 38).toInt := congrArg Int32.toInt (f134.at 387 38 (by decide))
        have t138 : (σ134 387 40).toInt = (σ129 387 40).toInt := congrArg Int32.toInt (f134.at 387 40 (by decide))
        have t139 : (σ134 387 42).toInt = (σ129 387 42).toInt := congrArg Int32.toInt (f134.at 387 42 (by decide))
        have gMK := hp134_3
        refine r_iconst hx hb dX12_behind_90 (by decide) (fun z140 ez140 => ?_)
        exact r_zret hx hb hr hK hP hS hk (by omega) dX12_behind_91 (show P_X12_behind σ0 τ0 b N mo q nn K z140 σ134 τ134 from ⟨hR, hF, hFL, by omega, by first | exact Or.inl (by omega) | exact Or.inr gPV, by omega, by omega, by first | (exfalso; omega) | exact MO.ofr (beh_j (by omega)) (by omega) ⟨gMK, by show _ = ((nn : Nat) : Int); omega, gSN, by show _ = (0 : Int); omega⟩ | exact MO.ofk (beh_x (by omega) (Or.inl (by omega))) (by omega) (by omega) (by omega) | exact MO.ofk (beh_x (by omega) (Or.inr (gSN.emp (by omega)))) (by omega) (by omega) (by omega) | exact MO.ofr ((congrArg (behP b N mo q nn) ek1).trans (beh_c (by omega))) (by omega) ⟨gMK, by show _ = ((nn : Nat) : Int); omega, gSN, by show _ = (1 : Int); omega⟩, by omega, gMT, gRV⟩)
  · clear hp7_0
    refine lv_aload_n hx hb dX12_behind_14 rfl (lv_at hl 0 rfl) ?_
    refine lv_ldc2 (v := 28530) hx hb hown (hts _ lk_X12_behind_127) dX12_behind_15 ?_
    refine r_cVi (k := 387) (As := [.long (28530)]) (rest := []) ⟨hx, hb, hml, hown, hts⟩ hK hP hN hS (c_X12_isWord_v l D cA ad hI σ1 τ0 hR (28530) _ _ _ _ 20 (by decide) (by decide) gMK) (cwV 1 hts gX12_behind_X12_isWord rfl rfl rfl (by decide +kernel) ⟨by decide, by decide⟩) (rv_M hK hP (by decide) (by decide)) rfl hl.1 rfl (Nat.le_of_ble_eq_true rfl) dX12_behind_18 (Nat.zero_le _) (Nat.zero_le _) (fun r141 u141 H141 locs141 hp141 hP hS => ?_)
    obtain ⟨σ141, τ141⟩ := u141
    obtain ⟨hR, f141, fL141, hq141, hp141_0, hp141_1, gnMK⟩ : P_X12_isWord_v σ1 τ0 (28530) _ _ _ _ 20 r141 σ141 τ141 := hp141
    have ia2 := hp141_1
    have hP : va_P D vwCl (gw cA ad σ141 τ141) H141 := hP
    obtain rfl := FrL.nil fL141
    obtain rfl := Fr.nil f141
    refine r_if_eq (tgt := 92) hx hb dX12_behind_21 (by decide) (fun c142 => ?_) (fun c142 => ?_)
    · clear hp141_0
      refine lv_aload_n hx hb dX12_behind_92 rfl (lv_at hl 0 rfl) ?_
      refine r_bipush hx hb dX12_behind_93 (by decide) (fun z143 ez143 => ?_)
      refine r_cVv (k := 387) (As := [.int z143]) (rest := []) ⟨hx, hb, hml, hown, hts⟩ hK hP hN hS (c_X12_joins l D cA ad hI σ1 τ0 hR z143 (pnt K) (by omega) (by omega) (by omega) (pnt_pn K) gPV gSN) (cwV 1 hts gX12_behind_X12_joins rfl rfl rfl (by decide +kernel) ⟨by decide, by decide⟩) (rv_M hK hP (by decide) (by decide)) rfl hl.1 rfl (Nat.le_of_ble_eq_true rfl) dX12_behind_95 (Nat.zero_le _) (Nat.zero_le _) (fun u144 H144 locs144 hp144 hP hS => ?_)
      obtain ⟨σ144, τ144⟩ := u144
      obtain ⟨hR, f144, fL144, hp144_0, hp144_1, hp144_2, hp144_3, gnPV, gnSN⟩ : P_X12_joins σ1 τ0 z143 (pnt K) σ144 τ144 := hp144
      have nb := hp144_2
      have hP : va_P D vwCl (gw cA ad σ144 τ144) H144 := hP
      obtain rfl := FrL.nil fL144
      have hF := hF.step f144 (by decide)
      have gMK := gMK.ag (Agr.fr f144 (by decide))
      have gMT := gMT.ag (Agr.fr f144 (by decide))
      have t145 : (σ144 387 39).toInt = (σ1 387 39).toInt := congrArg Int32.toInt (f144.at 387 39 (by decide))
      have t146 : (σ144 387 42).toInt = (σ1 387 42).toInt := congrArg Int32.toInt (f144.at 387 42 (by decide))
      have t147 : (σ144 387 15).toInt = (σ1 387 15).toInt := congrArg Int32.toInt (f144.at 387 15 (by decide))
      have hr148 := rg_12_38 hR (k := 387) (by decide) (by decide)
      have hr149 := rg_12_40 hR (k := 387) (by decide) (by decide)
      have gPV := gnPV
      have gSN := gnSN
      refine lv_aload_n hx hb dX12_behind_98 rfl (lv_at hl 0 rfl) ?_
      refine r_bipush hx hb dX12_behind_99 (by decide) (fun z150 ez150 => ?_)
      refine r_cVi (k := 387) (As := [.int z150]) (rest := []) ⟨hx, hb, hml, hown, hts⟩ hK hP hN hS (c_X12_isSign_s l D cA ad hI σ144 τ0 hR z150 b N mo q 45 (by omega) (by omega) gMK) (cwV 1 hts gX12_behind_X12_isSign rfl rfl rfl (by decide +kernel) ⟨by decide, by decide⟩) (rv_M hK hP (by decide) (by decide)) rfl hl.1 rfl (Nat.le_of_ble_eq_true rfl) dX12_behind_101 (Nat.zero_le _) (Nat.zero_le _) (fun r151 u151 H151 locs151 hp151 hP hS => ?_)
      obtain ⟨σ151, τ151⟩ := u151
      obtain ⟨hR, f151, fL151, hq151, hp151_0, hp151_1, gnMK⟩ : P_X12_isSign_s σ144 τ0 z150 b N mo q 45 r151 σ151 τ151 := hp151
      have ia5 := hp151_1
      have hP : va_P D vwCl (gw cA ad σ151 τ151) H151 := hP
      obtain rfl := FrL.nil fL151
      obtain rfl := Fr.nil f151
      refine r_if_eq (tgt := 114) hx hb dX12_behind_104 (by decide) (fun c152 => ?_) (fun c152 => ?_)
      · clear hp151_0
        refine lv_aload_n hx hb dX12_behind_114 rfl (lv_at hl 0 rfl) ?_
        refine r_iconst hx hb dX12_behind_115 (by decide) (fun z153 ez153 => ?_)
        refine r_cVi (k := 387) (As := [.int z153]) (rest := []) ⟨hx, hb, hml, hown, hts⟩ hK hP hN hS (c_X12_bad_v l D cA ad hI σ144 τ0 hR z153 _ _ _ _ (by omega) gMK) (cwV 1 hts gX12_behind_X12_bad rfl rfl rfl (by decide +kernel) ⟨by decide, by decide⟩) (rv_M hK hP (by decide) (by decide)) rfl hl.1 rfl (Nat.le_of_ble_eq_true rfl) dX12_behind_116 (Nat.zero_le _) (Nat.zero_le _) (fun r154 u154 H154 locs154 hp154 hP hS => ?_)
        obtain ⟨σ154, τ154⟩ := u154
        obtain ⟨hR, f154, fL154, hq154, hp154_0, hp154_1, hp154_2, gnMK⟩ : P_X12_bad_v σ144 τ0 z153 _ _ _ _ r154 σ154 τ154 := hp154
        have hP : va_P D vwCl (gw cA ad σ154 τ154) H154 := hP
        obtain rfl := FrL.nil fL154
        have hF := hF.step f154 (by decide)
        have gMK := gMK.ag (Agr.fr f154 (by decide))
        have gMT := gMT.ag (Agr.fr f154 (by decide))
        have gPV := PV.fr gPV hR f154 (by decide)
        have gSN := gSN.ag (Agr.fr f154 (by decide))
        have t155 : (σ154 387 39).toInt = (σ144 387 39).toInt := congrArg Int32.toInt (f154.at 387 39 (by decide))
        have t156 : (σ154 387 42).toInt = (σ144 387 42).toInt := congrArg Int32.toInt (f154.at 387 42 (by decide))
        have t157 : (σ154 387 38).toInt = (σ144 387 38).toInt := congrArg Int32.toInt (f154.at 387 38 (by decide))
        have t158 : (σ154 387 40).toInt = (σ144 387 40).toInt := congrArg Int32.toInt (f154.at 387 40 (by decide))
        exact r_zret hx hb hr hK hP hS hk (by omega) dX12_behind_119 (show P_X12_behind σ0 τ0 b N mo q nn K r154 σ154 τ0 from ⟨hR, hF, hFL, by omega, by first | exact Or.inl (by omega) | exact Or.inr gPV, by omega, by omega, by first | (exfalso; omega) | exact MO.ofr (beh_j (by omega)) (by omega) ⟨gMK, by show _ = ((nn : Nat) : Int); omega, gSN, by show _ = (0 : Int); omega⟩ | exact MO.ofk (beh_x (by omega) (Or.inl (by omega))) (by omega) (by omega) (by omega) | exact MO.ofk (beh_x (by omega) (Or.inr (gSN.emp (by omega)))) (by omega) (by omega) (by omega) | exact MO.ofr ((congrArg (behP b N mo q nn) ek1).trans (beh_c (by omega))) (by omega) ⟨gMK, by show _ = ((nn : Nat) : Int); omega, gSN, by show _ = (1 : Int); omega⟩, by omega, gMT, gRV⟩)
      · replace hp151_0 := hp151_0.resolve_left (by omega)
        refine lv_aload_n hx hb dX12_behind_107 rfl (lv_at hl 0 rfl) ?_
        refine fg_12_40 (k := 387) hx hb hts in_X12_behind_12 hown hK hP (by decide) (by decide) (hts _ lk_X12_behind_434) dX12_behind_108 ?_
        refine r_if_ne (tgt := 120) hx hb dX12_behind_111 (by decide) (fun c159 => ?_) (fun c159 => ?_)
        · refine lv_aload_n hx hb dX12_behind_120 rfl (lv_at hl 0 rfl) ?_
          refine lv_dup hx hb dX12_behind_121 rfl ?_
          have hcl := nb ((σ144 387 40).toInt - 1).toNat (by omega) (by omega)
          have ejl : ((((σ144 387 40).toInt - 1).toNat : Nat) : Int) = (σ144 387 40).toInt - 1 := (by omega)
          refine fg_12_40 (k := 387) hx hb hts in_X12_behind_12 hown hK hP (by decide) (by decide) (hts _ lk_X12_behind_434) dX12_behind_122 ?_
          refine r_iconst hx hb dX12_behind_125 (by decide) (fun z160 ez160 => ?_)
          refine r_isub hx hb dX12_behind_126 (by omega) (fun z161 ez161 => ?_)
          refine fp_12_40 (k := 387) hx hb hts in_X12_behind_12 hown hK hP (by decide) (by decide) (hts _ lk_X12_behind_434) hI hR hS (by omega) dX12_behind_127 (fun σ162 H162 locs162 u162 v162 hR hP hS => ?_)
          have ut := u162
          have vt := v162
          have hF := hF.puts u162 3 rfl (by decide) (by decide) (by decide) (by decide)
          have gMK := gMK.ag (Agr.put u162 (by decide))
          have gMT := gMT.ag (Agr.put u162 (by decide))
          have t163 : (σ162 387 39).toInt = (σ144 387 39).toInt := congrArg Int32.toInt (u162 387 39 (by omega))
          have t164 : (σ162 387 42).toInt = (σ144 387 42).toInt := congrArg Int32.toInt (u162 387 42 (by omega))
          have t165 : (σ162 387 15).toInt = (σ144 387 15).toInt := congrArg Int32.toInt (u162 387 15 (by omega))
          have t166 : (σ162 387 38).toInt = (σ144 387 38).toInt := congrArg Int32.toInt (u162 387 38 (by omega))
          have gPV := PV.close gPV ejl hcl ut (by omega)
          refine lv_aload_n hx hb dX12_behind_130 rfl (lv_at hl 0 rfl) ?_
          refine lv_dup hx hb dX12_behind_131 rfl ?_
          refine fg_12_41 (k := 387) hx hb hts in_X12_behind_12 hown hK hP (by decide) (by decide) (hts _ lk_X12_behind_440) dX12_behind_132 ?_
          have hdl := SN.dl gSN
          have hd9 := congrArg Int32.toInt (ut 387 41 (by omega))
          refine r_iconst hx hb dX12_behind_135 (by decide) (fun z167 ez167 => ?_)
          refine r_isub hx hb dX12_behind_136 (by omega) (fun z168 ez168 => ?_)
          refine fp_12_41 (k := 387) hx hb hts in_X12_behind_12 hown hK hP (by decide) (by decide) (hts _ lk_X12_behind_440) hI hR hS dX12_behind_137 (fun σ169 H169 locs169 u169 v169 hR hP hS => ?_)
          have ud := u169
          have vd := v169
          have hF := hF.puts u169 3 rfl (by decide) (by decide) (by decide) (by decide)
          have gMK := gMK.ag (Agr.put u169 (by decide))
          have gMT := gMT.ag (Agr.put u169 (by decide))
          have gPV := PV.put gPV hR u169 (by decide)
          have t170 : (σ169 387 39).toInt = (σ162 387 39).toInt := congrArg Int32.toInt (u169 387 39 (by omega))
          have t171 : (σ169 387 42).toInt = (σ162 387 42).toInt := congrArg Int32.toInt (u169 387 42 (by omega))
          have t172 : (σ169 387 15).toInt = (σ162 387 15).toInt := congrArg Int32.toInt (u169 387 15 (by omega))
          have t173 : (σ169 387 38).toInt = (σ162 387 38).toInt := congrArg Int32.toInt (u169 387 38 (by omega))
          have t174 : (σ169 387 40).toInt = (σ162 387 40).toInt := congrArg Int32.toInt (u169 387 40 (by omega))
          obtain ⟨K1, ek1, gSN⟩ := SN.close gSN (pnt_pn K) (by omega) hcl ut (by omega) ud (by omega)
          refine lv_aload_n hx hb dX12_behind_140 rfl (lv_at hl 0 rfl) ?_
          refine r_cVv (k := 387) (As := []) (rest := []) ⟨hx, hb, hml, hown, hts⟩ hK hP hN hS (c_X12_next_v l D cA ad hI σ169 τ0 hR _ _ _ _ gMK.mp gMT) (cwV 0 hts gX12_behind_X12_next rfl rfl rfl (by decide +kernel) ⟨by decide, by decide⟩) (rv_M hK hP (by decide) (by decide)) rfl hl.1 rfl (Nat.le_of_ble_eq_true rfl) dX12_behind_141 (Nat.zero_le _) (Nat.zero_le _) (fun u175 H175 locs175 hp175 hP hS => ?_)
          obtain ⟨σ175, τ175⟩ := u175
          obtain ⟨hR, f175, fL175, hp175_0, hp175_1, hp175_2, hp175_3, gnMT⟩ : P_X12_next_v σ169 τ0 _ _ _ _ σ175 τ175 := hp175
          have hP : va_P D vwCl (gw cA ad σ175 τ175) H175 := hP
          have hFL := hFL.step fL175 (by decide)
          have gRV := gRV.agL (AgrL.fr fL175 (by decide))
          have hF := hF.step f175 (by decide)
          have gMT := gMT.ag (Agr.fr f175 (by decide))
          have gPV := PV.fr gPV hR f175 (by decide)
          have gSN := gSN.ag (Agr.fr f175 (by decide))
          have t176 : (σ175 387 39).toInt = (σ169 387 39).toInt := congrArg Int32.toInt (f175.at 387 39 (by decide))
          have t177 : (σ175 387 42).toInt = (σ169 387 42).toInt := congrArg Int32.toInt (f175.at 387 42 (by decide))
          have t178 : (σ175 387 15).toInt = (σ169 387 15).toInt := congrArg Int32.toInt (f175.at 387 15 (by decide))
          have t179 : (σ175 387 38).toInt = (σ169 387 38).toInt := congrArg Int32.toInt (f175.at 387 38 (by decide))
          have t180 : (σ175 387 40).toInt = (σ169 387 40).toInt := congrArg Int32.toInt (f175.at 387 40 (by decide))
          have gMK := hp175_3
          refine r_iconst hx hb dX12_behind_144 (by decide) (fun z181 ez181 => ?_)
          exact r_zret hx hb hr hK hP hS hk (by omega) dX12_behind_145 (show P_X12_behind σ0 τ0 b N mo q nn K z181 σ175 τ175 from ⟨hR, hF, hFL, by omega, by first | exact Or.inl (by omega) | exact Or.inr gPV, by omega, by omega, by first | (exfalso; omega) | exact MO.ofr (beh_j (by omega)) (by omega) ⟨gMK, by show _ = ((nn : Nat) : Int); omega, gSN, by show _ = (0 : Int); omega⟩ | exact MO.ofk (beh_x (by omega) (Or.inl (by omega))) (by omega) (by omega) (by omega) | exact MO.ofk (beh_x (by omega) (Or.inr (gSN.emp (by omega)))) (by omega) (by omega) (by omega) | exact MO.ofr ((congrArg (behP b N mo q nn) ek1).trans (beh_c (by omega))) (by omega) ⟨gMK, by show _ = ((nn : Nat) : Int); omega, gSN, by show _ = (1 : Int); omega⟩, by omega, gMT, gRV⟩)
        · refine lv_aload_n hx hb dX12_behind_114 rfl (lv_at hl 0 rfl) ?_
          refine r_iconst hx hb dX12_behind_115 (by decide) (fun z182 ez182 => ?_)
          refine r_cVi (k := 387) (As := [.int z182]) (rest := []) ⟨hx, hb, hml, hown, hts⟩ hK hP hN hS (c_X12_bad_v l D cA ad hI σ144 τ0 hR z182 _ _ _ _ (by omega) gMK) (cwV 1 hts gX12_behind_X12_bad rfl rfl rfl (by decide +kernel) ⟨by decide, by decide⟩) (rv_M hK hP (by decide) (by decide)) rfl hl.1 rfl (Nat.le_of_ble_eq_true rfl) dX12_behind_116 (Nat.zero_le _) (Nat.zero_le _) (fun r183 u183 H183 locs183 hp183 hP hS => ?_)
          obtain ⟨σ183, τ183⟩ := u183
          obtain ⟨hR, f183, fL183, hq183, hp183_0, hp183_1, hp183_2, gnMK⟩ : P_X12_bad_v σ144 τ0 z182 _ _ _ _ r183 σ183 τ183 := hp183
          have hP : va_P D vwCl (gw cA ad σ183 τ183) H183 := hP
          obtain rfl := FrL.nil fL183
          have hF := hF.step f183 (by decide)
          have gMK := gMK.ag (Agr.fr f183 (by decide))
          have gMT := gMT.ag (Agr.fr f183 (by decide))
          have gPV := PV.fr gPV hR f183 (by decide)
          have gSN := gSN.ag (Agr.fr f183 (by decide))
          have t184 : (σ183 387 39).toInt = (σ144 387 39).toInt := congrArg Int32.toInt (f183.at 387 39 (by decide))
          have t185 : (σ183 387 42).toInt = (σ144 387 42).toInt := congrArg Int32.toInt (f183.at 387 42 (by decide))
          have t186 : (σ183 387 38).toInt = (σ144 387 38).toInt := congrArg Int32.toInt (f183.at 387 38 (by decide))
          have t187 : (σ183 387 40).toInt = (σ144 387 40).toInt := congrArg Int32.toInt (f183.at 387 40 (by decide))
          exact r_zret hx hb hr hK hP hS hk (by omega) dX12_behind_119 (show P_X12_behind σ0 τ0 b N mo q nn K r183 σ183 τ0 from ⟨hR, hF, hFL, by omega, by first | exact Or.inl (by omega) | exact Or.inr gPV, by omega, by omega, by first | (exfalso; omega) | exact MO.ofr (beh_j (by omega)) (by omega) ⟨gMK, by show _ = ((nn : Nat) : Int); omega, gSN, by show _ = (0 : Int); omega⟩ | exact MO.ofk (beh_x (by omega) (Or.inl (by omega))) (by omega) (by omega) (by omega) | exact MO.ofk (beh_x (by omega) (Or.inr (gSN.emp (by omega)))) (by omega) (by omega) (by omega) | exact MO.ofr ((congrArg (behP b N mo q nn) ek1).trans (beh_c (by omega))) (by omega) ⟨gMK, by show _ = ((nn : Nat) : Int); omega, gSN, by show _ = (1 : Int); omega⟩, by omega, gMT, gRV⟩)
    · replace hp141_0 := hp141_0.resolve_left (by omega)
      refine lv_aload_n hx hb dX12_behind_24 rfl (lv_at hl 0 rfl) ?_
      refine lv_aload_n hx hb dX12_behind_25 rfl (lv_at hl 0 rfl) ?_
      refine lv_ldc2 (v := 6385252) hx hb hown (hts _ lk_X12_behind_129) dX12_behind_26 ?_
      refine r_cVi (k := 387) (As := [.long (6385252)]) (rest := [.ref (ad 387)]) ⟨hx, hb, hml, hown, hts⟩ hK hP hN hS (c_X12_isWord_v l D cA ad hI σ1 τ0 hR (6385252) _ _ _ _ 21 (by decide) (by decide) gMK) (cwV 1 hts gX12_behind_X12_isWord rfl rfl rfl (by decide +kernel) ⟨by decide, by decide⟩) (rv_M hK hP (by decide) (by decide)) rfl hl.1 rfl (Nat.le_of_ble_eq_true rfl) dX12_behind_29 (Nat.zero_le _) (Nat.zero_le _) (fun r188 u188 H188 locs188 hp188 hP hS => ?_)
      obtain ⟨σ188, τ188⟩ := u188
      obtain ⟨hR, f188, fL188, hq188, hp188_0, hp188_1, gnMK⟩ : P_X12_isWord_v σ1 τ0 (6385252) _ _ _ _ 21 r188 σ188 τ188 := hp188
      have ia3 := hp188_1
      have hP : va_P D vwCl (gw cA ad σ188 τ188) H188 := hP
      obtain rfl := FrL.nil fL188
      obtain rfl := Fr.nil f188
      refine r_if_eq (tgt := 40) hx hb dX12_behind_32 (by decide) (fun c189 => ?_) (fun c189 => ?_)
      · clear hp188_0
        refine r_bipush hx hb dX12_behind_40 (by decide) (fun z190 ez190 => ?_)
        refine r_cVv (k := 387) (As := [.int z190]) (rest := []) ⟨hx, hb, hml, hown, hts⟩ hK hP hN hS (c_X12_joins l D cA ad hI σ1 τ0 hR z190 (pnt K) (by omega) (by omega) (by omega) (pnt_pn K) gPV gSN) (cwV 1 hts gX12_behind_X12_joins rfl rfl rfl (by decide +kernel) ⟨by decide, by decide⟩) (rv_M hK hP (by decide) (by decide)) rfl hl.1 rfl (Nat.le_of_ble_eq_true rfl) dX12_behind_42 (Nat.zero_le _) (Nat.zero_le _) (fun u191 H191 locs191 hp191 hP hS => ?_)
        obtain ⟨σ191, τ191⟩ := u191
        obtain ⟨hR, f191, fL191, hp191_0, hp191_1, hp191_2, hp191_3, gnPV, gnSN⟩ : P_X12_joins σ1 τ0 z190 (pnt K) σ191 τ191 := hp191
        have hP : va_P D vwCl (gw cA ad σ191 τ191) H191 := hP
        obtain rfl := FrL.nil fL191
        have hF := hF.step f191 (by decide)
        have gMK := gMK.ag (Agr.fr f191 (by decide))
        have gMT := gMT.ag (Agr.fr f191 (by decide))
        have t192 : (σ191 387 39).toInt = (σ1 387 39).toInt := congrArg Int32.toInt (f191.at 387 39 (by decide))
        have t193 : (σ191 387 42).toInt = (σ1 387 42).toInt := congrArg Int32.toInt (f191.at 387 42 (by decide))
        have t194 : (σ191 387 15).toInt = (σ1 387 15).toInt := congrArg Int32.toInt (f191.at 387 15 (by decide))
        have hr195 := rg_12_38 hR (k := 387) (by decide) (by decide)
        have hr196 := rg_12_40 hR (k := 387) (by decide) (by decide)
        have gPV := gnPV
        have gSN := gnSN
        refine lv_aload_n hx hb dX12_behind_45 rfl (lv_at hl 0 rfl) ?_
        refine fg_12_37 (k := 387) hx hb hts in_X12_behind_12 hown hK hP (by decide) (by decide) (hts _ lk_X12_behind_71) dX12_behind_46 ?_
        refine lv_aload_n hx hb dX12_behind_49 rfl (lv_at hl 0 rfl) ?_
        refine fg_12_40 (k := 387) hx hb hts in_X12_behind_12 hown hK hP (by decide) (by decide) (hts _ lk_X12_behind_434) dX12_behind_50 ?_
        refine lv_aload_n hx hb dX12_behind_53 rfl (lv_at hl 0 rfl) ?_
        refine lv_ldc2 (v := 6385252) hx hb hown (hts _ lk_X12_behind_129) dX12_behind_54 ?_
        refine r_cVi (k := 387) (As := [.long (6385252)]) (rest := [.int (σ191 387 40), .ref (ad 401)]) ⟨hx, hb, hml, hown, hts⟩ hK hP hN hS (c_X12_isWord_v l D cA ad hI σ191 τ0 hR (6385252) _ _ _ _ 21 (by decide) (by decide) gMK) (cwV 1 hts gX12_behind_X12_isWord rfl rfl rfl (by decide +kernel) ⟨by decide, by decide⟩) (rv_M hK hP (by decide) (by decide)) rfl hl.1 rfl (Nat.le_of_ble_eq_true rfl) dX12_behind_57 (Nat.zero_le _) (Nat.zero_le _) (fun r197 u197 H197 locs197 hp197 hP hS => ?_)
        obtain ⟨σ197, τ197⟩ := u197
        obtain ⟨hR, f197, fL197, hq197, hp197_0, hp197_1, gnMK⟩ : P_X12_isWord_v σ191 τ0 (6385252) _ _ _ _ 21 r197 σ197 τ197 := hp197
        have ia4 := hp197_1
        have hP : va_P D vwCl (gw cA ad σ197 τ197) H197 := hP
        obtain rfl := FrL.nil fL197
        obtain rfl := Fr.nil f197
        refine r_if_eq (tgt := 68) hx hb dX12_behind_60 (by decide) (fun c198 => ?_) (fun c198 => ?_)
        · clear hp197_0
          refine r_bipush hx hb dX12_behind_68 (by decide) (fun z199 ez199 => ?_)
          obtain ⟨j200, ej200⟩ : ∃ j : Nat, (σ191 387 40).toInt = (j : Int) := ⟨_, ti_nat (by omega)⟩
          refine as_mstack (k := 401) (j := j200) hx hb hK hP hI hR hS (by decide) (by decide) ej200 (by omega) dX12_behind_70 (fun σ201 H201 locs201 u201 v201 hR hP hS => ?_)
          have ua := u201
          have va := v201
          have hF := hF.puts u201 2 rfl (by decide) (by decide) (by omega) (by omega)
          have gMK := gMK.ag (Agr.putV u201 (by intro q hq; simp only [Gd_MK, List.mem_cons, List.not_mem_nil, or_false] at hq; rcases hq with rfl | rfl | rfl <;> dsimp only [inRc] <;> omega))
          have gMT := gMT.ag (Agr.putV u201 (by intro q hq; simp only [Gd_MT, List.mem_cons, List.not_mem_nil, or_false] at hq; rcases hq with rfl | rfl | rfl <;> dsimp only [inRc] <;> omega))
          have t202 : (σ201 387 39).toInt = (σ191 387 39).toInt := congrArg Int32.toInt (u201 387 39 (by omega))
          have t203 : (σ201 387 42).toInt = (σ191 387 42).toInt := congrArg Int32.toInt (u201 387 42 (by omega))
          have t204 : (σ201 387 15).toInt = (σ191 387 15).toInt := congrArg Int32.toInt (u201 387 15 (by omega))
          have t205 : (σ201 387 38).toInt = (σ191 387 38).toInt := congrArg Int32.toInt (u201 387 38 (by omega))
          have t206 : (σ201 387 40).toInt = (σ191 387 40).toInt := congrArg Int32.toInt (u201 387 40 (by omega))
          refine lv_aload_n hx hb dX12_behind_71 rfl (lv_at hl 0 rfl) ?_
          refine lv_dup hx hb dX12_behind_72 rfl ?_
          refine fg_12_40 (k := 387) hx hb hts in_X12_behind_12 hown hK hP (by decide) (by decide) (hts _ lk_X12_behind_434) dX12_behind_73 ?_
          refine r_iconst hx hb dX12_behind_76 (by decide) (fun z207 ez207 => ?_)
          refine r_iadd hx hb dX12_behind_77 (by omega) (fun z208 ez208 => ?_)
          refine fp_12_40 (k := 387) hx hb hts in_X12_behind_12 hown hK hP (by decide) (by decide) (hts _ lk_X12_behind_434) hI hR hS (by omega) dX12_behind_78 (fun σ209 H209 locs209 u209 v209 hR hP hS => ?_)
          have ub := u209
          have vb := v209
          have hF := hF.puts u209 3 rfl (by decide) (by decide) (by decide) (by decide)
          have gMK := gMK.ag (Agr.put u209 (by decide))
          have gMT := gMT.ag (Agr.put u209 (by decide))
          have t210 : (σ209 387 39).toInt = (σ201 387 39).toInt := congrArg Int32.toInt (u209 387 39 (by omega))
          have t211 : (σ209 387 42).toInt = (σ201 387 42).toInt := congrArg Int32.toInt (u209 387 42 (by omega))
          have t212 : (σ209 387 15).toInt = (σ201 387 15).toInt := congrArg Int32.toInt (u209 387 15 (by omega))
          have t213 : (σ209 387 38).toInt = (σ201 387 38).toInt := congrArg Int32.toInt (u209 387 38 (by omega))
          have gSN := SN.push gSN (pnt_pn K) (by omega) (by omega) ua (by omega) ub (by omega)
          refine lv_aload_n hx hb dX12_behind_81 rfl (lv_at hl 0 rfl) ?_
          refine r_iconst hx hb dX12_behind_82 (by decide) (fun z214 ez214 => ?_)
          refine fp_12_42 (k := 387) hx hb hts in_X12_behind_12 hown hK hP (by decide) (by decide) (hts _ lk_X12_behind_449) hI hR hS (by omega) dX12_behind_83 (fun σ215 H215 locs215 u215 v215 hR hP hS => ?_)
          have uc := u215
          have vc := v215
          have hF := hF.puts u215 3 rfl (by decide) (by decide) (by decide) (by decide)
          have gMK := gMK.ag (Agr.put u215 (by decide))
          have gMT := gMT.ag (Agr.put u215 (by decide))
          have gSN := gSN.ag (Agr.put u215 (by decide))
          have t216 : (σ215 387 39).toInt = (σ209 387 39).toInt := congrArg Int32.toInt (u215 387 39 (by omega))
          have t217 : (σ215 387 15).toInt = (σ209 387 15).toInt := congrArg Int32.toInt (u215 387 15 (by omega))
          have t218 : (σ215 387 38).toInt = (σ209 387 38).toInt := congrArg Int32.toInt (u215 387 38 (by omega))
          have t219 : (σ215 387 40).toInt = (σ209 387 40).toInt := congrArg Int32.toInt (u215 387 40 (by omega))
          have gPV := PV.bin gPV (by omega) ua va (by omega) (by omega) ub (by omega) uc (by omega)
          refine lv_aload_n hx hb dX12_behind_86 rfl (lv_at hl 0 rfl) ?_
          refine r_cVv (k := 387) (As := []) (rest := []) ⟨hx, hb, hml, hown, hts⟩ hK hP hN hS (c_X12_next_v l D cA ad hI σ215 τ0 hR _ _ _ _ gMK.mp gMT) (cwV 0 hts gX12_behind_X12_next rfl rfl rfl (by decide +kernel) ⟨by decide, by decide⟩) (rv_M hK hP (by decide) (by decide)) rfl hl.1 rfl (Nat.le_of_ble_eq_true rfl) dX12_behind_87 (Nat.zero_le _) (Nat.zero_le _) (fun u220 H220 locs220 hp220 hP hS => ?_)
          obtain ⟨σ220, τ220⟩ := u220
          obtain ⟨hR, f220, fL220, hp220_0, hp220_1, hp220_2, hp220_3, gnMT⟩ : P_X12_next_v σ215 τ0 _ _ _ _ σ220 τ220 := hp220
          have hP : va_P D vwCl (gw cA ad σ220 τ220) H220 := hP
          have hFL := hFL.step fL220 (by decide)
          have gRV := gRV.agL (AgrL.fr fL220 (by decide))
          have hF := hF.step f220 (by decide)
          have gMT := gMT.ag (Agr.fr f220 (by decide))
          have gPV := PV.fr gPV hR f220 (by decide)
          have gSN := gSN.ag (Agr.fr f220 (by decide))
          have t221 : (σ220 387 39).toInt = (σ215 387 39).toInt := congrArg Int32.toInt (f220.at 387 39 (by decide))
          have t222 : (σ220 387 15).toInt = (σ215 387 15).toInt := congrArg Int32.toInt (f220.at 387 15 (by decide))
          have t223 : (σ220 387 38).toInt = (σ215 387 38).toInt := congrArg Int32.toInt (f220.at 387 38 (by decide))
          have t224 : (σ220 387 40).toInt = (σ215 387 40).toInt := congrArg Int32.toInt (f220.at 387 40 (by decide))
          have t225 : (σ220 387 42).toInt = (σ215 387 42).toInt := congrArg Int32.toInt (f220.at 387 42 (by decide))
          have gMK := hp220_3
          refine r_iconst hx hb dX12_behind_90 (by decide) (fun z226 ez226 => ?_)
          exact r_zret hx hb hr hK hP hS hk (by omega) dX12_behind_91 (show P_X12_behind σ0 τ0 b N mo q nn K z226 σ220 τ220 from ⟨hR, hF, hFL, by omega, by first | exact Or.inl (by omega) | exact Or.inr gPV, by omega, by omega, by first | (exfalso; omega) | exact MO.ofr (beh_j (by omega)) (by omega) ⟨gMK, by show _ = ((nn : Nat) : Int); omega, gSN, by show _ = (0 : Int); omega⟩ | exact MO.ofk (beh_x (by omega) (Or.inl (by omega))) (by omega) (by omega) (by omega) | exact MO.ofk (beh_x (by omega) (Or.inr (gSN.emp (by omega)))) (by omega) (by omega) (by omega) | exact MO.ofr ((congrArg (behP b N mo q nn) ek1).trans (beh_c (by omega))) (by omega) ⟨gMK, by show _ = ((nn : Nat) : Int); omega, gSN, by show _ = (1 : Int); omega⟩, by omega, gMT, gRV⟩)
        · replace hp197_0 := hp197_0.resolve_left (by omega)
          refine r_bipush hx hb dX12_behind_63 (by decide) (fun z227 ez227 => ?_)
          refine lv_goto (tgt := 70) hx hb dX12_behind_65 (by decide) ?_
          obtain ⟨j228, ej228⟩ : ∃ j : Nat, (σ191 387 40).toInt = (j : Int) := ⟨_, ti_nat (by omega)⟩
          refine as_mstack (k := 401) (j := j228) hx hb hK hP hI hR hS (by decide) (by decide) ej228 (by omega) dX12_behind_70 (fun σ229 H229 locs229 u229 v229 hR hP hS => ?_)
          have ua := u229
          have va := v229
          have hF := hF.puts u229 2 rfl (by decide) (by decide) (by omega) (by omega)
          have gMK := gMK.ag (Agr.putV u229 (by intro q hq; simp only [Gd_MK, List.mem_cons, List.not_mem_nil, or_false] at hq; rcases hq with rfl | rfl | rfl <;> dsimp only [inRc] <;> omega))
          have gMT := gMT.ag (Agr.putV u229 (by intro q hq; simp only [Gd_MT, List.mem_cons, List.not_mem_nil, or_false] at hq; rcases hq with rfl | rfl | rfl <;> dsimp only [inRc] <;> omega))
          have t230 : (σ229 387 39).toInt = (σ191 387 39).toInt := congrArg Int32.toInt (u229 387 39 (by omega))
          have t231 : (σ229 387 42).toInt = (σ191 387 42).toInt := congrArg Int32.toInt (u229 387 42 (by omega))
          have t232 : (σ229 387 15).toInt = (σ191 387 15).toInt := congrArg Int32.toInt (u229 387 15 (by omega))
          have t233 : (σ229 387 38).toInt = (σ191 387 38).toInt := congrArg Int32.toInt (u229 387 38 (by omega))
          have t234 : (σ229 387 40).toInt = (σ191 387 40).toInt := congrArg Int32.toInt (u229 387 40 (by omega))
          refine lv_aload_n hx hb dX12_behind_71 rfl (lv_at hl 0 rfl) ?_
          refine lv_dup hx hb dX12_behind_72 rfl ?_
          refine fg_12_40 (k := 387) hx hb hts in_X12_behind_12 hown hK hP (by decide) (by decide) (hts _ lk_X12_behind_434) dX12_behind_73 ?_
          refine r_iconst hx hb dX12_behind_76 (by decide) (fun z235 ez235 => ?_)
          refine r_iadd hx hb dX12_behind_77 (by omega) (fun z236 ez236 => ?_)
          refine fp_12_40 (k := 387) hx hb hts in_X12_behind_12 hown hK hP (by decide) (by decide) (hts _ lk_X12_behind_434) hI hR hS (by omega) dX12_behind_78 (fun σ237 H237 locs237 u237 v237 hR hP hS => ?_)
          have ub := u237
          have vb := v237
          have hF := hF.puts u237 3 rfl (by decide) (by decide) (by decide) (by decide)
          have gMK := gMK.ag (Agr.put u237 (by decide))
          have gMT := gMT.ag (Agr.put u237 (by decide))
          have t238 : (σ237 387 39).toInt = (σ229 387 39).toInt := congrArg Int32.toInt (u237 387 39 (by omega))
          have t239 : (σ237 387 42).toInt = (σ229 387 42).toInt := congrArg Int32.toInt (u237 387 42 (by omega))
          have t240 : (σ237 387 15).toInt = (σ229 387 15).toInt := congrArg Int32.toInt (u237 387 15 (by omega))
          have t241 : (σ237 387 38).toInt = (σ229 387 38).toInt := congrArg Int32.toInt (u237 387 38 (by omega))
          have gSN := SN.push gSN (pnt_pn K) (by omega) (by omega) ua (by omega) ub (by omega)
          refine lv_aload_n hx hb dX12_behind_81 rfl (lv_at hl 0 rfl) ?_
          refine r_iconst hx hb dX12_behind_82 (by decide) (fun z242 ez242 => ?_)
          refine fp_12_42 (k := 387) hx hb hts in_X12_behind_12 hown hK hP (by decide) (by decide) (hts _ lk_X12_behind_449) hI hR hS (by omega) dX12_behind_83 (fun σ243 H243 locs243 u243 v243 hR hP hS => ?_)
          have uc := u243
          have vc := v243
          have hF := hF.puts u243 3 rfl (by decide) (by decide) (by decide) (by decide)
          have gMK := gMK.ag (Agr.put u243 (by decide))
          have gMT := gMT.ag (Agr.put u243 (by decide))
          have gSN := gSN.ag (Agr.put u243 (by decide))
          have t244 : (σ243 387 39).toInt = (σ237 387 39).toInt := congrArg Int32.toInt (u243 387 39 (by omega))
          have t245 : (σ243 387 15).toInt = (σ237 387 15).toInt := congrArg Int32.toInt (u243 387 15 (by omega))
          have t246 : (σ243 387 38).toInt = (σ237 387 38).toInt := congrArg Int32.toInt (u243 387 38 (by omega))
          have t247 : (σ243 387 40).toInt = (σ237 387 40).toInt := congrArg Int32.toInt (u243 387 40 (by omega))
          have gPV := PV.bin gPV (by omega) ua va (by omega) (by omega) ub (by omega) uc (by omega)
          refine lv_aload_n hx hb dX12_behind_86 rfl (lv_at hl 0 rfl) ?_
          refine r_cVv (k := 387) (As := []) (rest := []) ⟨hx, hb, hml, hown, hts⟩ hK hP hN hS (c_X12_next_v l D cA ad hI σ243 τ0 hR _ _ _ _ gMK.mp gMT) (cwV 0 hts gX12_behind_X12_next rfl rfl rfl (by decide +kernel) ⟨by decide, by decide⟩) (rv_M hK hP (by decide) (by decide)) rfl hl.1 rfl (Nat.le_of_ble_eq_true rfl) dX12_behind_87 (Nat.zero_le _) (Nat.zero_le _) (fun u248 H248 locs248 hp248 hP hS => ?_)
          obtain ⟨σ248, τ248⟩ := u248
          obtain ⟨hR, f248, fL248, hp248_0, hp248_1, hp248_2, hp248_3, gnMT⟩ : P_X12_next_v σ243 τ0 _ _ _ _ σ248 τ248 := hp248
          have hP : va_P D vwCl (gw cA ad σ248 τ248) H248 := hP
          have hFL := hFL.step fL248 (by decide)
          have gRV := gRV.agL (AgrL.fr fL248 (by decide))
          have hF := hF.step f248 (by decide)
          have gMT := gMT.ag (Agr.fr f248 (by decide))
          have gPV := PV.fr gPV hR f248 (by decide)
          have gSN := gSN.ag (Agr.fr f248 (by decide))
          have t249 : (σ248 387 39).toInt = (σ243 387 39).toInt := congrArg Int32.toInt (f248.at 387 39 (by decide))
          have t250 : (σ248 387 15).toInt = (σ243 387 15).toInt := congrArg Int32.toInt (f248.at 387 15 (by decide))
          have t251 : (σ248 387 38).toInt = (σ243 387 38).toInt := congrArg Int32.toInt (f248.at 387 38 (by decide))
          have t252 : (σ248 387 40).toInt = (σ243 387 40).toInt := congrArg Int32.toInt (f248.at 387 40 (by decide))
          have t253 : (σ248 387 42).toInt = (σ243 387 42).toInt := congrArg Int32.toInt (f248.at 387 42 (by decide))
          have gMK := hp248_3
          refine r_iconst hx hb dX12_behind_90 (by decide) (fun z254 ez254 => ?_)
          exact r_zret hx hb hr hK hP hS hk (by omega) dX12_behind_91 (show P_X12_behind σ0 τ0 b N mo q nn K z254 σ248 τ248 from ⟨hR, hF, hFL, by omega, by first | exact Or.inl (by omega) | exact Or.inr gPV, by omega, by omega, by first | (exfalso; omega) | exact MO.ofr (beh_j (by omega)) (by omega) ⟨gMK, by show _ = ((nn : Nat) : Int); omega, gSN, by show _ = (0 : Int); omega⟩ | exact MO.ofk (beh_x (by omega) (Or.inl (by omega))) (by omega) (by omega) (by omega) | exact MO.ofk (beh_x (by omega) (Or.inr (gSN.emp (by omega)))) (by omega) (by omega) (by omega) | exact MO.ofr ((congrArg (behP b N mo q nn) ek1).trans (beh_c (by omega))) (by omega) ⟨gMK, by show _ = ((nn : Nat) : Int); omega, gSN, by show _ = (1 : Int); omega⟩, by omega, gMT, gRV⟩)
      · replace hp188_0 := hp188_0.resolve_left (by omega)
        refine r_bipush hx hb dX12_behind_35 (by decide) (fun z255 ez255 => ?_)
        refine lv_goto (tgt := 42) hx hb dX12_behind_37 (by decide) ?_
        refine r_cVv (k := 387) (As := [.int z255]) (rest := []) ⟨hx, hb, hml, hown, hts⟩ hK hP hN hS (c_X12_joins l D cA ad hI σ1 τ0 hR z255 (pnt K) (by omega) (by omega) (by omega) (pnt_pn K) gPV gSN) (cwV 1 hts gX12_behind_X12_joins rfl rfl rfl (by decide +kernel) ⟨by decide, by decide⟩) (rv_M hK hP (by decide) (by decide)) rfl hl.1 rfl (Nat.le_of_ble_eq_true rfl) dX12_behind_42 (Nat.zero_le _) (Nat.zero_le _) (fun u256 H256 locs256 hp256 hP hS => ?_)
        obtain ⟨σ256, τ256⟩ := u256
        obtain ⟨hR, f256, fL256, hp256_0, hp256_1, hp256_2, hp256_3, gnPV, gnSN⟩ : P_X12_joins σ1 τ0 z255 (pnt K) σ256 τ256 := hp256
        have hP : va_P D vwCl (gw cA ad σ256 τ256) H256 := hP
        obtain rfl := FrL.nil fL256
        have hF := hF.step f256 (by decide)
        have gMK := gMK.ag (Agr.fr f256 (by decide))
        have gMT := gMT.ag (Agr.fr f256 (by decide))
        have t257 : (σ256 387 39).toInt = (σ1 387 39).toInt := congrArg Int32.toInt (f256.at 387 39 (by decide))
        have t258 : (σ256 387 42).toInt = (σ1 387 42).toInt := congrArg Int32.toInt (f256.at 387 42 (by decide))
        have t259 : (σ256 387 15).toInt = (σ1 387 15).toInt := congrArg Int32.toInt (f256.at 387 15 (by decide))
        have hr260 := rg_12_38 hR (k := 387) (by decide) (by decide)
        have hr261 := rg_12_40 hR (k := 387) (by decide) (by decide)
        have gPV := gnPV
        have gSN := gnSN
        refine lv_aload_n hx hb dX12_behind_45 rfl (lv_at hl 0 rfl) ?_
        refine fg_12_37 (k := 387) hx hb hts in_X12_behind_12 hown hK hP (by decide) (by decide) (hts _ lk_X12_behind_71) dX12_behind_46 ?_
        refine lv_aload_n hx hb dX12_behind_49 rfl (lv_at hl 0 rfl) ?_
        refine fg_12_40 (k := 387) hx hb hts in_X12_behind_12 hown hK hP (by decide) (by decide) (hts _ lk_X12_behind_434) dX12_behind_50 ?_
        refine lv_aload_n hx hb dX12_behind_53 rfl (lv_at hl 0 rfl) ?_
        refine lv_ldc2 (v := 6385252) hx hb hown (hts _ lk_X12_behind_129) dX12_behind_54 ?_
        refine r_cVi (k := 387) (As := [.long (6385252)]) (rest := [.int (σ256 387 40), .ref (ad 401)]) ⟨hx, hb, hml, hown, hts⟩ hK hP hN hS (c_X12_isWord_v l D cA ad hI σ256 τ0 hR (6385252) _ _ _ _ 21 (by decide) (by decide) gMK) (cwV 1 hts gX12_behind_X12_isWord rfl rfl rfl (by decide +kernel) ⟨by decide, by decide⟩) (rv_M hK hP (by decide) (by decide)) rfl hl.1 rfl (Nat.le_of_ble_eq_true rfl) dX12_behind_57 (Nat.zero_le _) (Nat.zero_le _) (fun r262 u262 H262 locs262 hp262 hP hS => ?_)
        obtain ⟨σ262, τ262⟩ := u262
        obtain ⟨hR, f262, fL262, hq262, hp262_0, hp262_1, gnMK⟩ : P_X12_isWord_v σ256 τ0 (6385252) _ _ _ _ 21 r262 σ262 τ262 := hp262
        have ia4 := hp262_1
        have hP : va_P D vwCl (gw cA ad σ262 τ262) H262 := hP
        obtain rfl := FrL.nil fL262
        obtain rfl := Fr.nil f262
        refine r_if_eq (tgt := 68) hx hb dX12_behind_60 (by decide) (fun c263 => ?_) (fun c263 => ?_)
        · clear hp262_0
          refine r_bipush hx hb dX12_behind_68 (by decide) (fun z264 ez264 => ?_)
          obtain ⟨j265, ej265⟩ : ∃ j : Nat, (σ256 387 40).toInt = (j : Int) := ⟨_, ti_nat (by omega)⟩
          refine as_mstack (k := 401) (j := j265) hx hb hK hP hI hR hS (by decide) (by decide) ej265 (by omega) dX12_behind_70 (fun σ266 H266 locs266 u266 v266 hR hP hS => ?_)
          have ua := u266
          have va := v266
          have hF := hF.puts u266 2 rfl (by decide) (by decide) (by omega) (by omega)
          have gMK := gMK.ag (Agr.putV u266 (by intro q hq; simp only [Gd_MK, List.mem_cons, List.not_mem_nil, or_false] at hq; rcases hq with rfl | rfl | rfl <;> dsimp only [inRc] <;> omega))
          have gMT := gMT.ag (Agr.putV u266 (by intro q hq; simp only [Gd_MT, List.mem_cons, List.not_mem_nil, or_false] at hq; rcases hq with rfl | rfl | rfl <;> dsimp only [inRc] <;> omega))
          have t267 : (σ266 387 39).toInt = (σ256 387 39).toInt := congrArg Int32.toInt (u266 387 39 (by omega))
          have t268 : (σ266 387 42).toInt = (σ256 387 42).toInt := congrArg Int32.toInt (u266 387 42 (by omega))
          have t269 : (σ266 387 15).toInt = (σ256 387 15).toInt := congrArg Int32.toInt (u266 387 15 (by omega))
          have t270 : (σ266 387 38).toInt = (σ256 387 38).toInt := congrArg Int32.toInt (u266 387 38 (by omega))
          have t271 : (σ266 387 40).toInt = (σ256 387 40).toInt := congrArg Int32.toInt (u266 387 40 (by omega))
          refine lv_aload_n hx hb dX12_behind_71 rfl (lv_at hl 0 rfl) ?_
          refine lv_dup hx hb dX12_behind_72 rfl ?_
          refine fg_12_40 (k := 387) hx hb hts in_X12_behind_12 hown hK hP (by decide) (by decide) (hts _ lk_X12_behind_434) dX12_behind_73 ?_
          refine r_iconst hx hb dX12_behind_76 (by decide) (fun z272 ez272 => ?_)
          refine r_iadd hx hb dX12_behind_77 (by omega) (fun z273 ez273 => ?_)
          refine fp_12_40 (k := 387) hx hb hts in_X12_behind_12 hown hK hP (by decide) (by decide) (hts _ lk_X12_behind_434) hI hR hS (by omega) dX12_behind_78 (fun σ274 H274 locs274 u274 v274 hR hP hS => ?_)
          have ub := u274
          have vb := v274
          have hF := hF.puts u274 3 rfl (by decide) (by decide) (by decide) (by decide)
          have gMK := gMK.ag (Agr.put u274 (by decide))
          have gMT := gMT.ag (Agr.put u274 (by decide))
          have t275 : (σ274 387 39).toInt = (σ266 387 39).toInt := congrArg Int32.toInt (u274 387 39 (by omega))
          have t276 : (σ274 387 42).toInt = (σ266 387 42).toInt := congrArg Int32.toInt (u274 387 42 (by omega))
          have t277 : (σ274 387 15).toInt = (σ266 387 15).toInt := congrArg Int32.toInt (u274 387 15 (by omega))
          have t278 : (σ274 387 38).toInt = (σ266 387 38).toInt := congrArg Int32.toInt (u274 387 38 (by omega))
          have gSN := SN.push gSN (pnt_pn K) (by omega) (by omega) ua (by omega) ub (by omega)
          refine lv_aload_n hx hb dX12_behind_81 rfl (lv_at hl 0 rfl) ?_
          refine r_iconst hx hb dX12_behind_82 (by decide) (fun z279 ez279 => ?_)
          refine fp_12_42 (k := 387) hx hb hts in_X12_behind_12 hown hK hP (by decide) (by decide) (hts _ lk_X12_behind_449) hI hR hS (by omega) dX12_behind_83 (fun σ280 H280 locs280 u280 v280 hR hP hS => ?_)
          have uc := u280
          have vc := v280
          have hF := hF.puts u280 3 rfl (by decide) (by decide) (by decide) (by decide)
          have gMK := gMK.ag (Agr.put u280 (by decide))
          have gMT := gMT.ag (Agr.put u280 (by decide))
          have gSN := gSN.ag (Agr.put u280 (by decide))
          have t281 : (σ280 387 39).toInt = (σ274 387 39).toInt := congrArg Int32.toInt (u280 387 39 (by omega))
          have t282 : (σ280 387 15).toInt = (σ274 387 15).toInt := congrArg Int32.toInt (u280 387 15 (by omega))
          have t283 : (σ280 387 38).toInt = (σ274 387 38).toInt := congrArg Int32.toInt (u280 387 38 (by omega))
          have t284 : (σ280 387 40).toInt = (σ274 387 40).toInt := congrArg Int32.toInt (u280 387 40 (by omega))
          have gPV := PV.bin gPV (by omega) ua va (by omega) (by omega) ub (by omega) uc (by omega)
          refine lv_aload_n hx hb dX12_behind_86 rfl (lv_at hl 0 rfl) ?_
          refine r_cVv (k := 387) (As := []) (rest := []) ⟨hx, hb, hml, hown, hts⟩ hK hP hN hS (c_X12_next_v l D cA ad hI σ280 τ0 hR _ _ _ _ gMK.mp gMT) (cwV 0 hts gX12_behind_X12_next rfl rfl rfl (by decide +kernel) ⟨by decide, by decide⟩) (rv_M hK hP (by decide) (by decide)) rfl hl.1 rfl (Nat.le_of_ble_eq_true rfl) dX12_behind_87 (Nat.zero_le _) (Nat.zero_le _) (fun u285 H285 locs285 hp285 hP hS => ?_)
          obtain ⟨σ285, τ285⟩ := u285
          obtain ⟨hR, f285, fL285, hp285_0, hp285_1, hp285_2, hp285_3, gnMT⟩ : P_X12_next_v σ280 τ0 _ _ _ _ σ285 τ285 := hp285
          have hP : va_P D vwCl (gw cA ad σ285 τ285) H285 := hP
          have hFL := hFL.step fL285 (by decide)
          have gRV := gRV.agL (AgrL.fr fL285 (by decide))
          have hF := hF.step f285 (by decide)
          have gMT := gMT.ag (Agr.fr f285 (by decide))
          have gPV := PV.fr gPV hR f285 (by decide)
          have gSN := gSN.ag (Agr.fr f285 (by decide))
          have t286 : (σ285 387 39).toInt = (σ280 387 39).toInt := congrArg Int32.toInt (f285.at 387 39 (by decide))
          have t287 : (σ285 387 15).toInt = (σ280 387 15).toInt := congrArg Int32.toInt (f285.at 387 15 (by decide))
          have t288 : (σ285 387 38).toInt = (σ280 387 38).toInt := congrArg Int32.toInt (f285.at 387 38 (by decide))
          have t289 : (σ285 387 40).toInt = (σ280 387 40).toInt := congrArg Int32.toInt (f285.at 387 40 (by decide))
          have t290 : (σ285 387 42).toInt = (σ280 387 42).toInt := congrArg Int32.toInt (f285.at 387 42 (by decide))
          have gMK := hp285_3
          refine r_iconst hx hb dX12_behind_90 (by decide) (fun z291 ez291 => ?_)
          exact r_zret hx hb hr hK hP hS hk (by omega) dX12_behind_91 (show P_X12_behind σ0 τ0 b N mo q nn K z291 σ285 τ285 from ⟨hR, hF, hFL, by omega, by first | exact Or.inl (by omega) | exact Or.inr gPV, by omega, by omega, by first | (exfalso; omega) | exact MO.ofr (beh_j (by omega)) (by omega) ⟨gMK, by show _ = ((nn : Nat) : Int); omega, gSN, by show _ = (0 : Int); omega⟩ | exact MO.ofk (beh_x (by omega) (Or.inl (by omega))) (by omega) (by omega) (by omega) | exact MO.ofk (beh_x (by omega) (Or.inr (gSN.emp (by omega)))) (by omega) (by omega) (by omega) | exact MO.ofr ((congrArg (behP b N mo q nn) ek1).trans (beh_c (by omega))) (by omega) ⟨gMK, by show _ = ((nn : Nat) : Int); omega, gSN, by show _ = (1 : Int); omega⟩, by omega, gMT, gRV⟩)
        · replace hp262_0 := hp262_0.resolve_left (by omega)
          refine r_bipush hx hb dX12_behind_63 (by decide) (fun z292 ez292 => ?_)
          refine lv_goto (tgt := 70) hx hb dX12_behind_65 (by decide) ?_
          obtain ⟨j293, ej293⟩ : ∃ j : Nat, (σ256 387 40).toInt = (j : Int) := ⟨_, ti_nat (by omega)⟩
          refine as_mstack (k := 401) (j := j293) hx hb hK hP hI hR hS (by decide) (by decide) ej293 (by omega) dX12_behind_70 (fun σ294 H294 locs294 u294 v294 hR hP hS => ?_)
          have ua := u294
          have va := v294
          have hF := hF.puts u294 2 rfl (by decide) (by decide) (by omega) (by omega)
          have gMK := gMK.ag (Agr.putV u294 (by intro q hq; simp only [Gd_MK, List.mem_cons, List.not_mem_nil, or_false] at hq; rcases hq with rfl | rfl | rfl <;> dsimp only [inRc] <;> omega))
          have gMT := gMT.ag (Agr.putV u294 (by intro q hq; simp only [Gd_MT, List.mem_cons, List.not_mem_nil, or_false] at hq; rcases hq with rfl | rfl | rfl <;> dsimp only [inRc] <;> omega))
          have t295 : (σ294 387 39).toInt = (σ256 387 39).toInt := congrArg Int32.toInt (u294 387 39 (by omega))
          have t296 : (σ294 387 42).toInt = (σ256 387 42).toInt := congrArg Int32.toInt (u294 387 42 (by omega))
          have t297 : (σ294 387 15).toInt = (σ256 387 15).toInt := congrArg Int32.toInt (u294 387 15 (by omega))
          have t298 : (σ294 387 38).toInt = (σ256 387 38).toInt := congrArg Int32.toInt (u294 387 38 (by omega))
          have t299 : (σ294 387 40).toInt = (σ256 387 40).toInt := congrArg Int32.toInt (u294 387 40 (by omega))
          refine lv_aload_n hx hb dX12_behind_71 rfl (lv_at hl 0 rfl) ?_
          refine lv_dup hx hb dX12_behind_72 rfl ?_
          refine fg_12_40 (k := 387) hx hb hts in_X12_behind_12 hown hK hP (by decide) (by decide) (hts _ lk_X12_behind_434) dX12_behind_73 ?_
          refine r_iconst hx hb dX12_behind_76 (by decide) (fun z300 ez300 => ?_)
          refine r_iadd hx hb dX12_behind_77 (by omega) (fun z301 ez301 => ?_)
          refine fp_12_40 (k := 387) hx hb hts in_X12_behind_12 hown hK hP (by decide) (by decide) (hts _ lk_X12_behind_434) hI hR hS (by omega) dX12_behind_78 (fun σ302 H302 locs302 u302 v302 hR hP hS => ?_)
          have ub := u302
          have vb := v302
          have hF := hF.puts u302 3 rfl (by decide) (by decide) (by decide) (by decide)
          have gMK := gMK.ag (Agr.put u302 (by decide))
          have gMT := gMT.ag (Agr.put u302 (by decide))
          have t303 : (σ302 387 39).toInt = (σ294 387 39).toInt := congrArg Int32.toInt (u302 387 39 (by omega))
          have t304 : (σ302 387 42).toInt = (σ294 387 42).toInt := congrArg Int32.toInt (u302 387 42 (by omega))
          have t305 : (σ302 387 15).toInt = (σ294 387 15).toInt := congrArg Int32.toInt (u302 387 15 (by omega))
          have t306 : (σ302 387 38).toInt = (σ294 387 38).toInt := congrArg Int32.toInt (u302 387 38 (by omega))
          have gSN := SN.push gSN (pnt_pn K) (by omega) (by omega) ua (by omega) ub (by omega)
          refine lv_aload_n hx hb dX12_behind_81 rfl (lv_at hl 0 rfl) ?_
          refine r_iconst hx hb dX12_behind_82 (by decide) (fun z307 ez307 => ?_)
          refine fp_12_42 (k := 387) hx hb hts in_X12_behind_12 hown hK hP (by decide) (by decide) (hts _ lk_X12_behind_449) hI hR hS (by omega) dX12_behind_83 (fun σ308 H308 locs308 u308 v308 hR hP hS => ?_)
          have uc := u308
          have vc := v308
          have hF := hF.puts u308 3 rfl (by decide) (by decide) (by decide) (by decide)
          have gMK := gMK.ag (Agr.put u308 (by decide))
          have gMT := gMT.ag (Agr.put u308 (by decide))
          have gSN := gSN.ag (Agr.put u308 (by decide))
          have t309 : (σ308 387 39).toInt = (σ302 387 39).toInt := congrArg Int32.toInt (u308 387 39 (by omega))
          have t310 : (σ308 387 15).toInt = (σ302 387 15).toInt := congrArg Int32.toInt (u308 387 15 (by omega))
          have t311 : (σ308 387 38).toInt = (σ302 387 38).toInt := congrArg Int32.toInt (u308 387 38 (by omega))
          have t312 : (σ308 387 40).toInt = (σ302 387 40).toInt := congrArg Int32.toInt (u308 387 40 (by omega))
          have gPV := PV.bin gPV (by omega) ua va (by omega) (by omega) ub (by omega) uc (by omega)
          refine lv_aload_n hx hb dX12_behind_86 rfl (lv_at hl 0 rfl) ?_
          refine r_cVv (k := 387) (As := []) (rest := []) ⟨hx, hb, hml, hown, hts⟩ hK hP hN hS (c_X12_next_v l D cA ad hI σ308 τ0 hR _ _ _ _ gMK.mp gMT) (cwV 0 hts gX12_behind_X12_next rfl rfl rfl (by decide +kernel) ⟨by decide, by decide⟩) (rv_M hK hP (by decide) (by decide)) rfl hl.1 rfl (Nat.le_of_ble_eq_true rfl) dX12_behind_87 (Nat.zero_le _) (Nat.zero_le _) (fun u313 H313 locs313 hp313 hP hS => ?_)
          obtain ⟨σ313, τ313⟩ := u313
          obtain ⟨hR, f313, fL313, hp313_0, hp313_1, hp313_2, hp313_3, gnMT⟩ : P_X12_next_v σ308 τ0 _ _ _ _ σ313 τ313 := hp313
          have hP : va_P D vwCl (gw cA ad σ313 τ313) H313 := hP
          have hFL := hFL.step fL313 (by decide)
          have gRV := gRV.agL (AgrL.fr fL313 (by decide))
          have hF := hF.step f313 (by decide)
          have gMT := gMT.ag (Agr.fr f313 (by decide))
          have gPV := PV.fr gPV hR f313 (by decide)
          have gSN := gSN.ag (Agr.fr f313 (by decide))
          have t314 : (σ313 387 39).toInt = (σ308 387 39).toInt := congrArg Int32.toInt (f313.at 387 39 (by decide))
          have t315 : (σ313 387 15).toInt = (σ308 387 15).toInt := congrArg Int32.toInt (f313.at 387 15 (by decide))
          have t316 : (σ313 387 38).toInt = (σ308 387 38).toInt := congrArg Int32.toInt (f313.at 387 38 (by decide))
          have t317 : (σ313 387 40).toInt = (σ308 387 40).toInt := congrArg Int32.toInt (f313.at 387 40 (by decide))
          have t318 : (σ313 387 42).toInt = (σ308 387 42).toInt := congrArg Int32.toInt (f313.at 387 42 (by decide))
          have gMK := hp313_3
          refine r_iconst hx hb dX12_behind_90 (by decide) (fun z319 ez319 => ?_)
          exact r_zret hx hb hr hK hP hS hk (by omega) dX12_behind_91 (show P_X12_behind σ0 τ0 b N mo q nn K z319 σ313 τ313 from ⟨hR, hF, hFL, by omega, by first | exact Or.inl (by omega) | exact Or.inr gPV, by omega, by omega, by first | (exfalso; omega) | exact MO.ofr (beh_j (by omega)) (by omega) ⟨gMK, by show _ = ((nn : Nat) : Int); omega, gSN, by show _ = (0 : Int); omega⟩ | exact MO.ofk (beh_x (by omega) (Or.inl (by omega))) (by omega) (by omega) (by omega) | exact MO.ofk (beh_x (by omega) (Or.inr (gSN.emp (by omega)))) (by omega) (by omega) (by omega) | exact MO.ofr ((congrArg (behP b N mo q nn) ek1).trans (beh_c (by omega))) (by omega) ⟨gMK, by show _ = ((nn : Nat) : Int); omega, gSN, by show _ = (1 : Int); omega⟩, by omega, gMT, gRV⟩)
