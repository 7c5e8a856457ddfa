theorem cn_X9_copyFrom : Cond.native arraycopyName ∈ wsX9_copyFrom := by decide +kernel
theorem cs_X9_copyFrom : Cond.static arraycopyName ∈ wsX9_copyFrom := by decide +kernel
theorem ci_X9_copyFrom : Cond.initialized "java/lang/System" ∈ wsX9_copyFrom := by decide +kernel
theorem in_X9_copyFrom_9 : ∀ w ∈ u_ws RX9 TX9 14, w ∈ wsX9_copyFrom := by decide +kernel
theorem lk_X9_copyFrom_15 : Cond.fieldLink RX9 15 "CuckooShares$Valley" "manName" "[J" ∈ wsX9_copyFrom := by decide +kernel
theorem lk_X9_copyFrom_20 : Cond.fieldLink RX9 20 "CuckooShares$Valley" "hill" "[[I" ∈ wsX9_copyFrom := by decide +kernel
theorem lk_X9_copyFrom_23 : Cond.fieldLink RX9 23 "CuckooShares$Valley" "man" "[[I" ∈ wsX9_copyFrom := by decide +kernel
theorem lk_X9_copyFrom_26 : Cond.fieldLink RX9 26 "CuckooShares$Valley" "flight" "[[I" ∈ wsX9_copyFrom := by decide +kernel
theorem lk_X9_copyFrom_29 : Cond.fieldLink RX9 29 "CuckooShares$Valley" "call" "[[I" ∈ wsX9_copyFrom := by decide +kernel
theorem lk_X9_copyFrom_32 : Cond.fieldLink RX9 32 "CuckooShares$Valley" "echo" "[I" ∈ wsX9_copyFrom := by decide +kernel
theorem lk_X9_copyFrom_36 : Cond.fieldLink RX9 36 "CuckooShares$Valley" "ridge" "I" ∈ wsX9_copyFrom := by decide +kernel
theorem lk_X9_copyFrom_40 : Cond.fieldLink RX9 40 "CuckooShares$Valley" "wheat" "I" ∈ wsX9_copyFrom := by decide +kernel
theorem lk_X9_copyFrom_43 : Cond.fieldLink RX9 43 "CuckooShares$Valley" "windWay" "I" ∈ wsX9_copyFrom := by decide +kernel
theorem lk_X9_copyFrom_46 : Cond.fieldLink RX9 46 "CuckooShares$Valley" "windForce" "I" ∈ wsX9_copyFrom := by decide +kernel
theorem lk_X9_copyFrom_49 : Cond.fieldLink RX9 49 "CuckooShares$Valley" "hills" "I" ∈ wsX9_copyFrom := by decide +kernel
theorem lk_X9_copyFrom_52 : Cond.fieldLink RX9 52 "CuckooShares$Valley" "men" "I" ∈ wsX9_copyFrom := by decide +kernel
theorem lk_X9_copyFrom_55 : Cond.fieldLink RX9 55 "CuckooShares$Valley" "flights" "I" ∈ wsX9_copyFrom := by decide +kernel
theorem lk_X9_copyFrom_58 : Cond.methodLink RX9 58 arraycopyName ∈ wsX9_copyFrom := by decide +kernel
theorem lk_X9_copyFrom_9 : Cond.fieldLink RX9 9 "CuckooShares$Valley" "hillName" "[J" ∈ wsX9_copyFrom := by decide +kernel
abbrev L_X9_copyFrom : List Rc := [(2, 5, 0, 6), (64, 67, 0, 8), (68, 99, 0, 3), (100, 131, 0, 6), (132, 147, 0, 3), (148, 307, 0, 3)]
abbrev LL_X9_copyFrom : List Rc := [(40, 43, 0, 8), (44, 47, 0, 8)]
def P_X9_copyFrom (σ0 : Nat → Nat → Int32) (τ0 : Nat → Nat → Int64) (k0 : Nat) (k1 : Nat) (σ : Nat → Nat → Int32) (τ : Nat → Nat → Int64) : Prop := Rg σ ∧ Fr L_X9_copyFrom σ0 σ ∧ FrL LL_X9_copyFrom τ0 τ ∧ (VCp σ0 σ k1 k0) ∧ (NCp τ0 τ k1 k0)
set_option maxHeartbeats 4000000 in
theorem c_X9_copyFrom (l : Launch) (D : va_G) (cA : Nat → ClassId) (ad : Nat → Nat) (hI : Inj ad) (σ0 : Nat → Nat → Int32) (τ0 : Nat → Nat → Int64) (hR : Rg σ0) (k0 : Nat) (k1 : Nat) (hk0 : 2 ≤ k0 ∧ k0 ≤ 5) (hk1 : 2 ≤ k1 ∧ k1 ≤ 5) : Met l yX9_copyFrom wsX9_copyFrom ({ frames := 2, cells := 0, slots := 0, locals := 83 } : Room) (WQc D cA ad [.ref (ad k0), .ref (ad k1)] σ0 τ0) (va_Qv (fun u : SS => P_X9_copyFrom σ0 τ0 k0 k1 u.1 u.2) (WB D cA ad) (AA ad)) 0 0 (AA ad) := by
  refine Met.ofW (cc := cX9_copyFrom) (maxL := 2) (ret := none) (by decide) rfl ?_
  intro p e s m args below meth c s₁ B hml hv
  obtain ⟨rfl, hP, hK, hN⟩ := hv
  have C : Cy p s m _ meth c cX9_copyFrom 2 wsX9_copyFrom RX9 D cA ad none := ⟨B.exec, B.bytes, hml, findClass_of_methodNamed B.named, atoms_spec (ws := wsX9_copyFrom) B.pre, hK, B.notSynchronized, B.returns, hI, hN⟩
  have hl := lv_entry ([.ref (ad k0), .ref (ad k1)]) (n := 2) (Nat.le_of_ble_eq_true rfl)
  rw [lg_entry_eq]
  generalize (lg_sl ([.ref (ad k0), .ref (ad k1)]) ++ List.replicate (2 - (lg_sl ([.ref (ad k0), .ref (ad k1)])).length) Slot.unset).toArray = ls at hl ⊢
  have hl : lv_has ls 2 [(0, .ref (ad k0)), (1, .ref (ad k1))] := hl
  have hS : va_S (AA ad) s.heap s.heap [] := va_S.rf
  have hF : Fr L_X9_copyFrom σ0 σ0 := Fr.rf
  have hFL : FrL LL_X9_copyFrom τ0 τ0 := FrL.rf
  obtain ⟨hx, hb, _, hown, hts, _, hk, hr, _, _⟩ := C
  have hr60 := rg_9_6 hR (k := k1) (by omega) (by omega)
  refine lv_aload_n hx hb dX9_copyFrom_0 rfl (lv_at hl 0 rfl) ?_
  refine lv_aload_n hx hb dX9_copyFrom_1 rfl (lv_at hl 1 rfl) ?_
  refine fg_9_0 (k := k1) hx hb hts in_X9_copyFrom_9 hown hK hP (by omega) (by omega) (hts _ lk_X9_copyFrom_36) dX9_copyFrom_2 ?_
  refine fp_9_0 (k := k0) hx hb hts in_X9_copyFrom_9 hown hK hP (by omega) (by omega) (hts _ lk_X9_copyFrom_36) hI hR hS dX9_copyFrom_5 (fun σ1 H1 locs1 u1 v1 hR hP hS => ?_)
  have w0 := u1
  have y0 := v1
  have hF := hF.puts u1 0 rfl (by omega) (by omega) (by decide) (by decide)
  refine lv_aload_n hx hb dX9_copyFrom_8 rfl (lv_at hl 0 rfl) ?_
  refine lv_aload_n hx hb dX9_copyFrom_9 rfl (lv_at hl 1 rfl) ?_
  refine fg_9_1 (k := k1) hx hb hts in_X9_copyFrom_9 hown hK hP (by omega) (by omega) (hts _ lk_X9_copyFrom_40) dX9_copyFrom_10 ?_
  refine fp_9_1 (k := k0) hx hb hts in_X9_copyFrom_9 hown hK hP (by omega) (by omega) (hts _ lk_X9_copyFrom_40) hI hR hS dX9_copyFrom_13 (fun σ2 H2 locs2 u2 v2 hR hP hS => ?_)
  have w1 := u2
  have y1 := v2
  have hF := hF.puts u2 0 rfl (by omega) (by omega) (by decide) (by decide)
  refine lv_aload_n hx hb dX9_copyFrom_16 rfl (lv_at hl 0 rfl) ?_
  refine lv_aload_n hx hb dX9_copyFrom_17 rfl (lv_at hl 1 rfl) ?_
  refine fg_9_2 (k := k1) hx hb hts in_X9_copyFrom_9 hown hK hP (by omega) (by omega) (hts _ lk_X9_copyFrom_43) dX9_copyFrom_18 ?_
  refine fp_9_2 (k := k0) hx hb hts in_X9_copyFrom_9 hown hK hP (by omega) (by omega) (hts _ lk_X9_copyFrom_43) hI hR hS dX9_copyFrom_21 (fun σ3 H3 locs3 u3 v3 hR hP hS => ?_)
  have w2 := u3
  have y2 := v3
  have hF := hF.puts u3 0 rfl (by omega) (by omega) (by decide) (by decide)
  refine lv_aload_n hx hb dX9_copyFrom_24 rfl (lv_at hl 0 rfl) ?_
  refine lv_aload_n hx hb dX9_copyFrom_25 rfl (lv_at hl 1 rfl) ?_
  refine fg_9_3 (k := k1) hx hb hts in_X9_copyFrom_9 hown hK hP (by omega) (by omega) (hts _ lk_X9_copyFrom_46) dX9_copyFrom_26 ?_
  refine fp_9_3 (k := k0) hx hb hts in_X9_copyFrom_9 hown hK hP (by omega) (by omega) (hts _ lk_X9_copyFrom_46) hI hR hS dX9_copyFrom_29 (fun σ4 H4 locs4 u4 v4 hR hP hS => ?_)
  have w3 := u4
  have y3 := v4
  have hF := hF.puts u4 0 rfl (by omega) (by omega) (by decide) (by decide)
  refine lv_aload_n hx hb dX9_copyFrom_32 rfl (lv_at hl 0 rfl) ?_
  refine lv_aload_n hx hb dX9_copyFrom_33 rfl (lv_at hl 1 rfl) ?_
  refine fg_9_4 (k := k1) hx hb hts in_X9_copyFrom_9 hown hK hP (by omega) (by omega) (hts _ lk_X9_copyFrom_49) dX9_copyFrom_34 ?_
  have hr5 := rg_9_4 hR (k := k1) (by omega) (by omega)
  refine fp_9_4 (k := k0) hx hb hts in_X9_copyFrom_9 hown hK hP (by omega) (by omega) (hts _ lk_X9_copyFrom_49) hI hR hS (by omega) dX9_copyFrom_37 (fun σ6 H6 locs6 u6 v6 hR hP hS => ?_)
  have w4 := u6
  have y4 := v6
  have hF := hF.puts u6 0 rfl (by omega) (by omega) (by decide) (by decide)
  refine lv_aload_n hx hb dX9_copyFrom_40 rfl (lv_at hl 0 rfl) ?_
  refine lv_aload_n hx hb dX9_copyFrom_41 rfl (lv_at hl 1 rfl) ?_
  refine fg_9_5 (k := k1) hx hb hts in_X9_copyFrom_9 hown hK hP (by omega) (by omega) (hts _ lk_X9_copyFrom_52) dX9_copyFrom_42 ?_
  have hr7 := rg_9_5 hR (k := k1) (by omega) (by omega)
  refine fp_9_5 (k := k0) hx hb hts in_X9_copyFrom_9 hown hK hP (by omega) (by omega) (hts _ lk_X9_copyFrom_52) hI hR hS (by omega) dX9_copyFrom_45 (fun σ8 H8 locs8 u8 v8 hR hP hS => ?_)
  have w5 := u8
  have y5 := v8
  have hF := hF.puts u8 0 rfl (by omega) (by omega) (by decide) (by decide)
  have t9 : (σ8 k0 4).toInt = (σ6 k0 4).toInt := congrArg Int32.toInt (u8 k0 4 (by omega))
  refine lv_aload_n hx hb dX9_copyFrom_48 rfl (lv_at hl 0 rfl) ?_
  refine lv_aload_n hx hb dX9_copyFrom_49 rfl (lv_at hl 1 rfl) ?_
  refine fg_9_6 (k := k1) hx hb hts in_X9_copyFrom_9 hown hK hP (by omega) (by omega) (hts _ lk_X9_copyFrom_55) dX9_copyFrom_50 ?_
  have hr10 := rg_9_6 hR (k := k1) (by omega) (by omega)
  refine fp_9_6 (k := k0) hx hb hts in_X9_copyFrom_9 hown hK hP (by omega) (by omega) (hts _ lk_X9_copyFrom_55) hI hR hS (by omega) dX9_copyFrom_53 (fun σ11 H11 locs11 u11 v11 hR hP hS => ?_)
  have w6 := u11
  have y6 := v11
  have hF := hF.puts u11 0 rfl (by omega) (by omega) (by decide) (by decide)
  have t12 : (σ11 k0 4).toInt = (σ8 k0 4).toInt := congrArg Int32.toInt (u11 k0 4 (by omega))
  have t13 : (σ11 k0 5).toInt = (σ8 k0 5).toInt := congrArg Int32.toInt (u11 k0 5 (by omega))
  refine lv_aload_n hx hb dX9_copyFrom_56 rfl (lv_at hl 1 rfl) ?_
  refine fg_9_7 (k := k1) hx hb hts in_X9_copyFrom_9 hown hK hP (by omega) (by omega) (hts _ lk_X9_copyFrom_9) dX9_copyFrom_57 ?_
  refine r_iconst hx hb dX9_copyFrom_60 (by decide) (fun z14 ez14 => ?_)
  refine lv_aload_n hx hb dX9_copyFrom_61 rfl (lv_at hl 0 rfl) ?_
  refine fg_9_7 (k := k0) hx hb hts in_X9_copyFrom_9 hown hK hP (by omega) (by omega) (hts _ lk_X9_copyFrom_9) dX9_copyFrom_62 ?_
  refine r_iconst hx hb dX9_copyFrom_65 (by decide) (fun z15 ez15 => ?_)
  refine r_bipush hx hb dX9_copyFrom_66 (by decide) (fun z16 ez16 => ?_)
  refine cpL_vnames (k := k0 + 38) (q := k1 + 38) hx hb (by rw [hml]; exact hl.1.symm) hown (hts _ lk_X9_copyFrom_58) (hts _ cn_X9_copyFrom) (hts _ cs_X9_copyFrom) (hts _ ci_X9_copyFrom) hK hP hI hS (by omega) (by omega) (by omega) (by omega) (by omega) (by omega) (by omega) (by decide) (Nat.le_of_ble_eq_true rfl) dX9_copyFrom_68 (fun τ17 H17 locs17 uL17 vL17 hP hS => ?_)
  have nc0 := uL17
  have mc0 := vL17
  have hFL := hFL.row uL17 0 rfl (by omega) (by omega) (by decide) (by decide)
  refine lv_aload_n hx hb dX9_copyFrom_71 rfl (lv_at hl 1 rfl) ?_
  refine fg_9_8 (k := k1) hx hb hts in_X9_copyFrom_9 hown hK hP (by omega) (by omega) (hts _ lk_X9_copyFrom_15) dX9_copyFrom_72 ?_
  refine r_iconst hx hb dX9_copyFrom_75 (by decide) (fun z18 ez18 => ?_)
  refine lv_aload_n hx hb dX9_copyFrom_76 rfl (lv_at hl 0 rfl) ?_
  refine fg_9_8 (k := k0) hx hb hts in_X9_copyFrom_9 hown hK hP (by omega) (by omega) (hts _ lk_X9_copyFrom_15) dX9_copyFrom_77 ?_
  refine r_iconst hx hb dX9_copyFrom_80 (by decide) (fun z19 ez19 => ?_)
  refine r_bipush hx hb dX9_copyFrom_81 (by decide) (fun z20 ez20 => ?_)
  refine cpL_vnames (k := k0 + 42) (q := k1 + 42) hx hb (by rw [hml]; exact hl.1.symm) hown (hts _ lk_X9_copyFrom_58) (hts _ cn_X9_copyFrom) (hts _ cs_X9_copyFrom) (hts _ ci_X9_copyFrom) hK hP hI hS (by omega) (by omega) (by omega) (by omega) (by omega) (by omega) (by omega) (by decide) (Nat.le_of_ble_eq_true rfl) dX9_copyFrom_83 (fun τ21 H21 locs21 uL21 vL21 hP hS => ?_)
  have nc1 := uL21
  have mc1 := vL21
  have hFL := hFL.row uL21 1 rfl (by omega) (by omega) (by decide) (by decide)
  refine lv_aload_n hx hb dX9_copyFrom_86 rfl (lv_at hl 1 rfl) ?_
  refine fg_9_13 (k := k1) hx hb hts in_X9_copyFrom_9 hown hK hP (by omega) (by omega) (hts _ lk_X9_copyFrom_32) dX9_copyFrom_87 ?_
  refine r_iconst hx hb dX9_copyFrom_90 (by decide) (fun z22 ez22 => ?_)
  refine lv_aload_n hx hb dX9_copyFrom_91 rfl (lv_at hl 0 rfl) ?_
  refine fg_9_13 (k := k0) hx hb hts in_X9_copyFrom_9 hown hK hP (by omega) (by omega) (hts _ lk_X9_copyFrom_32) dX9_copyFrom_92 ?_
  refine r_iconst hx hb dX9_copyFrom_95 (by decide) (fun z23 ez23 => ?_)
  refine r_bipush hx hb dX9_copyFrom_96 (by decide) (fun z24 ez24 => ?_)
  refine cp_echo (k := k0 + 62) (q := k1 + 62) hx hb (by rw [hml]; exact hl.1.symm) hown (hts _ lk_X9_copyFrom_58) (hts _ cn_X9_copyFrom) (hts _ cs_X9_copyFrom) (hts _ ci_X9_copyFrom) hK hP hI hR hS (by omega) (by omega) (by omega) (by omega) (by omega) (by omega) (by omega) (by decide) (Nat.le_of_ble_eq_true rfl) dX9_copyFrom_98 (fun σ25 H25 locs25 u25 hR hP hS => ?_)
  have we := u25
  have hF := hF.row u25 1 rfl (by omega) (by omega) (by decide) (by decide)
  have t26 : (σ25 k0 4).toInt = (σ11 k0 4).toInt := congrArg Int32.toInt (u25 k0 4 (by omega))
  have t27 : (σ25 k0 5).toInt = (σ11 k0 5).toInt := congrArg Int32.toInt (u25 k0 5 (by omega))
  have t28 : (σ25 k0 6).toInt = (σ11 k0 6).toInt := congrArg Int32.toInt (u25 k0 6 (by omega))
  refine lv_aload_n hx hb dX9_copyFrom_101 rfl (lv_at hl 1 rfl) ?_
  refine fg_9_9 (k := k1) hx hb hts in_X9_copyFrom_9 hown hK hP (by omega) (by omega) (hts _ lk_X9_copyFrom_20) dX9_copyFrom_102 ?_
  refine lv_aload_n hx hb dX9_copyFrom_105 rfl (lv_at hl 0 rfl) ?_
  refine fg_9_9 (k := k0) hx hb hts in_X9_copyFrom_9 hown hK hP (by omega) (by omega) (hts _ lk_X9_copyFrom_20) dX9_copyFrom_106 ?_
  refine lv_aload_n hx hb dX9_copyFrom_109 rfl (lv_at hl 0 rfl) ?_
  refine fg_9_4 (k := k0) hx hb hts in_X9_copyFrom_9 hown hK hP (by omega) (by omega) (hts _ lk_X9_copyFrom_49) dX9_copyFrom_110 ?_
  refine r_cSv (As := [.ref (ad (k1 + 46)), .ref (ad (k0 + 46)), .int (σ25 k0 4)]) (rest := []) ⟨hx, hb, hml, hown, hts⟩ hK hP hN hS (c_X9_copyRows_hillA_hillA l D cA ad hI σ25 τ21 hR (k1 + 46) (k0 + 46) (σ25 k0 4) ⟨by omega, by omega⟩ ⟨by omega, by omega⟩ (by omega)) (va_cwS 3 hts gX9_copyFrom_X9_copyRows rfl rfl rfl (by decide +kernel) ⟨by decide, by decide⟩) rfl hl.1 rfl (Nat.le_of_ble_eq_true rfl) dX9_copyFrom_113 (Nat.zero_le _) (Nat.zero_le _) (fun u29 H29 locs29 hp29 hP hS => ?_)
  obtain ⟨σ29, τ29⟩ := u29
  obtain ⟨hR, f29, fL29⟩ : P_X9_copyRows_hillA_hillA σ25 τ21 (k1 + 46) (k0 + 46) (σ25 k0 4) σ29 τ29 := hp29
  have fhl := f29
  have hP : va_P D vwCl (gw cA ad σ29 τ29) H29 := hP
  obtain rfl := FrL.nil fL29
  have hF := hF.step f29 (by decide)
  have t30 : (σ29 k0 4).toInt = (σ25 k0 4).toInt := congrArg Int32.toInt (f29.atV k0 4 (by intro q hq; simp only [L_X9_copyRows_hillA_hillA, List.mem_cons, List.not_mem_nil, or_false] at hq; rcases hq with rfl <;> dsimp only <;> omega))
  have t31 : (σ29 k0 5).toInt = (σ25 k0 5).toInt := congrArg Int32.toInt (f29.atV k0 5 (by intro q hq; simp only [L_X9_copyRows_hillA_hillA, List.mem_cons, List.not_mem_nil, or_false] at hq; rcases hq with rfl <;> dsimp only <;> omega))
  have t32 : (σ29 k0 6).toInt = (σ25 k0 6).toInt := congrArg Int32.toInt (f29.atV k0 6 (by intro q hq; simp only [L_X9_copyRows_hillA_hillA, List.mem_cons, List.not_mem_nil, or_false] at hq; rcases hq with rfl <;> dsimp only <;> omega))
  refine lv_aload_n hx hb dX9_copyFrom_116 rfl (lv_at hl 1 rfl) ?_
  refine fg_9_10 (k := k1) hx hb hts in_X9_copyFrom_9 hown hK hP (by omega) (by omega) (hts _ lk_X9_copyFrom_23) dX9_copyFrom_117 ?_
  refine lv_aload_n hx hb dX9_copyFrom_120 rfl (lv_at hl 0 rfl) ?_
  refine fg_9_10 (k := k0) hx hb hts in_X9_copyFrom_9 hown hK hP (by omega) (by omega) (hts _ lk_X9_copyFrom_23) dX9_copyFrom_121 ?_
  refine lv_aload_n hx hb dX9_copyFrom_124 rfl (lv_at hl 0 rfl) ?_
  refine fg_9_5 (k := k0) hx hb hts in_X9_copyFrom_9 hown hK hP (by omega) (by omega) (hts _ lk_X9_copyFrom_52) dX9_copyFrom_125 ?_
  refine r_cSv (As := [.ref (ad (k1 + 50)), .ref (ad (k0 + 50)), .int (σ29 k0 5)]) (rest := []) ⟨hx, hb, hml, hown, hts⟩ hK hP hN hS (c_X9_copyRows_manA_manA l D cA ad hI σ29 τ21 hR (k1 + 50) (k0 + 50) (σ29 k0 5) ⟨by omega, by omega⟩ ⟨by omega, by omega⟩ (by omega)) (va_cwS 3 hts gX9_copyFrom_X9_copyRows rfl rfl rfl (by decide +kernel) ⟨by decide, by decide⟩) rfl hl.1 rfl (Nat.le_of_ble_eq_true rfl) dX9_copyFrom_128 (Nat.zero_le _) (Nat.zero_le _) (fun u33 H33 locs33 hp33 hP hS => ?_)
  obtain ⟨σ33, τ33⟩ := u33
  obtain ⟨hR, f33, fL33⟩ : P_X9_copyRows_manA_manA σ29 τ21 (k1 + 50) (k0 + 50) (σ29 k0 5) σ33 τ33 := hp33
  have fmn := f33
  have hP : va_P D vwCl (gw cA ad σ33 τ33) H33 := hP
  obtain rfl := FrL.nil fL33
  have hF := hF.step f33 (by decide)
  have t34 : (σ33 k0 4).toInt = (σ29 k0 4).toInt := congrArg Int32.toInt (f33.atV k0 4 (by intro q hq; simp only [L_X9_copyRows_manA_manA, List.mem_cons, List.not_mem_nil, or_false] at hq; rcases hq with rfl <;> dsimp only <;> omega))
  have t35 : (σ33 k0 5).toInt = (σ29 k0 5).toInt := congrArg Int32.toInt (f33.atV k0 5 (by intro q hq; simp only [L_X9_copyRows_manA_manA, List.mem_cons, List.not_mem_nil, or_false] at hq; rcases hq with rfl <;> dsimp only <;> omega))
  have t36 : (σ33 k0 6).toInt = (σ29 k0 6).toInt := congrArg Int32.toInt (f33.atV k0 6 (by intro q hq; simp only [L_X9_copyRows_manA_manA, List.mem_cons, List.not_mem_nil, or_false] at hq; rcases hq with rfl <;> dsimp only <;> omega))
  refine lv_aload_n hx hb dX9_copyFrom_131 rfl (lv_at hl 1 rfl) ?_
  refine fg_9_11 (k := k1) hx hb hts in_X9_copyFrom_9 hown hK hP (by omega) (by omega) (hts _ lk_X9_copyFrom_26) dX9_copyFrom_132 ?_
  refine lv_aload_n hx hb dX9_copyFrom_135 rfl (lv_at hl 0 rfl) ?_
  refine fg_9_11 (k := k0) hx hb hts in_X9_copyFrom_9 hown hK hP (by omega) (by omega) (hts _ lk_X9_copyFrom_26) dX9_copyFrom_136 ?_
  refine lv_aload_n hx hb dX9_copyFrom_139 rfl (lv_at hl 0 rfl) ?_
  refine fg_9_6 (k := k0) hx hb hts in_X9_copyFrom_9 hown hK hP (by omega) (by omega) (hts _ lk_X9_copyFrom_55) dX9_copyFrom_140 ?_
  refine r_cSv (As := [.ref (ad (k1 + 54)), .ref (ad (k0 + 54)), .int (σ33 k0 6)]) (rest := []) ⟨hx, hb, hml, hown, hts⟩ hK hP hN hS (c_X9_copyRows_flightA_flightA l D cA ad hI σ33 τ21 hR (k1 + 54) (k0 + 54) (σ33 k0 6) ⟨by omega, by omega⟩ ⟨by omega, by omega⟩ (by omega)) (va_cwS 3 hts gX9_copyFrom_X9_copyRows rfl rfl rfl (by decide +kernel) ⟨by decide, by decide⟩) rfl hl.1 rfl (Nat.le_of_ble_eq_true rfl) dX9_copyFrom_143 (Nat.zero_le _) (Nat.zero_le _) (fun u37 H37 locs37 hp37 hP hS => ?_)
  obtain ⟨σ37, τ37⟩ := u37
  obtain ⟨hR, f37, fL37, hp37_0⟩ : P_X9_copyRows_flightA_flightA σ33 τ21 (k1 + 54) (k0 + 54) (σ33 k0 6) σ37 τ37 := hp37
  have rcf := hp37_0
  have hP : va_P D vwCl (gw cA ad σ37 τ37) H37 := hP
  obtain rfl := FrL.nil fL37
  have hF := hF.step f37 (by decide)
  have t38 : (σ37 k0 4).toInt = (σ33 k0 4).toInt := congrArg Int32.toInt (f37.atV k0 4 (by intro q hq; simp only [L_X9_copyRows_flightA_flightA, List.mem_cons, List.not_mem_nil, or_false] at hq; rcases hq with rfl <;> dsimp only <;> omega))
  have t39 : (σ37 k0 5).toInt = (σ33 k0 5).toInt := congrArg Int32.toInt (f37.atV k0 5 (by intro q hq; simp only [L_X9_copyRows_flightA_flightA, List.mem_cons, List.not_mem_nil, or_false] at hq; rcases hq with rfl <;> dsimp only <;> omega))
  have t40 : (σ37 k0 6).toInt = (σ33 k0 6).toInt := congrArg Int32.toInt (f37.atV k0 6 (by intro q hq; simp only [L_X9_copyRows_flightA_flightA, List.mem_cons, List.not_mem_nil, or_false] at hq; rcases hq with rfl <;> dsimp only <;> omega))
  refine lv_aload_n hx hb dX9_copyFrom_146 rfl (lv_at hl 1 rfl) ?_
  refine fg_9_12 (k := k1) hx hb hts in_X9_copyFrom_9 hown hK hP (by omega) (by omega) (hts _ lk_X9_copyFrom_29) dX9_copyFrom_147 ?_
  refine lv_aload_n hx hb dX9_copyFrom_150 rfl (lv_at hl 0 rfl) ?_
  refine fg_9_12 (k := k0) hx hb hts in_X9_copyFrom_9 hown hK hP (by omega) (by omega) (hts _ lk_X9_copyFrom_29) dX9_copyFrom_151 ?_
  refine lv_aload_n hx hb dX9_copyFrom_154 rfl (lv_at hl 0 rfl) ?_
  refine fg_9_6 (k := k0) hx hb hts in_X9_copyFrom_9 hown hK hP (by omega) (by omega) (hts _ lk_X9_copyFrom_55) dX9_copyFrom_155 ?_
  refine r_bipush hx hb dX9_copyFrom_158 (by decide) (fun z41 ez41 => ?_)
  refine r_imulR (n := 10) hx hb dX9_copyFrom_160 (by omega) (by omega) (fun z42 ez42 => ?_)
  refine r_cSv (As := [.ref (ad (k1 + 58)), .ref (ad (k0 + 58)), .int z42]) (rest := []) ⟨hx, hb, hml, hown, hts⟩ hK hP hN hS (c_X9_copyRows_callA_callA l D cA ad hI σ37 τ21 hR (k1 + 58) (k0 + 58) z42 ⟨by omega, by omega⟩ ⟨by omega, by omega⟩ (by omega)) (va_cwS 3 hts gX9_copyFrom_X9_copyRows rfl rfl rfl (by decide +kernel) ⟨by decide, by decide⟩) rfl hl.1 rfl (Nat.le_of_ble_eq_true rfl) dX9_copyFrom_161 (Nat.zero_le _) (Nat.zero_le _) (fun u43 H43 locs43 hp43 hP hS => ?_)
  obtain ⟨σ43, τ43⟩ := u43
  obtain ⟨hR, f43, fL43, hp43_0⟩ : P_X9_copyRows_callA_callA σ37 τ21 (k1 + 58) (k0 + 58) z42 σ43 τ43 := hp43
  have rcc := hp43_0
  have hP : va_P D vwCl (gw cA ad σ43 τ43) H43 := hP
  obtain rfl := FrL.nil fL43
  have hF := hF.step f43 (by decide)
  have t44 : (σ43 k0 4).toInt = (σ37 k0 4).toInt := congrArg Int32.toInt (f43.atV k0 4 (by intro q hq; simp only [L_X9_copyRows_callA_callA, List.mem_cons, List.not_mem_nil, or_false] at hq; rcases hq with rfl <;> dsimp only <;> omega))
  have t45 : (σ43 k0 5).toInt = (σ37 k0 5).toInt := congrArg Int32.toInt (f43.atV k0 5 (by intro q hq; simp only [L_X9_copyRows_callA_callA, List.mem_cons, List.not_mem_nil, or_false] at hq; rcases hq with rfl <;> dsimp only <;> omega))
  have t46 : (σ43 k0 6).toInt = (σ37 k0 6).toInt := congrArg Int32.toInt (f43.atV k0 6 (by intro q hq; simp only [L_X9_copyRows_callA_callA, List.mem_cons, List.not_mem_nil, or_false] at hq; rcases hq with rfl <;> dsimp only <;> omega))
  exact r_vret hx hb hr hK hP hS hk dX9_copyFrom_164 (show P_X9_copyFrom σ0 τ0 k0 k1 σ43 τ21 from ⟨hR, hF, hFL, VCp.of (by omega) (by omega) w0 y0 w1 y1 w2 y2 w3 y3 w4 y4 w5 y5 w6 y6 we (by omega) fhl fmn rcf rcc (by omega) (by omega), NCp.of (by omega) (by omega) nc0 mc0 nc1 mc1⟩)
theorem in_X2_menOn_2 : ∀ w ∈ u_ws RX2 TX2 7, w ∈ wsX2_menOn := by decide +kernel
theorem lk_X2_menOn_9 : Cond.fieldLink RX2 9 "CuckooShares$Days" "hill" "[I" ∈ wsX2_menOn := by decide +kernel
abbrev L_X2_menOn : List Rc := []
abbrev LL_X2_menOn : List Rc := []
def P_X2_menOn (σ0 : Nat → Nat → Int32) (τ0 : Nat → Nat → Int64) (a1 : Int32) (a2 : Int32) (r : Int32) (σ : Nat → Nat → Int32) (τ : Nat → Nat → Int64) : Prop := Rg σ ∧ Fr L_X2_menOn σ0 σ ∧ FrL LL_X2_menOn τ0 τ
def J_X2_menOn_5 (p : Program) (l : Launch) (e : Env) (s : State) (m : MethodId) (args : Array Value) (below : List Frame) (meth : Method) (c : Code) (D : va_G) (cA : Nat → ClassId) (ad : Nat → Nat) (σ0 : Nat → Nat → Int32) (τ0 : Nat → Nat → Int64) (a1 : Int32) (a2 : Int32) (n : Nat) : Prop := ∀ (σ : Nat → Nat → Int32) (τ : Nat → Nat → Int64) (H : Heap) (locs : List Loc) (x3 : Int32) (x4 : Int32) (ls : Array Slot), Rg σ → Fr L_X2_menOn σ0 σ → FrL LL_X2_menOn τ0 τ → va_P D vwCl (gw cA ad σ τ) H → va_S (AA ad) s.heap H locs → (0 ≤ x4.toInt ∧ x4.toInt ≤ 8) → lv_has ls 5 [(0, .ref (ad 7)), (1, .int a1), (2, .int a2), (3, .int x3), (4, .int x4)] → 2 * (8 - x4.toInt) + 1 < (n : Int) → W p l e ({ frames := 0, cells := 0, slots := 0, locals := 0 } : Room) s m args below meth c H locs 0 0 (MQ below (va_Qi (fun (r : Int32) (u : SS) => P_X2_menOn σ0 τ0 a1 a2 r u.1 u.2) (WB D cA ad) (AA ad)) args s 0 0 (AA ad)) (F0 m 5 ls [])
set_option maxHeartbeats 4000000 in
theorem B_X2_menOn_5 (p : Program) (l : Launch) (e : Env) (s : State) (m : MethodId) (args : Array Value) (below : List Frame) (meth : Method) (c : Code) (D : va_G) (cA : Nat → ClassId) (ad : Nat → Nat) (σ0 : Nat → Nat → Int32) (τ0 : Nat → Nat → Int64) (a1 : Int32) (a2 : Int32) (n : Nat) (C : Cy p s m args meth c cX2_menOn 5 wsX2_menOn RX2 D cA ad (some .int)) (ha2 : 0 ≤ a2.toInt ∧ a2.toInt ≤ 8) (K5 : J_X2_menOn_5 p l e s m args below meth c D cA ad σ0 τ0 a1 a2 n) : J_X2_menOn_5 p l e s m args below meth c D cA ad σ0 τ0 a1 a2 (n + 1) := by
  obtain ⟨hx, hb, hml, hown, hts, hK, hk, hr, hI, hN⟩ := C
  intro σ τ H locs x3 x4 ls hR hF hFL hP hS hc0 hl hm
  obtain rfl := Fr.nil hF
  obtain rfl := FrL.nil hFL
  refine lv_iload hx hb dX2_menOn_5 (lv_at hl 4 rfl) ?_
  refine lv_iload_n hx hb dX2_menOn_7 rfl (lv_at hl 2 rfl) ?_
  refine r_icmp_ge (tgt := 35) hx hb dX2_menOn_8 (by decide) (fun c1 => ?_) (fun c1 => ?_)
  · refine lv_iload_n hx hb dX2_menOn_35 rfl (lv_at hl 3 rfl) ?_
    exact r_iret hx hb hr hK hP hS hk dX2_menOn_36 (show P_X2_menOn σ0 τ0 a1 a2 x3 σ0 τ0 from ⟨hR, hF, hFL⟩)
  · refine lv_aload_n hx hb dX2_menOn_11 rfl (lv_at hl 0 rfl) ?_
    refine fg_2_3 (k := 7) hx hb hts in_X2_menOn_2 hown hK hP (by decide) (by decide) (hts _ lk_X2_menOn_9) dX2_menOn_12 ?_
    refine lv_iload hx hb dX2_menOn_15 (lv_at hl 4 rfl) ?_
    obtain ⟨j2, ej2⟩ : ∃ j : Nat, x4.toInt = (j : Int) := ⟨_, ti_nat (by omega)⟩
    refine ad_days8 (k := 308) (j := j2) hx hb hK hP (by decide) (by decide) ej2 (by omega) dX2_menOn_17 ?_
    refine lv_iload_n hx hb dX2_menOn_18 rfl (lv_at hl 1 rfl) ?_
    refine r_icmp_ne (tgt := 29) hx hb dX2_menOn_19 (by decide) (fun c3 => ?_) (fun c3 => ?_)
    · refine r_iinc (k := 4) (lv1 := fun z4 => [(4, .int z4), (0, .ref (ad 7)), (1, .int a1), (2, .int a2), (3, .int x3)]) hx hb dX2_menOn_29 hl rfl (by decide) (fun _ => rfl) (by decide) (by omega) (fun z4 ls ez4 hl => ?_)
      refine lv_goto (tgt := 5) hx hb dX2_menOn_32 (by decide) ?_
      exact K5 σ0 τ0 H locs x3 z4 ls hR hF hFL hP hS (by omega) (lv_sub hl [1, 2, 3, 4, 0] rfl) (by omega)
    · refine lv_iload_n hx hb dX2_menOn_22 rfl (lv_at hl 3 rfl) ?_
      refine r_iconst hx hb dX2_menOn_23 (by decide) (fun z5 ez5 => ?_)
      refine lv_iload hx hb dX2_menOn_24 (lv_at hl 4 rfl) ?_
      refine r_ishlU hx hb dX2_menOn_26 (fun z6 => ?_)
      refine r_iorU hx hb dX2_menOn_27 (fun z7 => ?_)
      refine lv_istore_n (lv' := [(3, .int z7), (0, .ref (ad 7)), (1, .int a1), (2, .int a2), (4, .int x4)]) hx hb dX2_menOn_28 rfl hl (by decide) rfl (fun ls hl => ?_)
      refine r_iinc (k := 4) (lv1 := fun z8 => [(4, .int z8), (3, .int z7), (0, .ref (ad 7)), (1, .int a1), (2, .int a2)]) hx hb dX2_menOn_29 hl rfl (by decide) (fun _ => rfl) (by decide) (by omega) (fun z8 ls ez8 hl => ?_)
      refine lv_goto (tgt := 5) hx hb dX2_menOn_32 (by decide) ?_
      exact K5 σ0 τ0 H locs z7 z8 ls hR hF hFL hP hS (by omega) (lv_sub hl [2, 3, 4, 1, 0] rfl) (by omega)
theorem A_X2_menOn (p : Program) (l : Launch) (e : Env) (s : State) (m : MethodId) (args : Array Value) (below : List Frame) (meth : Method) (c : Code) (D : va_G) (cA : Nat → ClassId) (ad : Nat → Nat) (σ0 : Nat → Nat → Int32) (τ0 : Nat → Nat → Int64) (a1 : Int32) (a2 : Int32) (C : Cy p s m args meth c cX2_menOn 5 wsX2_menOn RX2 D cA ad (some .int)) (ha2 : 0 ≤ a2.toInt ∧ a2.toInt ≤ 8) : ∀ n : Nat, J_X2_menOn_5 p l e s m args below meth c D cA ad σ0 τ0 a1 a2 n := by
  intro n
  induction n with
  | zero =>
    exact (by intro σ τ H locs x3 x4 ls hR hF hFL hP hS hc0 hl hm; exfalso; omega)
  | succ n ih =>
    exact B_X2_menOn_5 p l e s m args below meth c D cA ad σ0 τ0 a1 a2 n C ha2 ih
set_option maxHeartbeats 4000000 in
theorem c_X2_menOn (l : Launch) (D : va_G) (cA : Nat → ClassId) (ad : Nat → Nat) (hI : Inj ad) (σ0 : Nat → Nat → Int32) (τ0 : Nat → Nat → Int64) (hR : Rg σ0) (a1 : Int32) (a2 : Int32) (ha2 : 0 ≤ a2.toInt ∧ a2.toInt ≤ 8) : Met l yX2_menOn wsX2_menOn ({ frames := 0, cells := 0, slots := 0, locals := 0 } : Room) (WQc D cA ad [.ref (ad 7), .int a1, .int a2] σ0 τ0) (va_Qi (fun (r : Int32) (u : SS) => P_X2_menOn σ0 τ0 a1 a2 r u.1 u.2) (WB D cA ad) (AA ad)) 0 0 (AA ad) := by
  refine Met.ofW (cc := cX2_menOn) (maxL := 5) (ret := (some .int)) (by decide) rfl ?_
  intro p e s m args below meth c s₁ B hml hv
  obtain ⟨rfl, hP, hK, hN⟩ := hv
  have C : Cy p s m _ meth c cX2_menOn 5 wsX2_menOn RX2 D cA ad (some .int) := ⟨B.exec, B.bytes, hml, findClass_of_methodNamed B.named, atoms_spec (ws := wsX2_menOn) B.pre, hK, B.notSynchronized, B.returns, hI, hN⟩
  have hl := lv_entry ([.ref (ad 7), .int a1, .int a2]) (n := 5) (Nat.le_of_ble_eq_true rfl)
  rw [lg_entry_eq]
  generalize (lg_sl ([.ref (ad 7), .int a1, .int a2]) ++ List.replicate (5 - (lg_sl ([.ref (ad 7), .int a1, .int a2])).length) Slot.unset).toArray = ls at hl ⊢
  have hl : lv_has ls 5 [(0, .ref (ad 7)), (1, .int a1), (2, .int a2)] := hl
  have hS : va_S (AA ad) s.heap s.heap [] := va_S.rf
  have hF : Fr L_X2_menOn σ0 σ0 := Fr.rf
  have hFL : FrL LL_X2_menOn τ0 τ0 := FrL.rf
  have hA := A_X2_menOn p l e s m _ below meth c D cA ad σ0 τ0 a1 a2 C ha2 42
  have K5 := hA
  clear hA
  obtain ⟨hx, hb, _, hown, hts, _, hk, hr, _, _⟩ := C
  refine r_iconst hx hb dX2_menOn_0 (by decide) (fun z1 ez1 => ?_)
  refine lv_istore_n (lv' := [(3, .int z1), (0, .ref (ad 7)), (1, .int a1), (2, .int a2)]) hx hb dX2_menOn_1 rfl hl (by decide) rfl (fun ls hl => ?_)
  refine r_iconst hx hb dX2_menOn_2 (by decide) (fun z2 ez2 => ?_)
  refine lv_istore (lv' := [(4, .int z2), (3, .int z1), (0, .ref (ad 7)), (1, .int a1), (2, .int a2)]) hx hb dX2_menOn_3 hl (by decide) rfl (fun ls hl => ?_)
  exact K5 σ0 τ0 s.heap [] z1 z2 ls hR hF hFL hP hS (by omega) (lv_sub hl [2, 3, 4, 1, 0] rfl) (by omega)
theorem in_X9_hasHill_9 : ∀ w ∈ u_ws RX9 TX9 14, w ∈ wsX9_hasHill := by decide +kernel
theorem lk_X9_hasHill_49 : Cond.fieldLink RX9 49 "CuckooShares$Valley" "hills" "I" ∈ wsX9_hasHill := by decide +kernel
abbrev L_X9_hasHill : List Rc := []
abbrev LL_X9_hasHill : List Rc := []
def P_X9_hasHill (σ0 : Nat → Nat → Int32) (τ0 : Nat → Nat → Int64) (k0 : Nat) (a1 : Int32) (r : Int32) (σ : Nat → Nat → Int32) (τ : Nat → Nat → Int64) : Prop := Rg σ ∧ Fr L_X9_hasHill σ0 σ ∧ FrL LL_X9_hasHill τ0 τ ∧ (0 ≤ r.toInt ∧ r.toInt ≤ 1) ∧ (r.toInt = 0 ∨ (r.toInt = 1 ∧ 0 ≤ a1.toInt ∧ a1.toInt < (σ0 k0 4).toInt ∧ a1.toInt ≤ 7))
set_option maxHeartbeats 4000000 in
theorem c_X9_hasHill (l : Launch) (D : va_G) (cA : Nat → ClassId) (ad : Nat → Nat) (hI : Inj ad) (σ0 : Nat → Nat → Int32) (τ0 : Nat → Nat → Int64) (hR : Rg σ0) (k0 : Nat) (a1 : Int32) (hk0 : 2 ≤ k0 ∧ k0 ≤ 5) : Met l yX9_hasHill wsX9_hasHill ({ frames := 0, cells := 0, slots := 0, locals := 0 } : Room) (WQc D cA ad [.ref (ad k0), .int a1] σ0 τ0) (va_Qi (fun (r : Int32) (u : SS) => P_X9_hasHill σ0 τ0 k0 a1 r u.1 u.2) (WB D cA ad) (AA ad)) 0 0 (AA ad) := by
  refine Met.ofW (cc := cX9_hasHill) (maxL := 2) (ret := (some .boolean)) (by decide) rfl ?_
  intro p e s m args below meth c s₁ B hml hv
  obtain ⟨rfl, hP, hK, hN⟩ := hv
  have C : Cy p s m _ meth c cX9_hasHill 2 wsX9_hasHill RX9 D cA ad (some .boolean) := ⟨B.exec, B.bytes, hml, findClass_of_methodNamed B.named, atoms_spec (ws := wsX9_hasHill) B.pre, hK, B.notSynchronized, B.returns, hI, hN⟩
  have hl := lv_entry ([.ref (ad k0), .int a1]) (n := 2) (Nat.le_of_ble_eq_true rfl)
  rw [lg_entry_eq]
  generalize (lg_sl ([.ref (ad k0), .int a1]) ++ List.replicate (2 - (lg_sl ([.ref (ad k0), .int a1])).length) Slot.unset).toArray = ls at hl ⊢
  have hl : lv_has ls 2 [(0, .ref (ad k0)), (1, .int a1)] := hl
  have hS : va_S (AA ad) s.heap s.heap [] := va_S.rf
  have hF : Fr L_X9_hasHill σ0 σ0 := Fr.rf
  have hFL : FrL LL_X9_hasHill τ0 τ0 := FrL.rf
  obtain ⟨hx, hb, _, hown, hts, _, hk, hr, _, _⟩ := C
  refine lv_iload_n hx hb dX9_hasHill_0 rfl (lv_at hl 1 rfl) ?_
  refine r_if_lt (tgt := 16) hx hb dX9_hasHill_1 (by decide) (fun c1 => ?_) (fun c1 => ?_)
  · refine r_iconst hx hb dX9_hasHill_16 (by decide) (fun z2 ez2 => ?_)
    exact r_zret hx hb hr hK hP hS hk (by omega) dX9_hasHill_17 (show P_X9_hasHill σ0 τ0 k0 a1 z2 σ0 τ0 from ⟨hR, hF, hFL, by omega, by omega⟩)
  · refine lv_iload_n hx hb dX9_hasHill_4 rfl (lv_at hl 1 rfl) ?_
    refine lv_aload_n hx hb dX9_hasHill_5 rfl (lv_at hl 0 rfl) ?_
    refine fg_9_4 (k := k0) hx hb hts in_X9_hasHill_9 hown hK hP (by omega) (by omega) (hts _ lk_X9_hasHill_49) dX9_hasHill_6 ?_
    have hr3 := rg_9_4 hR (k := k0) (by omega) (by omega)
    refine r_icmp_ge (tgt := 16) hx hb dX9_hasHill_9 (by decide) (fun c4 => ?_) (fun c4 => ?_)
    · refine r_iconst hx hb dX9_hasHill_16 (by decide) (fun z5 ez5 => ?_)
      exact r_zret hx hb hr hK hP hS hk (by omega) dX9_hasHill_17 (show P_X9_hasHill σ0 τ0 k0 a1 z5 σ0 τ0 from ⟨hR, hF, hFL, by omega, by omega⟩)
    · refine r_iconst hx hb dX9_hasHill_12 (by decide) (fun z6 ez6 => ?_)
      refine lv_goto (tgt := 17) hx hb dX9_hasHill_13 (by decide) ?_
      exact r_zret hx hb hr hK hP hS hk (by omega) dX9_hasHill_17 (show P_X9_hasHill σ0 τ0 k0 a1 z6 σ0 τ0 from ⟨hR, hF, hFL, by omega, by omega⟩)
theorem in_X9_side_9 : ∀ w ∈ u_ws RX9 TX9 14, w ∈ wsX9_side := by decide +kernel
theorem lk_X9_side_36 : Cond.fieldLink RX9 36 "CuckooShares$Valley" "ridge" "I" ∈ wsX9_side := by decide +kernel
abbrev L_X9_side : List Rc := []
abbrev LL_X9_side : List Rc := []
def P_X9_side (σ0 : Nat → Nat → Int32) (τ0 : Nat → Nat → Int64) (a1 : Int32) (r : Int32) (σ : Nat → Nat → Int32) (τ : Nat → Nat → Int64) : Prop := Rg σ ∧ Fr L_X9_side σ0 σ ∧ FrL LL_X9_side τ0 τ ∧ (0 ≤ r.toInt ∧ r.toInt ≤ 1) ∧ ((r.toInt = 1 ∧ (σ0 2 0).toInt < a1.toInt) ∨ (r.toInt = 0 ∧ a1.toInt ≤ (σ0 2 0).toInt))
set_option maxHeartbeats 4000000 in
theorem c_X9_side (l : Launch) (D : va_G) (cA : Nat → ClassId) (ad : Nat → Nat) (hI : Inj ad) (σ0 : Nat → Nat → Int32) (τ0 : Nat → Nat → Int64) (hR : Rg σ0) (a1 : Int32)  : Met l yX9_side wsX9_side ({ frames := 0, cells := 0, slots := 0, locals := 0 } : Room) (WQc D cA ad [.ref (ad 2), .int a1] σ0 τ0) (va_Qi (fun (r : Int32) (u : SS) => P_X9_side σ0 τ0 a1 r u.1 u.2) (WB D cA ad) (AA ad)) 0 0 (AA ad) := by
  refine Met.ofW (cc := cX9_side) (maxL := 2) (ret := (some .int)) (by decide) rfl ?_
  intro p e s m args below meth c s₁ B hml hv
  obtain ⟨rfl, hP, hK, hN⟩ := hv
  have C : Cy p s m _ meth c cX9_side 2 wsX9_side RX9 D cA ad (some .int) := ⟨B.exec, B.bytes, hml, findClass_of_methodNamed B.named, atoms_spec (ws := wsX9_side) B.pre, hK, B.notSynchronized, B.returns, hI, hN⟩
  have hl := lv_entry ([.ref (ad 2), .int a1]) (n := 2) (Nat.le_of_ble_eq_true rfl)
  rw [lg_entry_eq]
  generalize (lg_sl ([.ref (ad 2), .int a1]) ++ List.replicate (2 - (lg_sl ([.ref (ad 2), .int a1])).length) Slot.unset).toArray = ls at hl ⊢
  have hl : lv_has ls 2 [(0, .ref (ad 2)), (1, .int a1)] := hl
  have hS : va_S (AA ad) s.heap s.heap [] := va_S.rf
  have hF : Fr L_X9_side σ0 σ0 := Fr.rf
  have hFL : FrL LL_X9_side τ0 τ0 := FrL.rf
  obtain ⟨hx, hb, _, hown, hts, _, hk, hr, _, _⟩ := C
  refine lv_iload_n hx hb dX9_side_0 rfl (lv_at hl 1 rfl) ?_
  refine lv_aload_n hx hb dX9_side_1 rfl (lv_at hl 0 rfl) ?_
  refine fg_9_0 (k := 2) hx hb hts in_X9_side_9 hown hK hP (by decide) (by decide) (hts _ lk_X9_side_36) dX9_side_2 ?_
  refine r_icmp_le (tgt := 12) hx hb dX9_side_5 (by decide) (fun c1 => ?_) (fun c1 => ?_)
  · refine r_iconst hx hb dX9_side_12 (by decide) (fun z2 ez2 => ?_)
    exact r_iret hx hb hr hK hP hS hk dX9_side_13 (show P_X9_side σ0 τ0 a1 z2 σ0 τ0 from ⟨hR, hF, hFL, by omega, by omega⟩)
  · refine r_iconst hx hb dX9_side_8 (by decide) (fun z3 ez3 => ?_)
    refine lv_goto (tgt := 13) hx hb dX9_side_9 (by decide) ?_
    exact r_iret hx hb hr hK hP hS hk dX9_side_13 (show P_X9_side σ0 τ0 a1 z3 σ0 τ0 from ⟨hR, hF, hFL, by omega, by omega⟩)
theorem in_X9_hasFlight_9 : ∀ w ∈ u_ws RX9 TX9 14, w ∈ wsX9_hasFlight := by decide +kernel
theorem lk_X9_hasFlight_55 : Cond.fieldLink RX9 55 "CuckooShares$Valley" "flights" "I" ∈ wsX9_hasFlight := by decide +kernel
abbrev L_X9_hasFlight : List Rc := []
abbrev LL_X9_hasFlight : List Rc := []
def P_X9_hasFlight (σ0 : Nat → Nat → Int32) (τ0 : Nat → Nat → Int64) (k0 : Nat) (a1 : Int32) (r : Int32) (σ : Nat → Nat → Int32) (τ : Nat → Nat → Int64) : Prop := Rg σ ∧ Fr L_X9_hasFlight σ0 σ ∧ FrL LL_X9_hasFlight τ0 τ ∧ (0 ≤ r.toInt ∧ r.toInt ≤ 1) ∧ (r.toInt = 0 ∨ (r.toInt = 1 ∧ 0 ≤ a1.toInt ∧ a1.toInt < (σ0 k0 6).toInt ∧ a1.toInt ≤ 3)) ∧ (r.toInt = 1 ∨ a1.toInt < 0 ∨ (σ0 k0 6).toInt ≤ a1.toInt)
set_option maxHeartbeats 4000000 in
theorem c_X9_hasFlight (l : Launch) (D : va_G) (cA : Nat → ClassId) (ad : Nat → Nat) (hI : Inj ad) (σ0 : Nat → Nat → Int32) (τ0 : Nat → Nat → Int64) (hR : Rg σ0) (k0 : Nat) (a1 : Int32) (hk0 : 2 ≤ k0 ∧ k0 ≤ 5) : Met l yX9_hasFlight wsX9_hasFlight ({ frames := 0, cells := 0, slots := 0, locals := 0 } : Room) (WQc D cA ad [.ref (ad k0), .int a1] σ0 τ0) (va_Qi (fun (r : Int32) (u : SS) => P_X9_hasFlight σ0 τ0 k0 a1 r u.1 u.2) (WB D cA ad) (AA ad)) 0 0 (AA ad) := by
  refine Met.ofW (cc := cX9_hasFlight) (maxL := 2) (ret := (some .boolean)) (by decide) rfl ?_
  intro p e s m args below meth c s₁ B hml hv
  obtain ⟨rfl, hP, hK, hN⟩ := hv
  have C : Cy p s m _ meth c cX9_hasFlight 2 wsX9_hasFlight RX9 D cA ad (some .boolean) := ⟨B.exec, B.bytes, hml, findClass_of_methodNamed B.named, atoms_spec (ws := wsX9_hasFlight) B.pre, hK, B.notSynchronized, B.returns, hI, hN⟩
  have hl := lv_entry ([.ref (ad k0), .int a1]) (n := 2) (Nat.le_of_ble_eq_true rfl)
  rw [lg_entry_eq]
  generalize (lg_sl ([.ref (ad k0), .int a1]) ++ List.replicate (2 - (lg_sl ([.ref (ad k0), .int a1])).length) Slot.unset).toArray = ls at hl ⊢
  have hl : lv_has ls 2 [(0, .ref (ad k0)), (1, .int a1)] := hl
  have hS : va_S (AA ad) s.heap s.heap [] := va_S.rf
  have hF : Fr L_X9_hasFlight σ0 σ0 := Fr.rf
  have hFL : FrL LL_X9_hasFlight τ0 τ0 := FrL.rf
  obtain ⟨hx, hb, _, hown, hts, _, hk, hr, _, _⟩ := C
  refine lv_iload_n hx hb dX9_hasFlight_0 rfl (lv_at hl 1 rfl) ?_
  refine r_if_lt (tgt := 16) hx hb dX9_hasFlight_1 (by decide) (fun c1 => ?_) (fun c1 => ?_)
  · refine r_iconst hx hb dX9_hasFlight_16 (by decide) (fun z2 ez2 => ?_)
    exact r_zret hx hb hr hK hP hS hk (by omega) dX9_hasFlight_17 (show P_X9_hasFlight σ0 τ0 k0 a1 z2 σ0 τ0 from ⟨hR, hF, hFL, by omega, by omega, by omega⟩)
  · refine lv_iload_n hx hb dX9_hasFlight_4 rfl (lv_at hl 1 rfl) ?_
    refine lv_aload_n hx hb dX9_hasFlight_5 rfl (lv_at hl 0 rfl) ?_
    refine fg_9_6 (k := k0) hx hb hts in_X9_hasFlight_9 hown hK hP (by omega) (by omega) (hts _ lk_X9_hasFlight_55) dX9_hasFlight_6 ?_
    have hr3 := rg_9_6 hR (k := k0) (by omega) (by omega)
    refine r_icmp_ge (tgt := 16) hx hb dX9_hasFlight_9 (by decide) (fun c4 => ?_) (fun c4 => ?_)
    · refine r_iconst hx hb dX9_hasFlight_16 (by decide) (fun z5 ez5 => ?_)
      exact r_zret hx hb hr hK hP hS hk (by omega) dX9_hasFlight_17 (show P_X9_hasFlight σ0 τ0 k0 a1 z5 σ0 τ0 from ⟨hR, hF, hFL, by omega, by omega, by omega⟩)
    · refine r_iconst hx hb dX9_hasFlight_12 (by decide) (fun z6 ez6 => ?_)
      refine lv_goto (tgt := 17) hx hb dX9_hasFlight_13 (by decide) ?_
      exact r_zret hx hb hr hK hP hS hk (by omega) dX9_hasFlight_17 (show P_X9_hasFlight σ0 τ0 k0 a1 z6 σ0 τ0 from ⟨hR, hF, hFL, by omega, by omega, by omega⟩)
abbrev L_X9_callRow_c : List Rc := []
abbrev LL_X9_callRow_c : List Rc := []
def P_X9_callRow_c (ad : Nat → Nat) (σ0 : Nat → Nat → Int32) (τ0 : Nat → Nat → Int64) (a1 : Int32) (a2 : Int32) (r : Nat) (σ : Nat → Nat → Int32) (τ : Nat → Nat → Int64) : Prop := Rg σ ∧ Fr L_X9_callRow_c σ0 σ ∧ FrL LL_X9_callRow_c τ0 τ ∧ (∃ q, r = ad q ∧ 148 ≤ q ∧ q ≤ 187) ∧ (r = ad (148 + (10 * a1.toInt.toNat + a2.toInt.toNat)))
set_option maxHeartbeats 4000000 in
theorem c_X9_callRow_c (l : Launch) (D : va_G) (cA : Nat → ClassId) (ad : Nat → Nat) (hI : Inj ad) (σ0 : Nat → Nat → Int32) (τ0 : Nat → Nat → Int64) (hR : Rg σ0) (a1 : Int32) (a2 : Int32) (ha1 : 0 ≤ a1.toInt ∧ a1.toInt ≤ 3) (ha2 : 0 ≤ a2.toInt ∧ a2.toInt ≤ 9) : Met l yX9_callRow wsX9_callRow ({ frames := 0, cells := 0, slots := 0, locals := 0 } : Room) (WQc D cA ad [.ref (ad 2), .int a1, .int a2] σ0 τ0) (va_Qr (fun _ => True) (fun (u : SS) (a : Nat) (t : State) => P_X9_callRow_c ad σ0 τ0 a1 a2 a u.1 u.2 ∧ WB D cA ad u t) (AA ad)) 0 0 (AA ad) := by
  refine Met.ofW (cc := cX9_callRow) (maxL := 3) (ret := (some (.array .int))) (by decide) rfl ?_
  intro p e s m args below meth c s₁ B hml hv
  obtain ⟨rfl, hP, hK, hN⟩ := hv
  have C : Cy p s m _ meth c cX9_callRow 3 wsX9_callRow RX9 D cA ad (some (.array .int)) := ⟨B.exec, B.bytes, hml, findClass_of_methodNamed B.named, atoms_spec (ws := wsX9_callRow) B.pre, hK, B.notSynchronized, B.returns, hI, hN⟩
  have hl := lv_entry ([.ref (ad 2), .int a1, .int a2]) (n := 3) (Nat.le_of_ble_eq_true rfl)
  rw [lg_entry_eq]
  generalize (lg_sl ([.ref (ad 2), .int a1, .int a2]) ++ List.replicate (3 - (lg_sl ([.ref (ad 2), .int a1, .int a2])).length) Slot.unset).toArray = ls at hl ⊢
  have hl : lv_has ls 3 [(0, .ref (ad 2)), (1, .int a1), (2, .int a2)] := hl
  have hS : va_S (AA ad) s.heap s.heap [] := va_S.rf
  have hF : Fr L_X9_callRow_c σ0 σ0 := Fr.rf
  have hFL : FrL LL_X9_callRow_c τ0 τ0 := FrL.rf
  obtain ⟨hx, hb, _, hown, hts, _, hk, hr, _, _⟩ := C
  refine lv_aload_n hx hb dX9_callRow_0 rfl (lv_at hl 0 rfl) ?_
  refine fg_9_12 (k := 2) hx hb hts in_X9_callRow_9 hown hK hP (by decide) (by decide) (hts _ lk_X9_callRow_29) dX9_callRow_1 ?_
  refine lv_iload_n hx hb dX9_callRow_4 rfl (lv_at hl 1 rfl) ?_
  refine r_bipush hx hb dX9_callRow_5 (by decide) (fun z1 ez1 => ?_)
  refine r_imulR (n := 10) hx hb dX9_callRow_7 (by omega) (by omega) (fun z2 ez2 => ?_)
  refine lv_iload_n hx hb dX9_callRow_8 rfl (lv_at hl 2 rfl) ?_
  refine r_iadd hx hb dX9_callRow_9 (by omega) (fun z3 ez3 => ?_)
  obtain ⟨j4, ej4⟩ : ∃ j : Nat, z3.toInt = (j : Int) := ⟨_, ti_nat (by omega)⟩
  refine ad_callA (k := 60) (j := j4) hx hb hK hP (by decide) (by decide) ej4 (by omega) dX9_callRow_10 ?_
  exact r_aret hx hb hr (Or.inr ⟨_, rfl⟩) hK hP hS hk dX9_callRow_11 (show P_X9_callRow_c ad σ0 τ0 a1 a2 (ad (148 + j4)) σ0 τ0 from ⟨hR, hF, hFL, ⟨_, rfl, by omega, by omega⟩, congrArg ad (by omega)⟩)
theorem in_X9_hasCall_9 : ∀ w ∈ u_ws RX9 TX9 14, w ∈ wsX9_hasCall := by decide +kernel
theorem lk_X9_hasCall_26 : Cond.fieldLink RX9 26 "CuckooShares$Valley" "flight" "[[I" ∈ wsX9_hasCall := by decide +kernel
abbrev L_X9_hasCall_c : List Rc := []
abbrev LL_X9_hasCall_c : List Rc := []
def P_X9_hasCall_c (σ0 : Nat → Nat → Int32) (τ0 : Nat → Nat → Int64) (a1 : Int32) (a2 : Int32) (h : Nat → Int) (r : Int32) (σ : Nat → Nat → Int32) (τ : Nat → Nat → Int64) : Prop := Rg σ ∧ Fr L_X9_hasCall_c σ0 σ ∧ FrL LL_X9_hasCall_c τ0 τ ∧ (0 ≤ r.toInt ∧ r.toInt ≤ 1) ∧ (r.toInt = 0 ∨ (r.toInt = 1 ∧ 0 ≤ a1.toInt ∧ a1.toInt ≤ 3 ∧ 0 ≤ a2.toInt ∧ a2.toInt ≤ 9)) ∧ ((r.toInt = 0 ∧ (a1.toInt < 0 ∨ h 2 ≤ a1.toInt ∨ a2.toInt < 0 ∨ h (87 + a1.toInt.toNat) ≤ a2.toInt)) ∨ (r.toInt = 1 ∧ a1.toInt < h 2 ∧ a2.toInt < h (87 + a1.toInt.toNat)))
set_option maxHeartbeats 4000000 in
theorem c_X9_hasCall_c (l : Launch) (D : va_G) (cA : Nat → ClassId) (ad : Nat → Nat) (hI : Inj ad) (σ0 : Nat → Nat → Int32) (τ0 : Nat → Nat → Int64) (hR : Rg σ0) (a1 : Int32) (a2 : Int32) (h : Nat → Int) (hpre0 : CV σ0 2 h) : Met l yX9_hasCall wsX9_hasCall ({ frames := 1, cells := 0, slots := 0, locals := 21 } : Room) (WQc D cA ad [.ref (ad 2), .int a1, .int a2] σ0 τ0) (va_Qi (fun (r : Int32) (u : SS) => P_X9_hasCall_c σ0 τ0 a1 a2 h r u.1 u.2) (WB D cA ad) (AA ad)) 0 0 (AA ad) := by
  refine Met.ofW (cc := cX9_hasCall) (maxL := 3) (ret := (some .boolean)) (by decide) rfl ?_
  intro p e s m args below meth c s₁ B hml hv
  obtain ⟨rfl, hP, hK, hN⟩ := hv
  have C : Cy p s m _ meth c cX9_hasCall 3 wsX9_hasCall RX9 D cA ad (some .boolean) := ⟨B.exec, B.bytes, hml, findClass_of_methodNamed B.named, atoms_spec (ws := wsX9_hasCall) B.pre, hK, B.notSynchronized, B.returns, hI, hN⟩
  have hl := lv_entry ([.ref (ad 2), .int a1, .int a2]) (n := 3) (Nat.le_of_ble_eq_true rfl)
  rw [lg_entry_eq]
  generalize (lg_sl ([.ref (ad 2), .int a1, .int a2]) ++ List.replicate (3 - (lg_sl ([.ref (ad 2), .int a1, .int a2])).length) Slot.unset).toArray = ls at hl ⊢
  have hl : lv_has ls 3 [(0, .ref (ad 2)), (1, .int a1), (2, .int a2)] := hl
  have hS : va_S (AA ad) s.heap s.heap [] := va_S.rf
  have hF : Fr L_X9_hasCall_c σ0 σ0 := Fr.rf
  have hFL : FrL LL_X9_hasCall_c τ0 τ0 := FrL.rf
  obtain ⟨hx, hb, _, hown, hts, _, hk, hr, _, _⟩ := C
  have hn2 := hpre0.n2
  refine lv_aload_n hx hb dX9_hasCall_0 rfl (lv_at hl 0 rfl) ?_
  refine lv_iload_n hx hb dX9_hasCall_1 rfl (lv_at hl 1 rfl) ?_
  refine r_cVi (k := 2) (As := [.int a1]) (rest := []) ⟨hx, hb, hml, hown, hts⟩ hK hP hN hS (c_X9_hasFlight l D cA ad hI σ0 τ0 hR 2 a1 ⟨by omega, by omega⟩) (cwV 1 hts gX9_hasCall_X9_hasFlight rfl rfl rfl (by decide +kernel) ⟨by decide, by decide⟩) (rv_Valley hK hP (by decide) (by decide)) rfl hl.1 rfl (Nat.le_of_ble_eq_true rfl) dX9_hasCall_2 (Nat.zero_le _) (Nat.zero_le _) (fun r1 u1 H1 locs1 hp1 hP hS => ?_)
  obtain ⟨σ1, τ1⟩ := u1
  obtain ⟨hR, f1, fL1, hq1, hp1_0, hp1_1⟩ : P_X9_hasFlight σ0 τ0 2 a1 r1 σ1 τ1 := hp1
  have hP : va_P D vwCl (gw cA ad σ1 τ1) H1 := hP
  obtain rfl := FrL.nil fL1
  obtain rfl := Fr.nil f1
  refine r_if_eq (tgt := 28) hx hb dX9_hasCall_5 (by decide) (fun c2 => ?_) (fun c2 => ?_)
  · refine r_iconst hx hb dX9_hasCall_28 (by decide) (fun z3 ez3 => ?_)
    exact r_zret hx hb hr hK hP hS hk (by omega) dX9_hasCall_29 (show P_X9_hasCall_c σ0 τ0 a1 a2 h z3 σ0 τ0 from ⟨hR, hF, hFL, by omega, by omega, by omega⟩)
  · refine lv_iload_n hx hb dX9_hasCall_8 rfl (lv_at hl 2 rfl) ?_
    refine r_if_lt (tgt := 28) hx hb dX9_hasCall_9 (by decide) (fun c4 => ?_) (fun c4 => ?_)
    · refine r_iconst hx hb dX9_hasCall_28 (by decide) (fun z5 ez5 => ?_)
      exact r_zret hx hb hr hK hP hS hk (by omega) dX9_hasCall_29 (show P_X9_hasCall_c σ0 τ0 a1 a2 h z5 σ0 τ0 from ⟨hR, hF, hFL, by omega, by omega, by omega⟩)
    · refine lv_iload_n hx hb dX9_hasCall_12 rfl (lv_at hl 2 rfl) ?_
      refine lv_aload_n hx hb dX9_hasCall_13 rfl (lv_at hl 0 rfl) ?_
      refine fg_9_11 (k := 2) hx hb hts in_X9_hasCall_9 hown hK hP (by decide) (by decide) (hts _ lk_X9_hasCall_26) dX9_hasCall_14 ?_
      refine lv_iload_n hx hb dX9_hasCall_17 rfl (lv_at hl 1 rfl) ?_
      obtain ⟨j6, ej6⟩ : ∃ j : Nat, a1.toInt = (j : Int) := ⟨_, ti_nat (by omega)⟩
      refine ad_flightA (k := 56) (j := j6) hx hb hK hP (by decide) (by decide) ej6 (by omega) dX9_hasCall_18 ?_
      refine r_iconst hx hb dX9_hasCall_19 (by decide) (fun z7 ez7 => ?_)
      refine ad_flightR (k := 132 + j6) (j := 2) hx hb hK hP (by omega) (by omega) (by omega) (by omega) dX9_hasCall_20 ?_
      have hr8 := ra_flightR_0 hR (k := 132 + j6) (j := 2) (by omega) (by omega) (by decide) (by decide)
      have hcf := CV.c2 (i := j6) hpre0 (by omega) (by omega) (by omega)
      refine r_icmp_ge (tgt := 28) hx hb dX9_hasCall_21 (by decide) (fun c9 => ?_) (fun c9 => ?_)
      · refine r_iconst hx hb dX9_hasCall_28 (by decide) (fun z10 ez10 => ?_)
        exact r_zret hx hb hr hK hP hS hk (by omega) dX9_hasCall_29 (show P_X9_hasCall_c σ0 τ0 a1 a2 h z10 σ0 τ0 from ⟨hR, hF, hFL, by omega, by omega, by omega⟩)
      · refine r_iconst hx hb dX9_hasCall_24 (by decide) (fun z11 ez11 => ?_)
        refine lv_goto (tgt := 29) hx hb dX9_hasCall_25 (by decide) ?_
        exact r_zret hx hb hr hK hP hS hk (by omega) dX9_hasCall_29 (show P_X9_hasCall_c σ0 τ0 a1 a2 h z11 σ0 τ0 from ⟨hR, hF, hFL, by omega, by omega, by omega⟩)
abbrev L_X9_callRow : List Rc := []
abbrev LL_X9_callRow : List Rc := []
def P_X9_callRow (ad : Nat → Nat) (σ0 : Nat → Nat → Int32) (τ0 : Nat → Nat → Int64) (a1 : Int32) (a2 : Int32) (r : Nat) (σ : Nat → Nat → Int32) (τ : Nat → Nat → Int64) : Prop := Rg σ ∧ Fr L_X9_callRow σ0 σ ∧ FrL LL_X9_callRow τ0 τ ∧ (∃ q, r = ad q ∧ 148 ≤ q ∧ q ≤ 187)
set_option maxHeartbeats 4000000 in
theorem c_X9_callRow (l : Launch) (D : va_G) (cA : Nat → ClassId) (ad : Nat → Nat) (hI : Inj ad) (σ0 : Nat → Nat → Int32) (τ0 : Nat → Nat → Int64) (hR : Rg σ0) (a1 : Int32) (a2 : Int32) (ha1 : 0 ≤ a1.toInt ∧ a1.toInt ≤ 3) (ha2 : 0 ≤ a2.toInt ∧ a2.toInt ≤ 9) : Met l yX9_callRow wsX9_callRow ({ frames := 0, cells := 0, slots := 0, locals := 0 } : Room) (WQc D cA ad [.ref (ad 2), .int a1, .int a2] σ0 τ0) (va_Qr (fun _ => True) (fun (u : SS) (a : Nat) (t : State) => P_X9_callRow ad σ0 τ0 a1 a2 a u.1 u.2 ∧ WB D cA ad u t) (AA ad)) 0 0 (AA ad) := by
  refine Met.ofW (cc := cX9_callRow) (maxL := 3) (ret := (some (.array .int))) (by decide) rfl ?_
  intro p e s m args below meth c s₁ B hml hv
  obtain ⟨rfl, hP, hK, hN⟩ := hv
  have C : Cy p s m _ meth c cX9_callRow 3 wsX9_callRow RX9 D cA ad (some (.array .int)) := ⟨B.exec, B.bytes, hml, findClass_of_methodNamed B.named, atoms_spec (ws := wsX9_callRow) B.pre, hK, B.notSynchronized, B.returns, hI, hN⟩
  have hl := lv_entry ([.ref (ad 2), .int a1, .int a2]) (n := 3) (Nat.le_of_ble_eq_true rfl)
  rw [lg_entry_eq]
  generalize (lg_sl ([.ref (ad 2), .int a1, .int a2]) ++ List.replicate (3 - (lg_sl ([.ref (ad 2), .int a1, .int a2])).length) Slot.unset).toArray = ls at hl ⊢
  have hl : lv_has ls 3 [(0, .ref (ad 2)), (1, .int a1), (2, .int a2)] := hl
  have hS : va_S (AA ad) s.heap s.heap [] := va_S.rf
  have hF : Fr L_X9_callRow σ0 σ0 := Fr.rf
  have hFL : FrL LL_X9_callRow τ0 τ0 := FrL.rf
  obtain ⟨hx, hb, _, hown, hts, _, hk, hr, _, _⟩ := C
  refine lv_aload_n hx hb dX9_callRow_0 rfl (lv_at hl 0 rfl) ?_
  refine fg_9_12 (k := 2) hx hb hts in_X9_callRow_9 hown hK hP (by decide) (by decide) (hts _ lk_X9_callRow_29) dX9_callRow_1 ?_
  refine lv_iload_n hx hb dX9_callRow_4 rfl (lv_at hl 1 rfl) ?_
  refine r_bipush hx hb dX9_callRow_5 (by decide) (fun z1 ez1 => ?_)
  refine r_imulR (n := 10) hx hb dX9_callRow_7 (by omega) (by omega) (fun z2 ez2 => ?_)
  refine lv_iload_n hx hb dX9_callRow_8 rfl (lv_at hl 2 rfl) ?_
  refine r_iadd hx hb dX9_callRow_9 (by omega) (fun z3 ez3 => ?_)
  obtain ⟨j4, ej4⟩ : ∃ j : Nat, z3.toInt = (j : Int) := ⟨_, ti_nat (by omega)⟩
  refine ad_callA (k := 60) (j := j4) hx hb hK hP (by decide) (by decide) ej4 (by omega) dX9_callRow_10 ?_
  exact r_aret hx hb hr (Or.inr ⟨_, rfl⟩) hK hP hS hk dX9_callRow_11 (show P_X9_callRow ad σ0 τ0 a1 a2 (ad (148 + j4)) σ0 τ0 from ⟨hR, hF, hFL, ⟨_, rfl, by omega, by omega⟩⟩)
theorem in_X0_past_0 : ∀ w ∈ u_ws RX0 TX0 3, w ∈ wsX0_past := by decide +kernel
theorem in_X0_past_2 : ∀ w ∈ u_ws RX2 TX2 7, w ∈ wsX0_past := by decide +kernel
theorem in_X0_past_9 : ∀ w ∈ u_ws RX9 TX9 14, w ∈ wsX0_past := by decide +kernel
theorem lk_X0_past_9 : Cond.fieldLink RX0 9 "CuckooShares$Acts" "valley" "LCuckooShares$Valley;" ∈ wsX0_past := by decide +kernel
abbrev L_X0_past : List Rc := []
abbrev LL_X0_past : List Rc := []
def P_X0_past (σ0 : Nat → Nat → Int32) (τ0 : Nat → Nat → Int64) (k1 : Nat) (r : Int32) (σ : Nat → Nat → Int32) (τ : Nat → Nat → Int64) : Prop := Rg σ ∧ Fr L_X0_past σ0 σ ∧ FrL LL_X0_past τ0 τ ∧ (0 ≤ r.toInt ∧ r.toInt ≤ 10) ∧ (r.toInt = 0 ∨ (0 ≤ (σ0 k1 1).toInt ∧ (σ0 k1 1).toInt ≤ 3))
def J_X0_past_20 (p : Program) (l : Launch) (e : Env) (s : State) (m : MethodId) (args : Array Value) (below : List Frame) (meth : Method) (c : Code) (D : va_G) (cA : Nat → ClassId) (ad : Nat → Nat) (σ0 : Nat → Nat → Int32) (τ0 : Nat → Nat → Int64) (k1 : Nat) (n : Nat) : Prop := ∀ (σ : Nat → Nat → Int32) (τ : Nat → Nat → Int64) (H : Heap) (locs : List Loc) (x2 : Int32) (x3 : Int32) (ls : Array Slot), Rg σ → Fr L_X0_past σ0 σ → FrL LL_X0_past τ0 τ → va_P D vwCl (gw cA ad σ τ) H → va_S (AA ad) s.heap H locs → (0 ≤ x2.toInt ∧ x2.toInt ≤ 3) → (0 ≤ x3.toInt ∧ x3.toInt ≤ 10) → (0 ≤ (σ k1 1).toInt ∧ (σ k1 1).toInt ≤ 3) → lv_has ls 4 [(0, .ref (ad 22)), (1, .ref (ad k1)), (2, .int x2), (3, .int x3)] → 2 * (10 - x3.toInt) + 1 < (n : Int) → W p l e ({ frames := 1, cells := 0, slots := 0, locals := 22 } : Room) s m args below meth c H locs 0 0 (MQ below (va_Qi (fun (r : Int32) (u : SS) => P_X0_past σ0 τ0 k1 r u.1 u.2) (WB D cA ad) (AA ad)) args s 0 0 (AA ad)) (F0 m 20 ls [])
set_option maxHeartbeats 4000000 in
theorem B_X0_past_20 (p : Program) (l : Launch) (e : Env) (s : State) (m : MethodId) (args : Array Value) (below : List Frame) (meth : Method) (c : Code) (D : va_G) (cA : Nat → ClassId) (ad : Nat → Nat) (σ0 : Nat → Nat → Int32) (τ0 : Nat → Nat → Int64) (k1 : Nat) (n : Nat) (C : Cy p s m args meth c cX0_past 4 wsX0_past RX0 D cA ad (some .int)) (hk1 : 7 ≤ k1 ∧ k1 ≤ 9) (K20 : J_X0_past_20 p l e s m args below meth c D cA ad σ0 τ0 k1 n) : J_X0_past_20 p l e s m args below meth c D cA ad σ0 τ0 k1 (n + 1) := by
  obtain ⟨hx, hb, hml, hown, hts, hK, hk, hr, hI, hN⟩ := C
  intro σ τ H locs x2 x3 ls hR hF hFL hP hS hc0 hc1 hc2 hl hm
  obtain rfl := Fr.nil hF
  obtain rfl := FrL.nil hFL
  refine lv_iload_n hx hb dX0_past_20 rfl (lv_at hl 3 rfl) ?_
  refine lv_aload_n hx hb dX0_past_21 rfl (lv_at hl 0 rfl) ?_
  refine fg_0_0 (k := 22) hx hb hts in_X0_past_0 hown hK hP (by decide) (by decide) (hts _ lk_X0_past_9) dX0_past_22 ?_
  refine fgN_9_11 (k := 2) hx hb hts in_X0_past_9 hown hK hP (by decide) (by decide) (hN.use nw_0_31) dX0_past_25 ?_
  refine lv_iload_n hx hb dX0_past_28 rfl (lv_at hl 2 rfl) ?_
  obtain ⟨j1, ej1⟩ : ∃ j : Nat, x2.toInt = (j : Int) := ⟨_, ti_nat (by omega)⟩
  refine ad_flightA (k := 56) (j := j1) hx hb hK hP (by decide) (by decide) ej1 (by omega) dX0_past_29 ?_
  refine r_iconst hx hb dX0_past_30 (by decide) (fun z2 ez2 => ?_)
  refine ad_flightR (k := 132 + j1) (j := 2) hx hb hK hP (by omega) (by omega) (by omega) (by omega) dX0_past_31 ?_
  have hr3 := ra_flightR_0 hR (k := 132 + j1) (j := 2) (by omega) (by omega) (by decide) (by decide)
  refine r_icmp_ge (tgt := 59) hx hb dX0_past_32 (by decide) (fun c4 => ?_) (fun c4 => ?_)
  · refine lv_iload_n hx hb dX0_past_59 rfl (lv_at hl 3 rfl) ?_
    exact r_iret hx hb hr hK hP hS hk dX0_past_60 (show P_X0_past σ0 τ0 k1 x3 σ0 τ0 from ⟨hR, hF, hFL, by omega, by omega⟩)
  · refine lv_aload_n hx hb dX0_past_35 rfl (lv_at hl 0 rfl) ?_
    refine fg_0_0 (k := 22) hx hb hts in_X0_past_0 hown hK hP (by decide) (by decide) (hts _ lk_X0_past_9) dX0_past_36 ?_
    refine lv_iload_n hx hb dX0_past_39 rfl (lv_at hl 2 rfl) ?_
    refine lv_iload_n hx hb dX0_past_40 rfl (lv_at hl 3 rfl) ?_
    refine r_cVr (k := 2) (As := [.int x2, .int x3]) (rest := []) ⟨hx, hb, hml, hown, hts⟩ hK hP hN hS (c_X9_callRow l D cA ad hI σ0 τ0 hR x2 x3 (by omega) (by omega)) (cwV 2 hts gX0_past_X9_callRow rfl rfl rfl (by decide +kernel) ⟨by decide, by decide⟩) (rv_Valley hK hP (by decide) (by decide)) rfl hl.1 rfl (Nat.le_of_ble_eq_true rfl) dX0_past_41 (Nat.zero_le _) (Nat.zero_le _) (fun r5 u5 H5 locs5 hp5 hP hS => ?_)
    obtain ⟨σ5, τ5⟩ := u5
    obtain ⟨hR, f5, fL5, hq5⟩ : P_X9_callRow ad σ0 τ0 x2 x3 r5 σ5 τ5 := hp5
    have hP : va_P D vwCl (gw cA ad σ5 τ5) H5 := hP
    obtain rfl := FrL.nil fL5
    obtain rfl := Fr.nil f5
    obtain ⟨q5, rfl, hq5a, hq5b⟩ := hq5
    refine r_iconst hx hb dX0_past_44 (by decide) (fun z6 ez6 => ?_)
    refine ad_callR (k := q5) (j := 0) hx hb hK hP (by omega) (by omega) (by omega) (by omega) dX0_past_45 ?_
    refine lv_aload_n hx hb dX0_past_46 rfl (lv_at hl 1 rfl) ?_
    refine fgN_2_2 (k := k1) hx hb hts in_X0_past_2 hown hK hP (by omega) (by omega) (hN.use nw_0_38) dX0_past_47 ?_
    refine r_icmp_gt (tgt := 59) hx hb dX0_past_50 (by decide) (fun c7 => ?_) (fun c7 => ?_)
    · refine lv_iload_n hx hb dX0_past_59 rfl (lv_at hl 3 rfl) ?_
      exact r_iret hx hb hr hK hP hS hk dX0_past_60 (show P_X0_past σ0 τ0 k1 x3 σ0 τ0 from ⟨hR, hF, hFL, by omega, by omega⟩)
    · refine r_iinc (k := 3) (lv1 := fun z8 => [(3, .int z8), (0, .ref (ad 22)), (1, .ref (ad k1)), (2, .int x2)]) hx hb dX0_past_53 hl rfl (by decide) (fun _ => rfl) (by decide) (by omega) (fun z8 ls ez8 hl => ?_)
      refine lv_goto (tgt := 20) hx hb dX0_past_56 (by decide) ?_
      exact K20 σ0 τ0 H5 locs5 x2 z8 ls hR hF hFL hP hS (by omega) (by omega) (by omega) (lv_sub hl [1, 2, 3, 0] rfl) (by omega)
theorem A_X0_past (p : Program) (l : Launch) (e : Env) (s : State) (m : MethodId) (args : Array Value) (below : List Frame) (meth : Method) (c : Code) (D : va_G) (cA : Nat → ClassId) (ad : Nat → Nat) (σ0 : Nat → Nat → Int32) (τ0 : Nat → Nat → Int64) (k1 : Nat) (C : Cy p s m args meth c cX0_past 4 wsX0_past RX0 D cA ad (some .int)) (hk1 : 7 ≤ k1 ∧ k1 ≤ 9) : ∀ n : Nat, J_X0_past_20 p l e s m args below meth c D cA ad σ0 τ0 k1 n := by
  intro n
  induction n with
  | zero =>
    exact (by intro σ τ H locs x2 x3 ls hR hF hFL hP hS hc0 hc1 hc2 hl hm; exfalso; omega)
  | succ n ih =>
    exact B_X0_past_20 p l e s m args below meth c D cA ad σ0 τ0 k1 n C hk1 ih
set_option maxHeartbeats 4000000 in
theorem c_X0_past (l : Launch) (D : va_G) (cA : Nat → ClassId) (ad : Nat → Nat) (hI : Inj ad) (σ0 : Nat → Nat → Int32) (τ0 : Nat → Nat → Int64) (hR : Rg σ0) (k1 : Nat) (hk1 : 7 ≤ k1 ∧ k1 ≤ 9) : Met l yX0_past wsX0_past ({ frames := 1, cells := 0, slots := 0, locals := 22 } : Room) (WQc D cA ad [.ref (ad 22), .ref (ad k1)] σ0 τ0) (va_Qi (fun (r : Int32) (u : SS) => P_X0_past σ0 τ0 k1 r u.1 u.2) (WB D cA ad) (AA ad)) 0 0 (AA ad) := by
  refine Met.ofW (cc := cX0_past) (maxL := 4) (ret := (some .int)) (by decide) rfl ?_
  intro p e s m args below meth c s₁ B hml hv
  obtain ⟨rfl, hP, hK, hN⟩ := hv
  have C : Cy p s m _ meth c cX0_past 4 wsX0_past RX0 D cA ad (some .int) := ⟨B.exec, B.bytes, hml, findClass_of_methodNamed B.named, atoms_spec (ws := wsX0_past) B.pre, hK, B.notSynchronized, B.returns, hI, hN⟩
  have hl := lv_entry ([.ref (ad 22), .ref (ad k1)]) (n := 4) (Nat.le_of_ble_eq_true rfl)
  rw [lg_entry_eq]
  generalize (lg_sl ([.ref (ad 22), .ref (ad k1)]) ++ List.replicate (4 - (lg_sl ([.ref (ad 22), .ref (ad k1)])).length) Slot.unset).toArray = ls at hl ⊢
  have hl : lv_has ls 4 [(0, .ref (ad 22)), (1, .ref (ad k1))] := hl
  have hS : va_S (AA ad) s.heap s.heap [] := va_S.rf
  have hF : Fr L_X0_past σ0 σ0 := Fr.rf
  have hFL : FrL LL_X0_past τ0 τ0 := FrL.rf
  have hA := A_X0_past p l e s m _ below meth c D cA ad σ0 τ0 k1 C hk1 50
  have K20 := hA
  clear hA
  obtain ⟨hx, hb, _, hown, hts, _, hk, hr, _, _⟩ := C
  refine lv_aload_n hx hb dX0_past_0 rfl (lv_at hl 1 rfl) ?_
  refine fgN_2_1 (k := k1) hx hb hts in_X0_past_2 hown hK hP (by omega) (by omega) (hN.use nw_0_19) dX0_past_1 ?_
  refine lv_istore_n (lv' := [(2, .int (σ0 k1 1)), (0, .ref (ad 22)), (1, .ref (ad k1))]) hx hb dX0_past_4 rfl hl (by decide) rfl (fun ls hl => ?_)
  refine lv_aload_n hx hb dX0_past_5 rfl (lv_at hl 1 rfl) ?_
  refine fg_0_0 (k := 22) hx hb hts in_X0_past_0 hown hK hP (by decide) (by decide) (hts _ lk_X0_past_9) dX0_past_6 ?_
  refine lv_iload_n hx hb dX0_past_9 rfl (lv_at hl 0 rfl) ?_
  refine r_cVi (k := 2) (As := [.int (σ0 k1 1)]) (rest := []) ⟨hx, hb, hml, hown, hts⟩ hK hP hN hS (c_X9_hasFlight l D cA ad hI σ0 τ0 hR 2 (σ0 k1 1) ⟨by omega, by omega⟩) (cwV 1 hts gX0_past_X9_hasFlight rfl rfl rfl (by decide +kernel) ⟨by decide, by decide⟩) (rv_Valley hK hP (by decide) (by decide)) rfl hl.1 rfl (Nat.le_of_ble_eq_true rfl) dX0_past_10 (Nat.zero_le _) (Nat.zero_le _) (fun r1 u1 H1 locs1 hp1 hP hS => ?_)
  obtain ⟨σ1, τ1⟩ := u1
  obtain ⟨hR, f1, fL1, hq1, hp1_0, hp1_1⟩ : P_X9_hasFlight σ0 τ0 2 (σ0 k1 1) r1 σ1 τ1 := hp1
  have hP : va_P D vwCl (gw cA ad σ1 τ1) H1 := hP
  obtain rfl := FrL.nil fL1
  obtain rfl := Fr.nil f1
  refine r_if_ne (tgt := 18) hx hb dX0_past_13 (by decide) (fun c2 => ?_) (fun c2 => ?_)
  · refine r_iconst hx hb dX0_past_18 (by decide) (fun z3 ez3 => ?_)
    refine lv_istore_n (lv' := [(3, .int z3), (2, .int (σ0 k1 1)), (0, .ref (ad 22)), (1, .ref (ad k1))]) hx hb dX0_past_19 rfl hl (by decide) rfl (fun ls hl => ?_)
    exact K20 σ0 τ0 H1 locs1 (σ0 k1 1) z3 ls hR hF hFL hP hS (by omega) (by omega) (by omega) (lv_sub hl [2, 3, 1, 0] rfl) (by omega)
  · refine r_iconst hx hb dX0_past_16 (by decide) (fun z4 ez4 => ?_)
    exact r_iret hx hb hr hK hP hS hk dX0_past_17 (show P_X0_past σ0 τ0 k1 z4 σ0 τ0 from ⟨hR, hF, hFL, by omega, by omega⟩)
theorem in_X2_allCoins_2 : ∀ w ∈ u_ws RX2 TX2 7, w ∈ wsX2_allCoins := by decide +kernel
theorem lk_X2_allCoins_15 : Cond.fieldLink RX2 15 "CuckooShares$Days" "coins" "[I" ∈ wsX2_allCoins := by decide +kernel
abbrev L_X2_allCoins : List Rc := []
abbrev LL_X2_allCoins : List Rc := []
def P_X2_allCoins (σ0 : Nat → Nat → Int32) (τ0 : Nat → Nat → Int64) (a1 : Int32) (r : Int32) (σ : Nat → Nat → Int32) (τ : Nat → Nat → Int64) : Prop := Rg σ ∧ Fr L_X2_allCoins σ0 σ ∧ FrL LL_X2_allCoins τ0 τ
def J_X2_allCoins_4 (p : Program) (l : Launch) (e : Env) (s : State) (m : MethodId) (args : Array Value) (below : List Frame) (meth : Method) (c : Code) (D : va_G) (cA : Nat → ClassId) (ad : Nat → Nat) (σ0 : Nat → Nat → Int32) (τ0 : Nat → Nat → Int64) (a1 : Int32) (n : Nat) : Prop := ∀ (σ : Nat → Nat → Int32) (τ : Nat → Nat → Int64) (H : Heap) (locs : List Loc) (x2 : Int32) (x3 : Int32) (ls : Array Slot), Rg σ → Fr L_X2_allCoins σ0 σ → FrL LL_X2_allCoins τ0 τ → va_P D vwCl (gw cA ad σ τ) H → va_S (AA ad) s.heap H locs → (0 ≤ x3.toInt ∧ x3.toInt ≤ 8) → lv_has ls 4 [(0, .ref (ad 7)), (1, .int a1), (2, .int x2), (3, .int x3)] → 2 * (8 - x3.toInt) + 1 < (n : Int) → W p l e ({ frames := 0, cells := 0, slots := 0, locals := 0 } : Room) s m args below meth c H locs 0 0 (MQ below (va_Qi (fun (r : Int32) (u : SS) => P_X2_allCoins σ0 τ0 a1 r u.1 u.2) (WB D cA ad) (AA ad)) args s 0 0 (AA ad)) (F0 m 4 ls [])
set_option maxHeartbeats 4000000 in
theorem B_X2_allCoins_4 (p : Program) (l : Launch) (e : Env) (s : State) (m : MethodId) (args : Array Value) (below : List Frame) (meth : Method) (c : Code) (D : va_G) (cA : Nat → ClassId) (ad : Nat → Nat) (σ0 : Nat → Nat → Int32) (τ0 : Nat → Nat → Int64) (a1 : Int32) (n : Nat) (C : Cy p s m args meth c cX2_allCoins 4 wsX2_allCoins RX2 D cA ad (some .int)) (ha1 : 0 ≤ a1.toInt ∧ a1.toInt ≤ 8) (K4 : J_X2_allCoins_4 p l e s m args below meth c D cA ad σ0 τ0 a1 n) : J_X2_allCoins_4 p l e s m args below meth c D cA ad σ0 τ0 a1 (n + 1) := by
  obtain ⟨hx, hb, hml, hown, hts, hK, hk, hr, hI, hN⟩ := C
  intro σ τ H locs x2 x3 ls hR hF hFL hP hS hc0 hl hm
  obtain rfl := Fr.nil hF
  obtain rfl := FrL.nil hFL
  refine lv_iload_n hx hb dX2_allCoins_4 rfl (lv_at hl 3 rfl) ?_
  refine lv_iload_n hx hb dX2_allCoins_5 rfl (lv_at hl 1 rfl) ?_
  refine r_icmp_ge (tgt := 24) hx hb dX2_allCoins_6 (by decide) (fun c1 => ?_) (fun c1 => ?_)
  · refine lv_iload_n hx hb dX2_allCoins_24 rfl (lv_at hl 2 rfl) ?_
    exact r_iret hx hb hr hK hP hS hk dX2_allCoins_25 (show P_X2_allCoins σ0 τ0 a1 x2 σ0 τ0 from ⟨hR, hF, hFL⟩)
  · refine lv_iload_n hx hb dX2_allCoins_9 rfl (lv_at hl 2 rfl) ?_
    refine lv_aload_n hx hb dX2_allCoins_10 rfl (lv_at hl 0 rfl) ?_
    refine fg_2_4 (k := 7) hx hb hts in_X2_allCoins_2 hown hK hP (by decide) (by decide) (hts _ lk_X2_allCoins_15) dX2_allCoins_11 ?_
    refine lv_iload_n hx hb dX2_allCoins_14 rfl (lv_at hl 3 rfl) ?_
    obtain ⟨j2, ej2⟩ : ∃ j : Nat, x3.toInt = (j : Int) := ⟨_, ti_nat (by omega)⟩
    refine ad_days8 (k := 321) (j := j2) hx hb hK hP (by decide) (by decide) ej2 (by omega) dX2_allCoins_15 ?_
    refine r_iaddU hx hb dX2_allCoins_16 (fun z3 => ?_)
    refine lv_istore_n (lv' := [(2, .int z3), (0, .ref (ad 7)), (1, .int a1), (3, .int x3)]) hx hb dX2_allCoins_17 rfl hl (by decide) rfl (fun ls hl => ?_)
    refine r_iinc (k := 3) (lv1 := fun z4 => [(3, .int z4), (2, .int z3), (0, .ref (ad 7)), (1, .int a1)]) hx hb dX2_allCoins_18 hl rfl (by decide) (fun _ => rfl) (by decide) (by omega) (fun z4 ls ez4 hl => ?_)
    refine lv_goto (tgt := 4) hx hb dX2_allCoins_21 (by decide) ?_
    exact K4 σ0 τ0 H locs z3 z4 ls hR hF hFL hP hS (by omega) (lv_sub hl [2, 3, 1, 0] rfl) (by omega)
theorem A_X2_allCoins (p : Program) (l : Launch) (e : Env) (s : State) (m : MethodId) (args : Array Value) (below : List Frame) (meth : Method) (c : Code) (D : va_G) (cA : Nat → ClassId) (ad : Nat → Nat) (σ0 : Nat → Nat → Int32) (τ0 : Nat → Nat → Int64) (a1 : Int32) (C : Cy p s m args meth c cX2_allCoins 4 wsX2_allCoins RX2 D cA ad (some .int)) (ha1 : 0 ≤ a1.toInt ∧ a1.toInt ≤ 8) : ∀ n : Nat, J_X2_allCoins_4 p l e s m args below meth c D cA ad σ0 τ0 a1 n := by
  intro n
  induction n with
  | zero =>
    exact (by intro σ τ H locs x2 x3 ls hR hF hFL hP hS hc0 hl hm; exfalso; omega)
  | succ n ih =>
    exact B_X2_allCoins_4 p l e s m args below meth c D cA ad σ0 τ0 a1 n C ha1 ih
set_option maxHeartbeats 4000000 in
theorem c_X2_allCoins (l : Launch) (D : va_G) (cA : Nat → ClassId) (ad : Nat → Nat) (hI : Inj ad) (σ0 : Nat → Nat → Int32) (τ0 : Nat → Nat → Int64) (hR : Rg σ0) (a1 : Int32) (ha1 : 0 ≤ a1.toInt ∧ a1.toInt ≤ 8) : Met l yX2_allCoins wsX2_allCoins ({ frames := 0, cells := 0, slots := 0, locals := 0 } : Room) (WQc D cA ad [.ref (ad 7), .int a1] σ0 τ0) (va_Qi (fun (r : Int32) (u : SS) => P_X2_allCoins σ0 τ0 a1 r u.1 u.2) (WB D cA ad) (AA ad)) 0 0 (AA ad) := by
  refine Met.ofW (cc := cX2_allCoins) (maxL := 4) (ret := (some .int)) (by decide) rfl ?_
  intro p e s m args below meth c s₁ B hml hv
  obtain ⟨rfl, hP, hK, hN⟩ := hv
  have C : Cy p s m _ meth c cX2_allCoins 4 wsX2_allCoins RX2 D cA ad (some .int) := ⟨B.exec, B.bytes, hml, findClass_of_methodNamed B.named, atoms_spec (ws := wsX2_allCoins) B.pre, hK, B.notSynchronized, B.returns, hI, hN⟩
  have hl := lv_entry ([.ref (ad 7), .int a1]) (n := 4) (Nat.le_of_ble_eq_true rfl)
  rw [lg_entry_eq]
  generalize (lg_sl ([.ref (ad 7), .int a1]) ++ List.replicate (4 - (lg_sl ([.ref (ad 7), .int a1])).length) Slot.unset).toArray = ls at hl ⊢
  have hl : lv_has ls 4 [(0, .ref (ad 7)), (1, .int a1)] := hl
  have hS : va_S (AA ad) s.heap s.heap [] := va_S.rf
  have hF : Fr L_X2_allCoins σ0 σ0 := Fr.rf
  have hFL : FrL LL_X2_allCoins τ0 τ0 := FrL.rf
  have hA := A_X2_allCoins p l e s m _ below meth c D cA ad σ0 τ0 a1 C ha1 42
  have K4 := hA
  clear hA
  obtain ⟨hx, hb, _, hown, hts, _, hk, hr, _, _⟩ := C
  refine r_iconst hx hb dX2_allCoins_0 (by decide) (fun z1 ez1 => ?_)
  refine lv_istore_n (lv' := [(2, .int z1), (0, .ref (ad 7)), (1, .int a1)]) hx hb dX2_allCoins_1 rfl hl (by decide) rfl (fun ls hl => ?_)
  refine r_iconst hx hb dX2_allCoins_2 (by decide) (fun z2 ez2 => ?_)
  refine lv_istore_n (lv' := [(3, .int z2), (2, .int z1), (0, .ref (ad 7)), (1, .int a1)]) hx hb dX2_allCoins_3 rfl hl (by decide) rfl (fun ls hl => ?_)
  exact K4 σ0 τ0 s.heap [] z1 z2 ls hR hF hFL hP hS (by omega) (lv_sub hl [2, 3, 1, 0] rfl) (by omega)
theorem in_X2_allStores_2 : ∀ w ∈ u_ws RX2 TX2 7, w ∈ wsX2_allStores := by decide +kernel
theorem lk_X2_allStores_21 : Cond.fieldLink RX2 21 "CuckooShares$Days" "store" "[I" ∈ wsX2_allStores := by decide +kernel
abbrev L_X2_allStores : List Rc := []
abbrev LL_X2_allStores : List Rc := []
def P_X2_allStores (σ0 : Nat → Nat → Int32) (τ0 : Nat → Nat → Int64) (k0 : Nat) (a1 : Int32) (r : Int32) (σ : Nat → Nat → Int32) (τ : Nat → Nat → Int64) : Prop := Rg σ ∧ Fr L_X2_allStores σ0 σ ∧ FrL LL_X2_allStores τ0 τ
def J_X2_allStores_4 (p : Program) (l : Launch) (e : Env) (s : State) (m : MethodId) (args : Array Value) (below : List Frame) (meth : Method) (c : Code) (D : va_G) (cA : Nat → ClassId) (ad : Nat → Nat) (σ0 : Nat → Nat → Int32) (τ0 : Nat → Nat → Int64) (k0 : Nat) (a1 : Int32) (n : Nat) : Prop := ∀ (σ : Nat → Nat → Int32) (τ : Nat → Nat → Int64) (H : Heap) (locs : List Loc) (x2 : Int32) (x3 : Int32) (ls : Array Slot), Rg σ → Fr L_X2_allStores σ0 σ → FrL LL_X2_allStores τ0 τ → va_P D vwCl (gw cA ad σ τ) H → va_S (AA ad) s.heap H locs → (0 ≤ x3.toInt ∧ x3.toInt ≤ 8) → lv_has ls 4 [(0, .ref (ad k0)), (1, .int a1), (2, .int x2), (3, .int x3)] → 2 * (8 - x3.toInt) + 1 < (n : Int) → W p l e ({ frames := 0, cells := 0, slots := 0, locals := 0 } : Room) s m args below meth c H locs 0 0 (MQ below (va_Qi (fun (r : Int32) (u : SS) => P_X2_allStores σ0 τ0 k0 a1 r u.1 u.2) (WB D cA ad) (AA ad)) args s 0 0 (AA ad)) (F0 m 4 ls [])
set_option maxHeartbeats 4000000 in
theorem B_X2_allStores_4 (p : Program) (l : Launch) (e : Env) (s : State) (m : MethodId) (args : Array Value) (below : List Frame) (meth : Method) (c : Code) (D : va_G) (cA : Nat → ClassId) (ad : Nat → Nat) (σ0 : Nat → Nat → Int32) (τ0 : Nat → Nat → Int64) (k0 : Nat) (a1 : Int32) (n : Nat) (C : Cy p s m args meth c cX2_allStores 4 wsX2_allStores RX2 D cA ad (some .int)) (hk0 : 7 ≤ k0 ∧ k0 ≤ 9) (ha1 : 0 ≤ a1.toInt ∧ a1.toInt ≤ 8) (K4 : J_X2_allStores_4 p l e s m args below meth c D cA ad σ0 τ0 k0 a1 n) : J_X2_allStores_4 p l e s m args below meth c D cA ad σ0 τ0 k0 a1 (n + 1) := by
  obtain ⟨hx, hb, hml, hown, hts, hK, hk, hr, hI, hN⟩ := C
  intro σ τ H locs x2 x3 ls hR hF hFL hP hS hc0 hl hm
  obtain rfl := Fr.nil hF
  obtain rfl := FrL.nil hFL
  refine lv_iload_n hx hb dX2_allStores_4 rfl (lv_at hl 3 rfl) ?_
  refine lv_iload_n hx hb dX2_allStores_5 rfl (lv_at hl 1 rfl) ?_
  refine r_icmp_ge (tgt := 24) hx hb dX2_allStores_6 (by decide) (fun c1 => ?_) (fun c1 => ?_)
  · refine lv_iload_n hx hb dX2_allStores_24 rfl (lv_at hl 2 rfl) ?_
    exact r_iret hx hb hr hK hP hS hk dX2_allStores_25 (show P_X2_allStores σ0 τ0 k0 a1 x2 σ0 τ0 from ⟨hR, hF, hFL⟩)
  · refine lv_iload_n hx hb dX2_allStores_9 rfl (lv_at hl 2 rfl) ?_
    refine lv_aload_n hx hb dX2_allStores_10 rfl (lv_at hl 0 rfl) ?_
    refine fg_2_6 (k := k0) hx hb hts in_X2_allStores_2 hown hK hP (by omega) (by omega) (hts _ lk_X2_allStores_21) dX2_allStores_11 ?_
    refine lv_iload_n hx hb dX2_allStores_14 rfl (lv_at hl 3 rfl) ?_
    obtain ⟨j2, ej2⟩ : ∃ j : Nat, x3.toInt = (j : Int) := ⟨_, ti_nat (by omega)⟩
    refine ad_days8 (k := k0 + 340) (j := j2) hx hb hK hP (by omega) (by omega) ej2 (by omega) dX2_allStores_15 ?_
    refine r_iaddU hx hb dX2_allStores_16 (fun z3 => ?_)
    refine lv_istore_n (lv' := [(2, .int z3), (0, .ref (ad k0)), (1, .int a1), (3, .int x3)]) hx hb dX2_allStores_17 rfl hl (by decide) rfl (fun ls hl => ?_)
    refine r_iinc (k := 3) (lv1 := fun z4 => [(3, .int z4), (2, .int z3), (0, .ref (ad k0)), (1, .int a1)]) hx hb dX2_allStores_18 hl rfl (by decide) (fun _ => rfl) (by decide) (by omega) (fun z4 ls ez4 hl => ?_)
    refine lv_goto (tgt := 4) hx hb dX2_allStores_21 (by decide) ?_
    exact K4 σ0 τ0 H locs z3 z4 ls hR hF hFL hP hS (by omega) (lv_sub hl [2, 3, 1, 0] rfl) (by omega)
theorem A_X2_allStores (p : Program) (l : Launch) (e : Env) (s : State) (m : MethodId) (args : Array Value) (below : List Frame) (meth : Method) (c : Code) (D : va_G) (cA : Nat → ClassId) (ad : Nat → Nat) (σ0 : Nat → Nat → Int32) (τ0 : Nat → Nat → Int64) (k0 : Nat) (a1 : Int32) (C : Cy p s m args meth c cX2_allStores 4 wsX2_allStores RX2 D cA ad (some .int)) (hk0 : 7 ≤ k0 ∧ k0 ≤ 9) (ha1 : 0 ≤ a1.toInt ∧ a1.toInt ≤ 8) : ∀ n : Nat, J_X2_allStores_4 p l e s m args below meth c D cA ad σ0 τ0 k0 a1 n := by
  intro n
  induction n with
  | zero =>
    exact (by intro σ τ H locs x2 x3 ls hR hF hFL hP hS hc0 hl hm; exfalso; omega)
  | succ n ih =>
    exact B_X2_allStores_4 p l e s m args below meth c D cA ad σ0 τ0 k0 a1 n C hk0 ha1 ih
set_option maxHeartbeats 4000000 in
theorem c_X2_allStores (l : Launch) (D : va_G) (cA : Nat → ClassId) (ad : Nat → Nat) (hI : Inj ad) (σ0 : Nat → Nat → Int32) (τ0 : Nat → Nat → Int64) (hR : Rg σ0) (k0 : Nat) (a1 : Int32) (hk0 : 7 ≤ k0 ∧ k0 ≤ 9) (ha1 : 0 ≤ a1.toInt ∧ a1.toInt ≤ 8) : Met l yX2_allStores wsX2_allStores ({ frames := 0, cells := 0, slots := 0, locals := 0 } : Room) (WQc D cA ad [.ref (ad k0), .int a1] σ0 τ0) (va_Qi (fun (r : Int32) (u : SS) => P_X2_allStores σ0 τ0 k0 a1 r u.1 u.2) (WB D cA ad) (AA ad)) 0 0 (AA ad) := by
  refine Met.ofW (cc := cX2_allStores) (maxL := 4) (ret := (some .int)) (by decide) rfl ?_
  intro p e s m args below meth c s₁ B hml hv
  obtain ⟨rfl, hP, hK, hN⟩ := hv
  have C : Cy p s m _ meth c cX2_allStores 4 wsX2_allStores RX2 D cA ad (some .int) := ⟨B.exec, B.bytes, hml, findClass_of_methodNamed B.named, atoms_spec (ws := wsX2_allStores) B.pre, hK, B.notSynchronized, B.returns, hI, hN⟩
  have hl := lv_entry ([.ref (ad k0), .int a1]) (n := 4) (Nat.le_of_ble_eq_true rfl)
  rw [lg_entry_eq]
  generalize (lg_sl ([.ref (ad k0), .int a1]) ++ List.replicate (4 - (lg_sl ([.ref (ad k0), .int a1])).length) Slot.unset).toArray = ls at hl ⊢
  have hl : lv_has ls 4 [(0, .ref (ad k0)), (1, .int a1)] := hl
  have hS : va_S (AA ad) s.heap s.heap [] := va_S.rf
  have hF : Fr L_X2_allStores σ0 σ0 := Fr.rf
  have hFL : FrL LL_X2_allStores τ0 τ0 := FrL.rf
  have hA := A_X2_allStores p l e s m _ below meth c D cA ad σ0 τ0 k0 a1 C hk0 ha1 42
  have K4 := hA
  clear hA
  obtain ⟨hx, hb, _, hown, hts, _, hk, hr, _, _⟩ := C
  refine r_iconst hx hb dX2_allStores_0 (by decide) (fun z1 ez1 => ?_)
  refine lv_istore_n (lv' := [(2, .int z1), (0, .ref (ad k0)), (1, .int a1)]) hx hb dX2_allStores_1 rfl hl (by decide) rfl (fun ls hl => ?_)
  refine r_iconst hx hb dX2_allStores_2 (by decide) (fun z2 ez2 => ?_)
  refine lv_istore_n (lv' := [(3, .int z2), (2, .int z1), (0, .ref (ad k0)), (1, .int a1)]) hx hb dX2_allStores_3 rfl hl (by decide) rfl (fun ls hl => ?_)
  exact K4 σ0 τ0 s.heap [] z1 z2 ls hR hF hFL hP hS (by omega) (lv_sub hl [2, 3, 1, 0] rfl) (by omega)
theorem in_X2_swornMen_2 : ∀ w ∈ u_ws RX2 TX2 7, w ∈ wsX2_swornMen := by decide +kernel
theorem lk_X2_swornMen_18 : Cond.fieldLink RX2 18 "CuckooShares$Days" "sworn" "[I" ∈ wsX2_swornMen := by decide +kernel
abbrev L_X2_swornMen : List Rc := []
abbrev LL_X2_swornMen : List Rc := []
def P_X2_swornMen (σ0 : Nat → Nat → Int32) (τ0 : Nat → Nat → Int64) (a1 : Int32) (r : Int32) (σ : Nat → Nat → Int32) (τ : Nat → Nat → Int64) : Prop := Rg σ ∧ Fr L_X2_swornMen σ0 σ ∧ FrL LL_X2_swornMen τ0 τ
def J_X2_swornMen_4 (p : Program) (l : Launch) (e : Env) (s : State) (m : MethodId) (args : Array Value) (below : List Frame) (meth : Method) (c : Code) (D : va_G) (cA : Nat → ClassId) (ad : Nat → Nat) (σ0 : Nat → Nat → Int32) (τ0 : Nat → Nat → Int64) (a1 : Int32) (n : Nat) : Prop := ∀ (σ : Nat → Nat → Int32) (τ : Nat → Nat → Int64) (H : Heap) (locs : List Loc) (x2 : Int32) (x3 : Int32) (ls : Array Slot), Rg σ → Fr L_X2_swornMen σ0 σ → FrL LL_X2_swornMen τ0 τ → va_P D vwCl (gw cA ad σ τ) H → va_S (AA ad) s.heap H locs → (0 ≤ x3.toInt ∧ x3.toInt ≤ 8) → lv_has ls 4 [(0, .ref (ad 7)), (1, .int a1), (2, .int x2), (3, .int x3)] → 2 * (8 - x3.toInt) + 1 < (n : Int) → W p l e ({ frames := 0, cells := 0, slots := 0, locals := 0 } : Room) s m args below meth c H locs 0 0 (MQ below (va_Qi (fun (r : Int32) (u : SS) => P_X2_swornMen σ0 τ0 a1 r u.1 u.2) (WB D cA ad) (AA ad)) args s 0 0 (AA ad)) (F0 m 4 ls [])
set_option maxHeartbeats 4000000 in
theorem B_X2_swornMen_4 (p : Program) (l : Launch) (e : Env) (s : State) (m : MethodId) (args : Array Value) (below : List Frame) (meth : Method) (c : Code) (D : va_G) (cA : Nat → ClassId) (ad : Nat → Nat) (σ0 : Nat → Nat → Int32) (τ0 : Nat → Nat → Int64) (a1 : Int32) (n : Nat) (C : Cy p s m args meth c cX2_swornMen 4 wsX2_swornMen RX2 D cA ad (some .int)) (ha1 : 0 ≤ a1.toInt ∧ a1.toInt ≤ 8) (K4 : J_X2_swornMen_4 p l e s m args below meth c D cA ad σ0 τ0 a1 n) : J_X2_swornMen_4 p l e s m args below meth c D cA ad σ0 τ0 a1 (n + 1) := by
  obtain ⟨hx, hb, hml, hown, hts, hK, hk, hr, hI, hN⟩ := C
  intro σ τ H locs x2 x3 ls hR hF hFL hP hS hc0 hl hm
  obtain rfl := Fr.nil hF
  obtain rfl := FrL.nil hFL
  refine lv_iload_n hx hb dX2_swornMen_4 rfl (lv_at hl 3 rfl) ?_
  refine lv_iload_n hx hb dX2_swornMen_5 rfl (lv_at hl 1 rfl) ?_
  refine r_icmp_ge (tgt := 31) hx hb dX2_swornMen_6 (by decide) (fun c1 => ?_) (fun c1 => ?_)
  · refine lv_iload_n hx hb dX2_swornMen_31 rfl (lv_at hl 2 rfl) ?_
    exact r_iret hx hb hr hK hP hS hk dX2_swornMen_32 (show P_X2_swornMen σ0 τ0 a1 x2 σ0 τ0 from ⟨hR, hF, hFL⟩)
  · refine lv_aload_n hx hb dX2_swornMen_9 rfl (lv_at hl 0 rfl) ?_
    refine fg_2_5 (k := 7) hx hb hts in_X2_swornMen_2 hown hK hP (by decide) (by decide) (hts _ lk_X2_swornMen_18) dX2_swornMen_10 ?_
    refine lv_iload_n hx hb dX2_swornMen_13 rfl (lv_at hl 3 rfl) ?_
    obtain ⟨j2, ej2⟩ : ∃ j : Nat, x3.toInt = (j : Int) := ⟨_, ti_nat (by omega)⟩
    refine ad_days8 (k := 334) (j := j2) hx hb hK hP (by decide) (by decide) ej2 (by omega) dX2_swornMen_14 ?_
    refine r_iconst hx hb dX2_swornMen_15 (by decide) (fun z3 ez3 => ?_)
    refine r_icmp_eq (tgt := 25) hx hb dX2_swornMen_16 (by decide) (fun c4 => ?_) (fun c4 => ?_)
    · refine r_iinc (k := 3) (lv1 := fun z5 => [(3, .int z5), (0, .ref (ad 7)), (1, .int a1), (2, .int x2)]) hx hb dX2_swornMen_25 hl rfl (by decide) (fun _ => rfl) (by decide) (by omega) (fun z5 ls ez5 hl => ?_)
      refine lv_goto (tgt := 4) hx hb dX2_swornMen_28 (by decide) ?_
      exact K4 σ0 τ0 H locs x2 z5 ls hR hF hFL hP hS (by omega) (lv_sub hl [1, 2, 3, 0] rfl) (by omega)
    · refine lv_iload_n hx hb dX2_swornMen_19 rfl (lv_at hl 2 rfl) ?_
      refine r_iconst hx hb dX2_swornMen_20 (by decide) (fun z6 ez6 => ?_)
      refine lv_iload_n hx hb dX2_swornMen_21 rfl (lv_at hl 3 rfl) ?_
      refine r_ishlU hx hb dX2_swornMen_22 (fun z7 => ?_)
      refine r_iorU hx hb dX2_swornMen_23 (fun z8 => ?_)
      refine lv_istore_n (lv' := [(2, .int z8), (0, .ref (ad 7)), (1, .int a1), (3, .int x3)]) hx hb dX2_swornMen_24 rfl hl (by decide) rfl (fun ls hl => ?_)
      refine r_iinc (k := 3) (lv1 := fun z9 => [(3, .int z9), (2, .int z8), (0, .ref (ad 7)), (1, .int a1)]) hx hb dX2_swornMen_25 hl rfl (by decide) (fun _ => rfl) (by decide) (by omega) (fun z9 ls ez9 hl => ?_)
      refine lv_goto (tgt := 4) hx hb dX2_swornMen_28 (by decide) ?_
      exact K4 σ0 τ0 H locs z8 z9 ls hR hF hFL hP hS (by omega) (lv_sub hl [2, 3, 1, 0] rfl) (by omega)
theorem A_X2_swornMen (p : Program) (l : Launch) (e : Env) (s : State) (m : MethodId) (args : Array Value) (below : List Frame) (meth : Method) (c : Code) (D : va_G) (cA : Nat → ClassId) (ad : Nat → Nat) (σ0 : Nat → Nat → Int32) (τ0 : Nat → Nat → Int64) (a1 : Int32) (C : Cy p s m args meth c cX2_swornMen 4 wsX2_swornMen RX2 D cA ad (some .int)) (ha1 : 0 ≤ a1.toInt ∧ a1.toInt ≤ 8) : ∀ n : Nat, J_X2_swornMen_4 p l e s m args below meth c D cA ad σ0 τ0 a1 n := by
  intro n
  induction n with
  | zero =>
    exact (by intro σ τ H locs x2 x3 ls hR hF hFL hP hS hc0 hl hm; exfalso; omega)
  | succ n ih =>
    exact B_X2_swornMen_4 p l e s m args below meth c D cA ad σ0 τ0 a1 n C ha1 ih
set_option maxHeartbeats 4000000 in
theorem c_X2_swornMen (l : Launch) (D : va_G) (cA : Nat → ClassId) (ad : Nat → Nat) (hI : Inj ad) (σ0 : Nat → Nat → Int32) (τ0 : Nat → Nat → Int64) (hR : Rg σ0) (a1 : Int32) (ha1 : 0 ≤ a1.toInt ∧ a1.toInt ≤ 8) : Met l yX2_swornMen wsX2_swornMen ({ frames := 0, cells := 0, slots := 0, locals := 0 } : Room) (WQc D cA ad [.ref (ad 7), .int a1] σ0 τ0) (va_Qi (fun (r : Int32) (u : SS) => P_X2_swornMen σ0 τ0 a1 r u.1 u.2) (WB D cA ad) (AA ad)) 0 0 (AA ad) := by
  refine Met.ofW (cc := cX2_swornMen) (maxL := 4) (ret := (some .int)) (by decide) rfl ?_
  intro p e s m args below meth c s₁ B hml hv
  obtain ⟨rfl, hP, hK, hN⟩ := hv
  have C : Cy p s m _ meth c cX2_swornMen 4 wsX2_swornMen RX2 D cA ad (some .int) := ⟨B.exec, B.bytes, hml, findClass_of_methodNamed B.named, atoms_spec (ws := wsX2_swornMen) B.pre, hK, B.notSynchronized, B.returns, hI, hN⟩
  have hl := lv_entry ([.ref (ad 7), .int a1]) (n := 4) (Nat.le_of_ble_eq_true rfl)
  rw [lg_entry_eq]
  generalize (lg_sl ([.ref (ad 7), .int a1]) ++ List.replicate (4 - (lg_sl ([.ref (ad 7), .int a1])).length) Slot.unset).toArray = ls at hl ⊢
  have hl : lv_has ls 4 [(0, .ref (ad 7)), (1, .int a1)] := hl
  have hS : va_S (AA ad) s.heap s.heap [] := va_S.rf
  have hF : Fr L_X2_swornMen σ0 σ0 := Fr.rf
  have hFL : FrL LL_X2_swornMen τ0 τ0 := FrL.rf
  have hA := A_X2_swornMen p l e s m _ below meth c D cA ad σ0 τ0 a1 C ha1 42
  have K4 := hA
  clear hA
  obtain ⟨hx, hb, _, hown, hts, _, hk, hr, _, _⟩ := C
  refine r_iconst hx hb dX2_swornMen_0 (by decide) (fun z1 ez1 => ?_)
  refine lv_istore_n (lv' := [(2, .int z1), (0, .ref (ad 7)), (1, .int a1)]) hx hb dX2_swornMen_1 rfl hl (by decide) rfl (fun ls hl => ?_)
  refine r_iconst hx hb dX2_swornMen_2 (by decide) (fun z2 ez2 => ?_)
  refine lv_istore_n (lv' := [(3, .int z2), (2, .int z1), (0, .ref (ad 7)), (1, .int a1)]) hx hb dX2_swornMen_3 rfl hl (by decide) rfl (fun ls hl => ?_)
  exact K4 σ0 τ0 s.heap [] z1 z2 ls hR hF hFL hP hS (by omega) (lv_sub hl [2, 3, 1, 0] rfl) (by omega)
theorem in_X9_chances_9 : ∀ w ∈ u_ws RX9 TX9 14, w ∈ wsX9_chances := by decide +kernel
theorem lk_X9_chances_26 : Cond.fieldLink RX9 26 "CuckooShares$Valley" "flight" "[[I" ∈ wsX9_chances := by decide +kernel
theorem lk_X9_chances_55 : Cond.fieldLink RX9 55 "CuckooShares$Valley" "flights" "I" ∈ wsX9_chances := by decide +kernel
abbrev L_X9_chances_c : List Rc := []
abbrev LL_X9_chances_c : List Rc := []
def P_X9_chances_c (σ0 : Nat → Nat → Int32) (τ0 : Nat → Nat → Int64) (h : Nat → Int) (r : Int32) (σ : Nat → Nat → Int32) (τ : Nat → Nat → Int64) : Prop := Rg σ ∧ Fr L_X9_chances_c σ0 σ ∧ FrL LL_X9_chances_c τ0 τ ∧ (0 ≤ r.toInt ∧ r.toInt ≤ 36) ∧ (r.toInt = chS h (h 2).toNat)
def J_X9_chances_c_4 (p : Program) (l : Launch) (e : Env) (s : State) (m : MethodId) (args : Array Value) (below : List Frame) (meth : Method) (c : Code) (D : va_G) (cA : Nat → ClassId) (ad : Nat → Nat) (σ0 : Nat → Nat → Int32) (τ0 : Nat → Nat → Int64) (h : Nat → Int) (n : Nat) : Prop := ∀ (σ : Nat → Nat → Int32) (τ : Nat → Nat → Int64) (H : Heap) (locs : List Loc) (x1 : Int32) (x2 : Int32) (ls : Array Slot), Rg σ → Fr L_X9_chances_c σ0 σ → FrL LL_X9_chances_c τ0 τ → va_P D vwCl (gw cA ad σ τ) H → va_S (AA ad) s.heap H locs → (0 ≤ x1.toInt ∧ x1.toInt ≤ 36) → (0 ≤ x2.toInt ∧ x2.toInt ≤ 4) → (x1.toInt = chS h x2.toInt.toNat) → (0 ≤ x1.toInt ∧ x1.toInt ≤ 9 * x2.toInt) → (x2.toInt ≤ (σ0 2 6).toInt) → lv_has ls 3 [(0, .ref (ad 2)), (1, .int x1), (2, .int x2)] → 2 * (4 - x2.toInt) + 1 < (n : Int) → W p l e ({ frames := 0, cells := 0, slots := 0, locals := 0 } : Room) s m args below meth c H locs 0 0 (MQ below (va_Qi (fun (r : Int32) (u : SS) => P_X9_chances_c σ0 τ0 h r u.1 u.2) (WB D cA ad) (AA ad)) args s 0 0 (AA ad)) (F0 m 4 ls [])
set_option maxHeartbeats 4000000 in
theorem B_X9_chances_c_4 (p : Program) (l : Launch) (e : Env) (s : State) (m : MethodId) (args : Array Value) (below : List Frame) (meth : Method) (c : Code) (D : va_G) (cA : Nat → ClassId) (ad : Nat → Nat) (σ0 : Nat → Nat → Int32) (τ0 : Nat → Nat → Int64) (h : Nat → Int) (n : Nat) (C : Cy p s m args meth c cX9_chances 3 wsX9_chances RX9 D cA ad (some .int)) (hpre0 : CV σ0 2 h) (hpre1 : ∀ f : Nat, f < 4 → 0 ≤ h (79 + f) ∧ h (79 + f) ≤ 9) (K4 : J_X9_chances_c_4 p l e s m args below meth c D cA ad σ0 τ0 h n) : J_X9_chances_c_4 p l e s m args below meth c D cA ad σ0 τ0 h (n + 1) := by
  obtain ⟨hx, hb, hml, hown, hts, hK, hk, hr, hI, hN⟩ := C
  intro σ τ H locs x1 x2 ls hR hF hFL hP hS hc0 hc1 hi0 hi1 hi2 hl hm
  obtain rfl := Fr.nil hF
  obtain rfl := FrL.nil hFL
  have hn2 := hpre0.n2
  refine lv_iload_n hx hb dX9_chances_4 rfl (lv_at hl 2 rfl) ?_
  refine lv_aload_n hx hb dX9_chances_5 rfl (lv_at hl 0 rfl) ?_
  refine fg_9_6 (k := 2) hx hb hts in_X9_chances_9 hown hK hP (by decide) (by decide) (hts _ lk_X9_chances_55) dX9_chances_6 ?_
  have hr1 := rg_9_6 hR (k := 2) (by decide) (by decide)
  refine r_icmp_ge (tgt := 29) hx hb dX9_chances_9 (by decide) (fun c2 => ?_) (fun c2 => ?_)
  · refine lv_iload_n hx hb dX9_chances_29 rfl (lv_at hl 1 rfl) ?_
    exact r_iret hx hb hr hK hP hS hk dX9_chances_30 (show P_X9_chances_c σ0 τ0 h x1 σ0 τ0 from ⟨hR, hF, hFL, by omega, by rw [show (h 2).toNat = x2.toInt.toNat by omega]; exact hi0⟩)
  · refine lv_iload_n hx hb dX9_chances_12 rfl (lv_at hl 1 rfl) ?_
    refine lv_aload_n hx hb dX9_chances_13 rfl (lv_at hl 0 rfl) ?_
    refine fg_9_11 (k := 2) hx hb hts in_X9_chances_9 hown hK hP (by decide) (by decide) (hts _ lk_X9_chances_26) dX9_chances_14 ?_
    refine lv_iload_n hx hb dX9_chances_17 rfl (lv_at hl 2 rfl) ?_
    obtain ⟨j3, ej3⟩ : ∃ j : Nat, x2.toInt = (j : Int) := ⟨_, ti_nat (by omega)⟩
    refine ad_flightA (k := 56) (j := j3) hx hb hK hP (by decide) (by decide) ej3 (by omega) dX9_chances_18 ?_
    refine r_iconst hx hb dX9_chances_19 (by decide) (fun z4 ez4 => ?_)
    refine ad_flightR (k := 132 + j3) (j := 0) hx hb hK hP (by omega) (by omega) (by omega) (by omega) dX9_chances_20 ?_
    have hch := CV.ch (i := j3) hpre0 (by omega) (by omega) (by omega)
    have hcb := hpre1 x2.toInt.toNat (by omega)
    refine r_iadd hx hb dX9_chances_21 (by omega) (fun z5 ez5 => ?_)
    refine lv_istore_n (lv' := [(1, .int z5), (0, .ref (ad 2)), (2, .int x2)]) hx hb dX9_chances_22 rfl hl (by decide) rfl (fun ls hl => ?_)
    refine r_iinc (k := 2) (lv1 := fun z6 => [(2, .int z6), (1, .int z5), (0, .ref (ad 2))]) hx hb dX9_chances_23 hl rfl (by decide) (fun _ => rfl) (by decide) (by omega) (fun z6 ls ez6 hl => ?_)
    refine lv_goto (tgt := 4) hx hb dX9_chances_26 (by decide) ?_
    have hrq := rg_9_6 hR (k := 2) (by decide) (by decide)
    exact K4 σ0 τ0 H locs z5 z6 ls hR hF hFL hP hS (by omega) (by omega) (by first | (rw [show z6.toInt.toNat = 0 by omega]; show _ = (0 : Int); omega) | (rw [chS_s (x := x2.toInt) (by omega) (by omega)]; omega)) (by omega) (by omega) (lv_sub hl [2, 1, 0] rfl) (by omega)
theorem A_X9_chances_c (p : Program) (l : Launch) (e : Env) (s : State) (m : MethodId) (args : Array Value) (below : List Frame) (meth : Method) (c : Code) (D : va_G) (cA : Nat → ClassId) (ad : Nat → Nat) (σ0 : Nat → Nat → Int32) (τ0 : Nat → Nat → Int64) (h : Nat → Int) (C : Cy p s m args meth c cX9_chances 3 wsX9_chances RX9 D cA ad (some .int)) (hpre0 : CV σ0 2 h) (hpre1 : ∀ f : Nat, f < 4 → 0 ≤ h (79 + f) ∧ h (79 + f) ≤ 9) : ∀ n : Nat, J_X9_chances_c_4 p l e s m args below meth c D cA ad σ0 τ0 h n := by
  intro n
  induction n with
  | zero =>
    exact (by intro σ τ H locs x1 x2 ls hR hF hFL hP hS hc0 hc1 hi0 hi1 hi2 hl hm; exfalso; omega)
  | succ n ih =>
    exact B_X9_chances_c_4 p l e s m args below meth c D cA ad σ0 τ0 h n C hpre0 hpre1 ih
set_option maxHeartbeats 4000000 in
theorem c_X9_chances_c (l : Launch) (D : va_G) (cA : Nat → ClassId) (ad : Nat → Nat) (hI : Inj ad) (σ0 : Nat → Nat → Int32) (τ0 : Nat → Nat → Int64) (hR : Rg σ0) (h : Nat → Int) (hpre0 : CV σ0 2 h) (hpre1 : ∀ f : Nat, f < 4 → 0 ≤ h (79 + f) ∧ h (79 + f) ≤ 9) : Met l yX9_chances wsX9_chances ({ frames := 0, cells := 0, slots := 0, locals := 0 } : Room) (WQc D cA ad [.ref (ad 2)] σ0 τ0) (va_Qi (fun (r : Int32) (u : SS) => P_X9_chances_c σ0 τ0 h r u.1 u.2) (WB D cA ad) (AA ad)) 0 0 (AA ad) := by
  refine Met.ofW (cc := cX9_chances) (maxL := 3) (ret := (some .int)) (by decide) rfl ?_
  intro p e s m args below meth c s₁ B hml hv
  obtain ⟨rfl, hP, hK, hN⟩ := hv
  have C : Cy p s m _ meth c cX9_chances 3 wsX9_chances RX9 D cA ad (some .int) := ⟨B.exec, B.bytes, hml, findClass_of_methodNamed B.named, atoms_spec (ws := wsX9_chances) B.pre, hK, B.notSynchronized, B.returns, hI, hN⟩
  have hl := lv_entry ([.ref (ad 2)]) (n := 3) (Nat.le_of_ble_eq_true rfl)
  rw [lg_entry_eq]
  generalize (lg_sl ([.ref (ad 2)]) ++ List.replicate (3 - (lg_sl ([.ref (ad 2)])).length) Slot.unset).toArray = ls at hl ⊢
  have hl : lv_has ls 3 [(0, .ref (ad 2))] := hl
  have hS : va_S (AA ad) s.heap s.heap [] := va_S.rf
  have hF : Fr L_X9_chances_c σ0 σ0 := Fr.rf
  have hFL : FrL LL_X9_chances_c τ0 τ0 := FrL.rf
  have hA := A_X9_chances_c p l e s m _ below meth c D cA ad σ0 τ0 h C hpre0 hpre1 26
  have K4 := hA
  clear hA
  obtain ⟨hx, hb, _, hown, hts, _, hk, hr, _, _⟩ := C
  refine r_iconst hx hb dX9_chances_0 (by decide) (fun z1 ez1 => ?_)
  refine lv_istore_n (lv' := [(1, .int z1), (0, .ref (ad 2))]) hx hb dX9_chances_1 rfl hl (by decide) rfl (fun ls hl => ?_)
  refine r_iconst hx hb dX9_chances_2 (by decide) (fun z2 ez2 => ?_)
  refine lv_istore_n (lv' := [(2, .int z2), (1, .int z1), (0, .ref (ad 2))]) hx hb dX9_chances_3 rfl hl (by decide) rfl (fun ls hl => ?_)
  have hrq := rg_9_6 hR (k := 2) (by decide) (by decide)
  exact K4 σ0 τ0 s.heap [] z1 z2 ls hR hF hFL hP hS (by omega) (by omega) (by first | (rw [show z2.toInt.toNat = 0 by omega]; show _ = (0 : Int); omega) | (rw [chS_s (x := x2.toInt) (by omega) (by omega)]; omega)) (by omega) (by omega) (lv_sub hl [2, 1, 0] rfl) (by omega)
theorem in_X0_arrive_2 : ∀ w ∈ u_ws RX2 TX2 7, w ∈ wsX0_arrive := by decide +kernel
abbrev L_X0_arrive : List Rc := [(7, 9, 1, 1)]
abbrev LL_X0_arrive : List Rc := []
def P_X0_arrive (σ0 : Nat → Nat → Int32) (τ0 : Nat → Nat → Int64) (k1 : Nat) (a2 : Int32) (r : Int32) (σ : Nat → Nat → Int32) (τ : Nat → Nat → Int64) : Prop := Rg σ ∧ Fr L_X0_arrive σ0 σ ∧ FrL LL_X0_arrive τ0 τ ∧ (0 ≤ r.toInt ∧ r.toInt ≤ 1)
set_option maxHeartbeats 4000000 in
theorem c_X0_arrive (l : Launch) (D : va_G) (cA : Nat → ClassId) (ad : Nat → Nat) (hI : Inj ad) (σ0 : Nat → Nat → Int32) (τ0 : Nat → Nat → Int64) (hR : Rg σ0) (k1 : Nat) (a2 : Int32) (hk1 : 7 ≤ k1 ∧ k1 ≤ 9) (ha2 : 0 ≤ a2.toInt ∧ a2.toInt ≤ 3) : Met l yX0_arrive wsX0_arrive ({ frames := 0, cells := 0, slots := 0, locals := 0 } : Room) (WQc D cA ad [.ref (ad 22), .ref (ad k1), .int a2] σ0 τ0) (va_Qi (fun (r : Int32) (u : SS) => P_X0_arrive σ0 τ0 k1 a2 r u.1 u.2) (WB D cA ad) (AA ad)) 0 0 (AA ad) := by
  refine Met.ofW (cc := cX0_arrive) (maxL := 3) (ret := (some .int)) (by decide) rfl ?_
  intro p e s m args below meth c s₁ B hml hv
  obtain ⟨rfl, hP, hK, hN⟩ := hv
  have C : Cy p s m _ meth c cX0_arrive 3 wsX0_arrive RX0 D cA ad (some .int) := ⟨B.exec, B.bytes, hml, findClass_of_methodNamed B.named, atoms_spec (ws := wsX0_arrive) B.pre, hK, B.notSynchronized, B.returns, hI, hN⟩
  have hl := lv_entry ([.ref (ad 22), .ref (ad k1), .int a2]) (n := 3) (Nat.le_of_ble_eq_true rfl)
  rw [lg_entry_eq]
  generalize (lg_sl ([.ref (ad 22), .ref (ad k1), .int a2]) ++ List.replicate (3 - (lg_sl ([.ref (ad 22), .ref (ad k1), .int a2])).length) Slot.unset).toArray = ls at hl ⊢
  have hl : lv_has ls 3 [(0, .ref (ad 22)), (1, .ref (ad k1)), (2, .int a2)] := hl
  have hS : va_S (AA ad) s.heap s.heap [] := va_S.rf
  have hF : Fr L_X0_arrive σ0 σ0 := Fr.rf
  have hFL : FrL LL_X0_arrive τ0 τ0 := FrL.rf
  obtain ⟨hx, hb, _, hown, hts, _, hk, hr, _, _⟩ := C
  refine lv_aload_n hx hb dX0_arrive_0 rfl (lv_at hl 1 rfl) ?_
  refine fgN_2_1 (k := k1) hx hb hts in_X0_arrive_2 hown hK hP (by omega) (by omega) (hN.use nw_0_19) dX0_arrive_1 ?_
  refine r_iconst hx hb dX0_arrive_4 (by decide) (fun z1 ez1 => ?_)
  refine r_icmp_eq (tgt := 10) hx hb dX0_arrive_5 (by decide) (fun c2 => ?_) (fun c2 => ?_)
  · refine lv_aload_n hx hb dX0_arrive_10 rfl (lv_at hl 1 rfl) ?_
    refine lv_iload_n hx hb dX0_arrive_11 rfl (lv_at hl 2 rfl) ?_
    refine fpN_2_1 (k := k1) hx hb hts in_X0_arrive_2 hown hK hP (by omega) (by omega) (hN.use nw_0_19) hI hR hS dX0_arrive_12 (fun σ3 H3 locs3 u3 v3 hR hP hS => ?_)
    have hF := hF.puts u3 0 rfl (by omega) (by omega) (by decide) (by decide)
    refine r_iconst hx hb dX0_arrive_15 (by decide) (fun z4 ez4 => ?_)
    exact r_iret hx hb hr hK hP hS hk dX0_arrive_16 (show P_X0_arrive σ0 τ0 k1 a2 z4 σ3 τ0 from ⟨hR, hF, hFL, by omega⟩)
  · refine r_iconst hx hb dX0_arrive_8 (by decide) (fun z5 ez5 => ?_)
    exact r_iret hx hb hr hK hP hS hk dX0_arrive_9 (show P_X0_arrive σ0 τ0 k1 a2 z5 σ0 τ0 from ⟨hR, hF, hFL, by omega⟩)
theorem cn_X2_copyFrom : Cond.native arraycopyName ∈ wsX2_copyFrom := by decide +kernel
theorem cs_X2_copyFrom : Cond.static arraycopyName ∈ wsX2_copyFrom := by decide +kernel
theorem ci_X2_copyFrom : Cond.initialized "java/lang/System" ∈ wsX2_copyFrom := by decide +kernel
theorem in_X2_copyFrom_2 : ∀ w ∈ u_ws RX2 TX2 7, w ∈ wsX2_copyFrom := by decide +kernel
theorem lk_X2_copyFrom_15 : Cond.fieldLink RX2 15 "CuckooShares$Days" "coins" "[I" ∈ wsX2_copyFrom := by decide +kernel
theorem lk_X2_copyFrom_18 : Cond.fieldLink RX2 18 "CuckooShares$Days" "sworn" "[I" ∈ wsX2_copyFrom := by decide +kernel
theorem lk_X2_copyFrom_21 : Cond.fieldLink RX2 21 "CuckooShares$Days" "store" "[I" ∈ wsX2_copyFrom := by decide +kernel
theorem lk_X2_copyFrom_24 : Cond.fieldLink RX2 24 "CuckooShares$Days" "flight" "I" ∈ wsX2_copyFrom := by decide +kernel
theorem lk_X2_copyFrom_28 : Cond.fieldLink RX2 28 "CuckooShares$Days" "year" "I" ∈ wsX2_copyFrom := by decide +kernel
theorem lk_X2_copyFrom_31 : Cond.fieldLink RX2 31 "CuckooShares$Days" "hour" "I" ∈ wsX2_copyFrom := by decide +kernel
theorem lk_X2_copyFrom_43 : Cond.methodLink RX2 43 arraycopyName ∈ wsX2_copyFrom := by decide +kernel
theorem lk_X2_copyFrom_9 : Cond.fieldLink RX2 9 "CuckooShares$Days" "hill" "[I" ∈ wsX2_copyFrom := by decide +kernel
abbrev L_X2_copyFrom : List Rc := [(7, 19, 0, 2), (308, 320, 0, 8), (321, 333, 0, 8), (334, 346, 0, 8), (347, 359, 0, 8)]
abbrev LL_X2_copyFrom : List Rc := []
def P_X2_copyFrom (σ0 : Nat → Nat → Int32) (τ0 : Nat → Nat → Int64) (k0 : Nat) (k1 : Nat) (σ : Nat → Nat → Int32) (τ : Nat → Nat → Int64) : Prop := Rg σ ∧ Fr L_X2_copyFrom σ0 σ ∧ FrL LL_X2_copyFrom τ0 τ
set_option maxHeartbeats 4000000 in
theorem c_X2_copyFrom (l : Launch) (D : va_G) (cA : Nat → ClassId) (ad : Nat → Nat) (hI : Inj ad) (σ0 : Nat → Nat → Int32) (τ0 : Nat → Nat → Int64) (hR : Rg σ0) (k0 : Nat) (k1 : Nat) (hk0 : 7 ≤ k0 ∧ k0 ≤ 19) (hk1 : 7 ≤ k1 ∧ k1 ≤ 19) : Met l yX2_copyFrom wsX2_copyFrom ({ frames := 1, cells := 0, slots := 0, locals := 60 } : Room) (WQc D cA ad [.ref (ad k0), .ref (ad k1)] σ0 τ0) (va_Qv (fun u : SS => P_X2_copyFrom σ0 τ0 k0 k1 u.1 u.2) (WB D cA ad) (AA ad)) 0 0 (AA ad) := by
  refine Met.ofW (cc := cX2_copyFrom) (maxL := 2) (ret := none) (by decide) rfl ?_
  intro p e s m args below meth c s₁ B hml hv
  obtain ⟨rfl, hP, hK, hN⟩ := hv
  have C : Cy p s m _ meth c cX2_copyFrom 2 wsX2_copyFrom RX2 D cA ad none := ⟨B.exec, B.bytes, hml, findClass_of_methodNamed B.named, atoms_spec (ws := wsX2_copyFrom) B.pre, hK, B.notSynchronized, B.returns, hI, hN⟩
  have hl := lv_entry ([.ref (ad k0), .ref (ad k1)]) (n := 2) (Nat.le_of_ble_eq_true rfl)
  rw [lg_entry_eq]
  generalize (lg_sl ([.ref (ad k0), .ref (ad k1)]) ++ List.replicate (2 - (lg_sl ([.ref (ad k0), .ref (ad k1)])).length) Slot.unset).toArray = ls at hl ⊢
  have hl : lv_has ls 2 [(0, .ref (ad k0)), (1, .ref (ad k1))] := hl
  have hS : va_S (AA ad) s.heap s.heap [] := va_S.rf
  have hF : Fr L_X2_copyFrom σ0 σ0 := Fr.rf
  have hFL : FrL LL_X2_copyFrom τ0 τ0 := FrL.rf
  obtain ⟨hx, hb, _, hown, hts, _, hk, hr, _, _⟩ := C
  refine lv_aload_n hx hb dX2_copyFrom_0 rfl (lv_at hl 0 rfl) ?_
  refine lv_aload_n hx hb dX2_copyFrom_1 rfl (lv_at hl 1 rfl) ?_
  refine fg_2_0 (k := k1) hx hb hts in_X2_copyFrom_2 hown hK hP (by omega) (by omega) (hts _ lk_X2_copyFrom_28) dX2_copyFrom_2 ?_
  refine fp_2_0 (k := k0) hx hb hts in_X2_copyFrom_2 hown hK hP (by omega) (by omega) (hts _ lk_X2_copyFrom_28) hI hR hS dX2_copyFrom_5 (fun σ1 H1 locs1 u1 v1 hR hP hS => ?_)
  have hF := hF.puts u1 0 rfl (by omega) (by omega) (by decide) (by decide)
  refine lv_aload_n hx hb dX2_copyFrom_8 rfl (lv_at hl 0 rfl) ?_
  refine lv_aload_n hx hb dX2_copyFrom_9 rfl (lv_at hl 1 rfl) ?_
  refine fg_2_1 (k := k1) hx hb hts in_X2_copyFrom_2 hown hK hP (by omega) (by omega) (hts _ lk_X2_copyFrom_24) dX2_copyFrom_10 ?_
  refine fp_2_1 (k := k0) hx hb hts in_X2_copyFrom_2 hown hK hP (by omega) (by omega) (hts _ lk_X2_copyFrom_24) hI hR hS dX2_copyFrom_13 (fun σ2 H2 locs2 u2 v2 hR hP hS => ?_)
  have hF := hF.puts u2 0 rfl (by omega) (by omega) (by decide) (by decide)
  refine lv_aload_n hx hb dX2_copyFrom_16 rfl (lv_at hl 0 rfl) ?_
  refine lv_aload_n hx hb dX2_copyFrom_17 rfl (lv_at hl 1 rfl) ?_
  refine fg_2_2 (k := k1) hx hb hts in_X2_copyFrom_2 hown hK hP (by omega) (by omega) (hts _ lk_X2_copyFrom_31) dX2_copyFrom_18 ?_
  refine fp_2_2 (k := k0) hx hb hts in_X2_copyFrom_2 hown hK hP (by omega) (by omega) (hts _ lk_X2_copyFrom_31) hI hR hS dX2_copyFrom_21 (fun σ3 H3 locs3 u3 v3 hR hP hS => ?_)
  have hF := hF.puts u3 0 rfl (by omega) (by omega) (by decide) (by decide)
  refine lv_aload_n hx hb dX2_copyFrom_24 rfl (lv_at hl 1 rfl) ?_
  refine fg_2_3 (k := k1) hx hb hts in_X2_copyFrom_2 hown hK hP (by omega) (by omega) (hts _ lk_X2_copyFrom_9) dX2_copyFrom_25 ?_
  refine r_iconst hx hb dX2_copyFrom_28 (by decide) (fun z4 ez4 => ?_)
  refine lv_aload_n hx hb dX2_copyFrom_29 rfl (lv_at hl 0 rfl) ?_
  refine fg_2_3 (k := k0) hx hb hts in_X2_copyFrom_2 hown hK hP (by omega) (by omega) (hts _ lk_X2_copyFrom_9) dX2_copyFrom_30 ?_
  refine r_iconst hx hb dX2_copyFrom_33 (by decide) (fun z5 ez5 => ?_)
  refine r_bipush hx hb dX2_copyFrom_34 (by decide) (fun z6 ez6 => ?_)
  refine cp_days8 (k := k0 + 301) (q := k1 + 301) hx hb (by rw [hml]; exact hl.1.symm) hown (hts _ lk_X2_copyFrom_43) (hts _ cn_X2_copyFrom) (hts _ cs_X2_copyFrom) (hts _ ci_X2_copyFrom) hK hP hI hR hS (by omega) (by omega) (by omega) (by omega) (by omega) (by omega) (by omega) (by decide) (Nat.le_of_ble_eq_true rfl) dX2_copyFrom_36 (fun σ7 H7 locs7 u7 hR hP hS => ?_)
  have hF := hF.row u7 1 rfl (by omega) (by omega) (by decide) (by decide)
  refine lv_aload_n hx hb dX2_copyFrom_39 rfl (lv_at hl 1 rfl) ?_
  refine fg_2_4 (k := k1) hx hb hts in_X2_copyFrom_2 hown hK hP (by omega) (by omega) (hts _ lk_X2_copyFrom_15) dX2_copyFrom_40 ?_
  refine r_iconst hx hb dX2_copyFrom_43 (by decide) (fun z8 ez8 => ?_)
  refine lv_aload_n hx hb dX2_copyFrom_44 rfl (lv_at hl 0 rfl) ?_
  refine fg_2_4 (k := k0) hx hb hts in_X2_copyFrom_2 hown hK hP (by omega) (by omega) (hts _ lk_X2_copyFrom_15) dX2_copyFrom_45 ?_
  refine r_iconst hx hb dX2_copyFrom_48 (by decide) (fun z9 ez9 => ?_)
  refine r_bipush hx hb dX2_copyFrom_49 (by decide) (fun z10 ez10 => ?_)
  refine cp_days8 (k := k0 + 314) (q := k1 + 314) hx hb (by rw [hml]; exact hl.1.symm) hown (hts _ lk_X2_copyFrom_43) (hts _ cn_X2_copyFrom) (hts _ cs_X2_copyFrom) (hts _ ci_X2_copyFrom) hK hP hI hR hS (by omega) (by omega) (by omega) (by omega) (by omega) (by omega) (by omega) (by decide) (Nat.le_of_ble_eq_true rfl) dX2_copyFrom_51 (fun σ11 H11 locs11 u11 hR hP hS => ?_)
  have hF := hF.row u11 2 rfl (by omega) (by omega) (by decide) (by decide)
  refine lv_aload_n hx hb dX2_copyFrom_54 rfl (lv_at hl 1 rfl) ?_
  refine fg_2_5 (k := k1) hx hb hts in_X2_copyFrom_2 hown hK hP (by omega) (by omega) (hts _ lk_X2_copyFrom_18) dX2_copyFrom_55 ?_
  refine r_iconst hx hb dX2_copyFrom_58 (by decide) (fun z12 ez12 => ?_)
  refine lv_aload_n hx hb dX2_copyFrom_59 rfl (lv_at hl 0 rfl) ?_
  refine fg_2_5 (k := k0) hx hb hts in_X2_copyFrom_2 hown hK hP (by omega) (by omega) (hts _ lk_X2_copyFrom_18) dX2_copyFrom_60 ?_
  refine r_iconst hx hb dX2_copyFrom_63 (by decide) (fun z13 ez13 => ?_)
  refine r_bipush hx hb dX2_copyFrom_64 (by decide) (fun z14 ez14 => ?_)
  refine cp_days8 (k := k0 + 327) (q := k1 + 327) hx hb (by rw [hml]; exact hl.1.symm) hown (hts _ lk_X2_copyFrom_43) (hts _ cn_X2_copyFrom) (hts _ cs_X2_copyFrom) (hts _ ci_X2_copyFrom) hK hP hI hR hS (by omega) (by omega) (by omega) (by omega) (by omega) (by omega) (by omega) (by decide) (Nat.le_of_ble_eq_true rfl) dX2_copyFrom_66 (fun σ15 H15 locs15 u15 hR hP hS => ?_)
  have hF := hF.row u15 3 rfl (by omega) (by omega) (by decide) (by decide)
  refine lv_aload_n hx hb dX2_copyFrom_69 rfl (lv_at hl 1 rfl) ?_
  refine fg_2_6 (k := k1) hx hb hts in_X2_copyFrom_2 hown hK hP (by omega) (by omega) (hts _ lk_X2_copyFrom_21) dX2_copyFrom_70 ?_
  refine r_iconst hx hb dX2_copyFrom_73 (by decide) (fun z16 ez16 => ?_)
  refine lv_aload_n hx hb dX2_copyFrom_74 rfl (lv_at hl 0 rfl) ?_
  refine fg_2_6 (k := k0) hx hb hts in_X2_copyFrom_2 hown hK hP (by omega) (by omega) (hts _ lk_X2_copyFrom_21) dX2_copyFrom_75 ?_
  refine r_iconst hx hb dX2_copyFrom_78 (by decide) (fun z17 ez17 => ?_)
  refine r_bipush hx hb dX2_copyFrom_79 (by decide) (fun z18 ez18 => ?_)
  refine cp_days8 (k := k0 + 340) (q := k1 + 340) hx hb (by rw [hml]; exact hl.1.symm) hown (hts _ lk_X2_copyFrom_43) (hts _ cn_X2_copyFrom) (hts _ cs_X2_copyFrom) (hts _ ci_X2_copyFrom) hK hP hI hR hS (by omega) (by omega) (by omega) (by omega) (by omega) (by omega) (by omega) (by decide) (Nat.le_of_ble_eq_true rfl) dX2_copyFrom_81 (fun σ19 H19 locs19 u19 hR hP hS => ?_)
  have hF := hF.row u19 4 rfl (by omega) (by omega) (by decide) (by decide)
  exact r_vret hx hb hr hK hP hS hk dX2_copyFrom_84 (show P_X2_copyFrom σ0 τ0 k0 k1 σ19 τ0 from ⟨hR, hF, hFL⟩)
theorem in_X3_push_3 : ∀ w ∈ u_ws RX3 TX3 3, w ∈ wsX3_push := by decide +kernel
theorem lk_X3_push_11 : Cond.fieldLink RX3 11 "CuckooShares$History" "kept" "[LCuckooShares$Days;" ∈ wsX3_push := by decide +kernel
theorem lk_X3_push_18 : Cond.fieldLink RX3 18 "CuckooShares$History" "size" "I" ∈ wsX3_push := by decide +kernel
theorem lk_X3_push_22 : Cond.fieldLink RX3 22 "CuckooShares$History" "oldest" "I" ∈ wsX3_push := by decide +kernel
abbrev L_X3_push : List Rc := [(20, 20, 1, 2), (7, 19, 0, 2), (308, 320, 0, 8), (321, 333, 0, 8), (334, 346, 0, 8), (347, 359, 0, 8)]
abbrev LL_X3_push : List Rc := []
def P_X3_push (σ0 : Nat → Nat → Int32) (τ0 : Nat → Nat → Int64) (k1 : Nat) (σ : Nat → Nat → Int32) (τ : Nat → Nat → Int64) : Prop := Rg σ ∧ Fr L_X3_push σ0 σ ∧ FrL LL_X3_push τ0 τ
set_option maxHeartbeats 4000000 in
theorem c_X3_push (l : Launch) (D : va_G) (cA : Nat → ClassId) (ad : Nat → Nat) (hI : Inj ad) (σ0 : Nat → Nat → Int32) (τ0 : Nat → Nat → Int64) (hR : Rg σ0) (k1 : Nat) (hk1 : 7 ≤ k1 ∧ k1 ≤ 8) : Met l yX3_push wsX3_push ({ frames := 2, cells := 0, slots := 0, locals := 81 } : Room) (WQc D cA ad [.ref (ad 20), .ref (ad k1)] σ0 τ0) (va_Qv (fun u : SS => P_X3_push σ0 τ0 k1 u.1 u.2) (WB D cA ad) (AA ad)) 0 0 (AA ad) := by
  refine Met.ofW (cc := cX3_push) (maxL := 2) (ret := none) (by decide) rfl ?_
  intro p e s m args below meth c s₁ B hml hv
  obtain ⟨rfl, hP, hK, hN⟩ := hv
  have C : Cy p s m _ meth c cX3_push 2 wsX3_push RX3 D cA ad none := ⟨B.exec, B.bytes, hml, findClass_of_methodNamed B.named, atoms_spec (ws := wsX3_push) B.pre, hK, B.notSynchronized, B.returns, hI, hN⟩
  have hl := lv_entry ([.ref (ad 20), .ref (ad k1)]) (n := 2) (Nat.le_of_ble_eq_true rfl)
  rw [lg_entry_eq]
  generalize (lg_sl ([.ref (ad 20), .ref (ad k1)]) ++ List.replicate (2 - (lg_sl ([.ref (ad 20), .ref (ad k1)])).length) Slot.unset).toArray = ls at hl ⊢
  have hl : lv_has ls 2 [(0, .ref (ad 20)), (1, .ref (ad k1))] := hl
  have hS : va_S (AA ad) s.heap s.heap [] := va_S.rf
  have hF : Fr L_X3_push σ0 σ0 := Fr.rf
  have hFL : FrL LL_X3_push τ0 τ0 := FrL.rf
  obtain ⟨hx, hb, _, hown, hts, _, hk, hr, _, _⟩ := C
  refine lv_aload_n hx hb dX3_push_0 rfl (lv_at hl 0 rfl) ?_
  refine fg_3_0 (k := 20) hx hb hts in_X3_push_3 hown hK hP (by decide) (by decide) (hts _ lk_X3_push_11) dX3_push_1 ?_
  refine lv_aload_n hx hb dX3_push_4 rfl (lv_at hl 0 rfl) ?_
  refine fg_3_1 (k := 20) hx hb hts in_X3_push_3 hown hK hP (by decide) (by decide) (hts _ lk_X3_push_22) dX3_push_5 ?_
  have hr1 := rg_3_1 hR (k := 20) (by decide) (by decide)
  refine lv_aload_n hx hb dX3_push_8 rfl (lv_at hl 0 rfl) ?_
  refine fg_3_2 (k := 20) hx hb hts in_X3_push_3 hown hK hP (by decide) (by decide) (hts _ lk_X3_push_18) dX3_push_9 ?_
  have hr2 := rg_3_2 hR (k := 20) (by decide) (by decide)
  refine r_iadd hx hb dX3_push_12 (by omega) (fun z3 ez3 => ?_)
  refine r_bipush hx hb dX3_push_13 (by decide) (fun z4 ez4 => ?_)
  refine r_irem hx hb dX3_push_15 (by omega) (fun z5 ez5 => ?_)
  have fz5 := ti_tm (a := z3.toInt) (b := z4.toInt) (by omega)
  obtain ⟨j6, ej6⟩ : ∃ j : Nat, z5.toInt = (j : Int) := ⟨_, ti_nat (by omega)⟩
  refine ad_Kept (k := 32) (j := j6) hx hb hK hP (by decide) (by decide) ej6 (by omega) dX3_push_16 ?_
  refine lv_aload_n hx hb dX3_push_17 rfl (lv_at hl 1 rfl) ?_
  refine r_cVv (k := 10 + j6) (As := [.ref (ad k1)]) (rest := []) ⟨hx, hb, hml, hown, hts⟩ hK hP hN hS (c_X2_copyFrom l D cA ad hI σ0 τ0 hR (10 + j6) k1 ⟨by omega, by omega⟩ ⟨by omega, by omega⟩) (cwV 1 hts gX3_push_X2_copyFrom rfl rfl rfl (by decide +kernel) ⟨by decide, by decide⟩) (rv_Days hK hP (by omega) (by omega)) rfl hl.1 rfl (Nat.le_of_ble_eq_true rfl) dX3_push_18 (Nat.zero_le _) (Nat.zero_le _) (fun u7 H7 locs7 hp7 hP hS => ?_)
  obtain ⟨σ7, τ7⟩ := u7
  obtain ⟨hR, f7, fL7⟩ : P_X2_copyFrom σ0 τ0 (10 + j6) k1 σ7 τ7 := hp7
  have hP : va_P D vwCl (gw cA ad σ7 τ7) H7 := hP
  obtain rfl := FrL.nil fL7
  have hF := hF.step f7 (by decide)
  have t8 : (σ7 20 1).toInt = (σ0 20 1).toInt := congrArg Int32.toInt (f7.at 20 1 (by decide))
  have t9 : (σ7 20 2).toInt = (σ0 20 2).toInt := congrArg Int32.toInt (f7.at 20 2 (by decide))
  refine lv_aload_n hx hb dX3_push_21 rfl (lv_at hl 0 rfl) ?_
  refine fg_3_2 (k := 20) hx hb hts in_X3_push_3 hown hK hP (by decide) (by decide) (hts _ lk_X3_push_18) dX3_push_22 ?_
  refine r_bipush hx hb dX3_push_25 (by decide) (fun z10 ez10 => ?_)
  refine r_icmp_ge (tgt := 43) hx hb dX3_push_27 (by decide) (fun c11 => ?_) (fun c11 => ?_)
  · refine lv_aload_n hx hb dX3_push_43 rfl (lv_at hl 0 rfl) ?_
    refine lv_aload_n hx hb dX3_push_44 rfl (lv_at hl 0 rfl) ?_
    refine fg_3_1 (k := 20) hx hb hts in_X3_push_3 hown hK hP (by decide) (by decide) (hts _ lk_X3_push_22) dX3_push_45 ?_
    refine r_iconst hx hb dX3_push_48 (by decide) (fun z12 ez12 => ?_)
    refine r_iadd hx hb dX3_push_49 (by omega) (fun z13 ez13 => ?_)
    refine r_bipush hx hb dX3_push_50 (by decide) (fun z14 ez14 => ?_)
    refine r_irem hx hb dX3_push_52 (by omega) (fun z15 ez15 => ?_)
    have fz15 := ti_tm (a := z13.toInt) (b := z14.toInt) (by omega)
    refine fp_3_1 (k := 20) hx hb hts in_X3_push_3 hown hK hP (by decide) (by decide) (hts _ lk_X3_push_22) hI hR hS (by omega) dX3_push_53 (fun σ16 H16 locs16 u16 v16 hR hP hS => ?_)
    have hF := hF.puts u16 0 rfl (by decide) (by decide) (by decide) (by decide)
    have t17 : (σ16 20 2).toInt = (σ7 20 2).toInt := congrArg Int32.toInt (u16 20 2 (by omega))
    exact r_vret hx hb hr hK hP hS hk dX3_push_56 (show P_X3_push σ0 τ0 k1 σ16 τ0 from ⟨hR, hF, hFL⟩)
  · refine lv_aload_n hx hb dX3_push_30 rfl (lv_at hl 0 rfl) ?_
    refine lv_dup hx hb dX3_push_31 rfl ?_
    refine fg_3_2 (k := 20) hx hb hts in_X3_push_3 hown hK hP (by decide) (by decide) (hts _ lk_X3_push_18) dX3_push_32 ?_
    refine r_iconst hx hb dX3_push_35 (by decide) (fun z18 ez18 => ?_)
    refine r_iadd hx hb dX3_push_36 (by omega) (fun z19 ez19 => ?_)
    refine fp_3_2 (k := 20) hx hb hts in_X3_push_3 hown hK hP (by decide) (by decide) (hts _ lk_X3_push_18) hI hR hS (by omega) dX3_push_37 (fun σ20 H20 locs20 u20 v20 hR hP hS => ?_)
    have hF := hF.puts u20 0 rfl (by decide) (by decide) (by decide) (by decide)
    have t21 : (σ20 20 1).toInt = (σ7 20 1).toInt := congrArg Int32.toInt (u20 20 1 (by omega))
    refine lv_goto (tgt := 56) hx hb dX3_push_40 (by decide) ?_
    exact r_vret hx hb hr hK hP hS hk dX3_push_56 (show P_X3_push σ0 τ0 k1 σ20 τ0 from ⟨hR, hF, hFL⟩)
theorem in_X0_passHours_2 : ∀ w ∈ u_ws RX2 TX2 7, w ∈ wsX0_passHours := by decide +kernel
theorem lk_X0_passHours_41 : Cond.methodLink RX0 41 Lib.Math.min.name ∈ wsX0_passHours := by decide +kernel
theorem mi_X0_passHours : Cond.initialized "java/lang/Math" ∈ wsX0_passHours := by decide +kernel
theorem ms_X0_passHours_min : Cond.static Lib.Math.min.name ∈ wsX0_passHours := by decide +kernel
theorem mc_X0_passHours_min : Cond.code Lib.Math.min.name Lib.Math.min.code 2 (some .int) ∈ wsX0_passHours := by decide +kernel
abbrev L_X0_passHours : List Rc := [(7, 9, 2, 2)]
abbrev LL_X0_passHours : List Rc := []
def P_X0_passHours (σ0 : Nat → Nat → Int32) (τ0 : Nat → Nat → Int64) (k1 : Nat) (a2 : Int32) (σ : Nat → Nat → Int32) (τ : Nat → Nat → Int64) : Prop := Rg σ ∧ Fr L_X0_passHours σ0 σ ∧ FrL LL_X0_passHours τ0 τ
set_option maxHeartbeats 4000000 in
theorem c_X0_passHours (l : Launch) (D : va_G) (cA : Nat → ClassId) (ad : Nat → Nat) (hI : Inj ad) (σ0 : Nat → Nat → Int32) (τ0 : Nat → Nat → Int64) (hR : Rg σ0) (k1 : Nat) (a2 : Int32) (hk1 : 7 ≤ k1 ∧ k1 ≤ 9) : Met l yX0_passHours wsX0_passHours ({ frames := 1, cells := 0, slots := 0, locals := 21 } : Room) (WQc D cA ad [.ref (ad 22), .ref (ad k1), .int a2] σ0 τ0) (va_Qv (fun u : SS => P_X0_passHours σ0 τ0 k1 a2 u.1 u.2) (WB D cA ad) (AA ad)) 0 0 (AA ad) := by
  refine Met.ofW (cc := cX0_passHours) (maxL := 3) (ret := none) (by decide) rfl ?_
  intro p e s m args below meth c s₁ B hml hv
  obtain ⟨rfl, hP, hK, hN⟩ := hv
  have C : Cy p s m _ meth c cX0_passHours 3 wsX0_passHours RX0 D cA ad none := ⟨B.exec, B.bytes, hml, findClass_of_methodNamed B.named, atoms_spec (ws := wsX0_passHours) B.pre, hK, B.notSynchronized, B.returns, hI, hN⟩
  have hl := lv_entry ([.ref (ad 22), .ref (ad k1), .int a2]) (n := 3) (Nat.le_of_ble_eq_true rfl)
  rw [lg_entry_eq]
  generalize (lg_sl ([.ref (ad 22), .ref (ad k1), .int a2]) ++ List.replicate (3 - (lg_sl ([.ref (ad 22), .ref (ad k1), .int a2])).length) Slot.unset).toArray = ls at hl ⊢
  have hl : lv_has ls 3 [(0, .ref (ad 22)), (1, .ref (ad k1)), (2, .int a2)] := hl
  have hS : va_S (AA ad) s.heap s.heap [] := va_S.rf
  have hF : Fr L_X0_passHours σ0 σ0 := Fr.rf
  have hFL : FrL LL_X0_passHours τ0 τ0 := FrL.rf
  obtain ⟨hx, hb, _, hown, hts, _, hk, hr, _, _⟩ := C
  refine lv_aload_n hx hb dX0_passHours_0 rfl (lv_at hl 1 rfl) ?_
  refine lv_aload_n hx hb dX0_passHours_1 rfl (lv_at hl 1 rfl) ?_
  refine fgN_2_2 (k := k1) hx hb hts in_X0_passHours_2 hown hK hP (by omega) (by omega) (hN.use nw_0_38) dX0_passHours_2 ?_
  refine lv_iload_n hx hb dX0_passHours_5 rfl (lv_at hl 2 rfl) ?_
  refine r_iaddU hx hb dX0_passHours_6 (fun z1 => ?_)
  refine r_bipush hx hb dX0_passHours_7 (by decide) (fun z2 ez2 => ?_)
  refine r_mmin hx hb (by rw [hml]; exact hl.1.symm) hown (hts _ lk_X0_passHours_41) (hts _ ms_X0_passHours_min) (hts _ mi_X0_passHours) (hts _ mc_X0_passHours_min) (by decide) (Nat.le_of_ble_eq_true rfl) (Nat.zero_le _) (Nat.zero_le _) dX0_passHours_9 (fun z4 ez4 => ?_)
  refine fpN_2_2 (k := k1) hx hb hts in_X0_passHours_2 hown hK hP (by omega) (by omega) (hN.use nw_0_38) hI hR hS dX0_passHours_12 (fun σ5 H5 locs5 u5 v5 hR hP hS => ?_)
  have hF := hF.puts u5 0 rfl (by omega) (by omega) (by decide) (by decide)
  exact r_vret hx hb hr hK hP hS hk dX0_passHours_15 (show P_X0_passHours σ0 τ0 k1 a2 σ5 τ0 from ⟨hR, hF, hFL⟩)
theorem in_X0_walk_2 : ∀ w ∈ u_ws RX2 TX2 7, w ∈ wsX0_walk := by decide +kernel
abbrev L_X0_walk : List Rc := [(308, 310, 0, 7)]
abbrev LL_X0_walk : List Rc := []
def P_X0_walk (σ0 : Nat → Nat → Int32) (τ0 : Nat → Nat → Int64) (k1 : Nat) (a2 : Int32) (a3 : Int32) (r : Int32) (σ : Nat → Nat → Int32) (τ : Nat → Nat → Int64) : Prop := Rg σ ∧ Fr L_X0_walk σ0 σ ∧ FrL LL_X0_walk τ0 τ ∧ (0 ≤ r.toInt ∧ r.toInt ≤ 2)
set_option maxHeartbeats 4000000 in
theorem c_X0_walk (l : Launch) (D : va_G) (cA : Nat → ClassId) (ad : Nat → Nat) (hI : Inj ad) (σ0 : Nat → Nat → Int32) (τ0 : Nat → Nat → Int64) (hR : Rg σ0) (k1 : Nat) (a2 : Int32) (a3 : Int32) (hk1 : 7 ≤ k1 ∧ k1 ≤ 9) (ha2 : 0 ≤ a2.toInt ∧ a2.toInt ≤ 7) : Met l yX0_walk wsX0_walk ({ frames := 2, cells := 0, slots := 0, locals := 45 } : Room) (WQc D cA ad [.ref (ad 22), .ref (ad k1), .int a2, .int a3] σ0 τ0) (va_Qi (fun (r : Int32) (u : SS) => P_X0_walk σ0 τ0 k1 a2 a3 r u.1 u.2) (WB D cA ad) (AA ad)) 0 0 (AA ad) := by
  refine Met.ofW (cc := cX0_walk) (maxL := 4) (ret := (some .int)) (by decide) rfl ?_
  intro p e s m args below meth c s₁ B hml hv
  obtain ⟨rfl, hP, hK, hN⟩ := hv
  have C : Cy p s m _ meth c cX0_walk 4 wsX0_walk RX0 D cA ad (some .int) := ⟨B.exec, B.bytes, hml, findClass_of_methodNamed B.named, atoms_spec (ws := wsX0_walk) B.pre, hK, B.notSynchronized, B.returns, hI, hN⟩
  have hl := lv_entry ([.ref (ad 22), .ref (ad k1), .int a2, .int a3]) (n := 4) (Nat.le_of_ble_eq_true rfl)
  rw [lg_entry_eq]
  generalize (lg_sl ([.ref (ad 22), .ref (ad k1), .int a2, .int a3]) ++ List.replicate (4 - (lg_sl ([.ref (ad 22), .ref (ad k1), .int a2, .int a3])).length) Slot.unset).toArray = ls at hl ⊢
  have hl : lv_has ls 4 [(0, .ref (ad 22)), (1, .ref (ad k1)), (2, .int a2), (3, .int a3)] := hl
  have hS : va_S (AA ad) s.heap s.heap [] := va_S.rf
  have hF : Fr L_X0_walk σ0 σ0 := Fr.rf
  have hFL : FrL LL_X0_walk τ0 τ0 := FrL.rf
  obtain ⟨hx, hb, _, hown, hts, _, hk, hr, _, _⟩ := C
  refine lv_aload_n hx hb dX0_walk_0 rfl (lv_at hl 1 rfl) ?_
  refine fgN_2_3 (k := k1) hx hb hts in_X0_walk_2 hown hK hP (by omega) (by omega) (hN.use nw_0_47) dX0_walk_1 ?_
  refine lv_iload_n hx hb dX0_walk_4 rfl (lv_at hl 2 rfl) ?_
  obtain ⟨j1, ej1⟩ : ∃ j : Nat, a2.toInt = (j : Int) := ⟨_, ti_nat (by omega)⟩
  refine ad_days8 (k := k1 + 301) (j := j1) hx hb hK hP (by omega) (by omega) ej1 (by omega) dX0_walk_5 ?_
  refine lv_iload_n hx hb dX0_walk_6 rfl (lv_at hl 3 rfl) ?_
  refine r_icmp_ne (tgt := 12) hx hb dX0_walk_7 (by decide) (fun c2 => ?_) (fun c2 => ?_)
  · refine lv_aload_n hx hb dX0_walk_12 rfl (lv_at hl 0 rfl) ?_
    refine lv_aload_n hx hb dX0_walk_13 rfl (lv_at hl 1 rfl) ?_
    refine r_cVi (k := 22) (As := [.ref (ad k1)]) (rest := []) ⟨hx, hb, hml, hown, hts⟩ hK hP hN hS (c_X0_past l D cA ad hI σ0 τ0 hR k1 ⟨by omega, by omega⟩) (cwV 1 hts gX0_walk_X0_past rfl rfl rfl (by decide +kernel) ⟨by decide, by decide⟩) (rv_Acts hK hP (by decide) (by decide)) rfl hl.1 rfl (Nat.le_of_ble_eq_true rfl) dX0_walk_14 (Nat.zero_le _) (Nat.zero_le _) (fun r3 u3 H3 locs3 hp3 hP hS => ?_)
    obtain ⟨σ3, τ3⟩ := u3
    obtain ⟨hR, f3, fL3, hq3, hp3_0⟩ : P_X0_past σ0 τ0 k1 r3 σ3 τ3 := hp3
    have hP : va_P D vwCl (gw cA ad σ3 τ3) H3 := hP
    obtain rfl := FrL.nil fL3
    obtain rfl := Fr.nil f3
    refine r_if_le (tgt := 22) hx hb dX0_walk_17 (by decide) (fun c4 => ?_) (fun c4 => ?_)
    · refine lv_aload_n hx hb dX0_walk_22 rfl (lv_at hl 1 rfl) ?_
      refine fgN_2_3 (k := k1) hx hb hts in_X0_walk_2 hown hK hP (by omega) (by omega) (hN.use nw_0_47) dX0_walk_23 ?_
      refine lv_iload_n hx hb dX0_walk_26 rfl (lv_at hl 2 rfl) ?_
      refine lv_iload_n hx hb dX0_walk_27 rfl (lv_at hl 3 rfl) ?_
      refine as_days8 (k := k1 + 301) (j := j1) hx hb hK hP hI hR hS (by omega) (by omega) ej1 (by omega) dX0_walk_28 (fun σ5 H5 locs5 u5 v5 hR hP hS => ?_)
      have hF := hF.puts u5 0 rfl (by omega) (by omega) (by omega) (by omega)
      refine r_iconst hx hb dX0_walk_29 (by decide) (fun z6 ez6 => ?_)
      exact r_iret hx hb hr hK hP hS hk dX0_walk_30 (show P_X0_walk σ0 τ0 k1 a2 a3 z6 σ5 τ0 from ⟨hR, hF, hFL, by omega⟩)
    · refine r_iconst hx hb dX0_walk_20 (by decide) (fun z7 ez7 => ?_)
      exact r_iret hx hb hr hK hP hS hk dX0_walk_21 (show P_X0_walk σ0 τ0 k1 a2 a3 z7 σ0 τ0 from ⟨hR, hF, hFL, by omega⟩)
  · refine r_iconst hx hb dX0_walk_10 (by decide) (fun z8 ez8 => ?_)
    exact r_iret hx hb hr hK hP hS hk dX0_walk_11 (show P_X0_walk σ0 τ0 k1 a2 a3 z8 σ0 τ0 from ⟨hR, hF, hFL, by omega⟩)
theorem in_X0_takeOath_2 : ∀ w ∈ u_ws RX2 TX2 7, w ∈ wsX0_takeOath := by decide +kernel
abbrev L_X0_takeOath : List Rc := [(334, 336, 0, 7), (321, 323, 0, 7)]
abbrev LL_X0_takeOath : List Rc := []
def P_X0_takeOath (σ0 : Nat → Nat → Int32) (τ0 : Nat → Nat → Int64) (k1 : Nat) (a2 : Int32) (a3 : Int32) (r : Int32) (σ : Nat → Nat → Int32) (τ : Nat → Nat → Int64) : Prop := Rg σ ∧ Fr L_X0_takeOath σ0 σ ∧ FrL LL_X0_takeOath τ0 τ ∧ (0 ≤ r.toInt ∧ r.toInt ≤ 3)
set_option maxHeartbeats 4000000 in
theorem c_X0_takeOath (l : Launch) (D : va_G) (cA : Nat → ClassId) (ad : Nat → Nat) (hI : Inj ad) (σ0 : Nat → Nat → Int32) (τ0 : Nat → Nat → Int64) (hR : Rg σ0) (k1 : Nat) (a2 : Int32) (a3 : Int32) (hk1 : 7 ≤ k1 ∧ k1 ≤ 9) (ha2 : 0 ≤ a2.toInt ∧ a2.toInt ≤ 7) : Met l yX0_takeOath wsX0_takeOath ({ frames := 2, cells := 0, slots := 0, locals := 45 } : Room) (WQc D cA ad [.ref (ad 22), .ref (ad k1), .int a2, .int a3] σ0 τ0) (va_Qi (fun (r : Int32) (u : SS) => P_X0_takeOath σ0 τ0 k1 a2 a3 r u.1 u.2) (WB D cA ad) (AA ad)) 0 0 (AA ad) := by
  refine Met.ofW (cc := cX0_takeOath) (maxL := 4) (ret := (some .int)) (by decide) rfl ?_
  intro p e s m args below meth c s₁ B hml hv
  obtain ⟨rfl, hP, hK, hN⟩ := hv
  have C : Cy p s m _ meth c cX0_takeOath 4 wsX0_takeOath RX0 D cA ad (some .int) := ⟨B.exec, B.bytes, hml, findClass_of_methodNamed B.named, atoms_spec (ws := wsX0_takeOath) B.pre, hK, B.notSynchronized, B.returns, hI, hN⟩
  have hl := lv_entry ([.ref (ad 22), .ref (ad k1), .int a2, .int a3]) (n := 4) (Nat.le_of_ble_eq_true rfl)
  rw [lg_entry_eq]
  generalize (lg_sl ([.ref (ad 22), .ref (ad k1), .int a2, .int a3]) ++ List.replicate (4 - (lg_sl ([.ref (ad 22), .ref (ad k1), .int a2, .int a3])).length) Slot.unset).toArray = ls at hl ⊢
  have hl : lv_has ls 4 [(0, .ref (ad 22)), (1, .ref (ad k1)), (2, .int a2), (3, .int a3)] := hl
  have hS : va_S (AA ad) s.heap s.heap [] := va_S.rf
  have hF : Fr L_X0_takeOath σ0 σ0 := Fr.rf
  have hFL : FrL LL_X0_takeOath τ0 τ0 := FrL.rf
  obtain ⟨hx, hb, _, hown, hts, _, hk, hr, _, _⟩ := C
  refine lv_aload_n hx hb dX0_takeOath_0 rfl (lv_at hl 1 rfl) ?_
  refine fgN_2_5 (k := k1) hx hb hts in_X0_takeOath_2 hown hK hP (by omega) (by omega) (hN.use nw_0_55) dX0_takeOath_1 ?_
  refine lv_iload_n hx hb dX0_takeOath_4 rfl (lv_at hl 2 rfl) ?_
  obtain ⟨j1, ej1⟩ : ∃ j : Nat, a2.toInt = (j : Int) := ⟨_, ti_nat (by omega)⟩
  refine ad_days8 (k := k1 + 327) (j := j1) hx hb hK hP (by omega) (by omega) ej1 (by omega) dX0_takeOath_5 ?_
  refine r_iconst hx hb dX0_takeOath_6 (by decide) (fun z2 ez2 => ?_)
  refine r_icmp_eq (tgt := 12) hx hb dX0_takeOath_7 (by decide) (fun c3 => ?_) (fun c3 => ?_)
  · refine lv_iload_n hx hb dX0_takeOath_12 rfl (lv_at hl 3 rfl) ?_
    refine lv_aload_n hx hb dX0_takeOath_13 rfl (lv_at hl 0 rfl) ?_
    refine lv_aload_n hx hb dX0_takeOath_14 rfl (lv_at hl 1 rfl) ?_
    refine r_cVi (k := 22) (As := [.ref (ad k1)]) (rest := [.int a3]) ⟨hx, hb, hml, hown, hts⟩ hK hP hN hS (c_X0_past l D cA ad hI σ0 τ0 hR k1 ⟨by omega, by omega⟩) (cwV 1 hts gX0_takeOath_X0_past rfl rfl rfl (by decide +kernel) ⟨by decide, by decide⟩) (rv_Acts hK hP (by decide) (by decide)) rfl hl.1 rfl (Nat.le_of_ble_eq_true rfl) dX0_takeOath_15 (Nat.zero_le _) (Nat.zero_le _) (fun r4 u4 H4 locs4 hp4 hP hS => ?_)
    obtain ⟨σ4, τ4⟩ := u4
    obtain ⟨hR, f4, fL4, hq4, hp4_0⟩ : P_X0_past σ0 τ0 k1 r4 σ4 τ4 := hp4
    have hP : va_P D vwCl (gw cA ad σ4 τ4) H4 := hP
    obtain rfl := FrL.nil fL4
    obtain rfl := Fr.nil f4
    refine r_icmp_lt (tgt := 23) hx hb dX0_takeOath_18 (by decide) (fun c5 => ?_) (fun c5 => ?_)
    · refine lv_aload_n hx hb dX0_takeOath_23 rfl (lv_at hl 1 rfl) ?_
      refine fgN_2_4 (k := k1) hx hb hts in_X0_takeOath_2 hown hK hP (by omega) (by omega) (hN.use nw_0_58) dX0_takeOath_24 ?_
      refine lv_iload_n hx hb dX0_takeOath_27 rfl (lv_at hl 2 rfl) ?_
      refine ad_days8 (k := k1 + 314) (j := j1) hx hb hK hP (by omega) (by omega) ej1 (by omega) dX0_takeOath_28 ?_
      refine r_if_ne (tgt := 34) hx hb dX0_takeOath_29 (by decide) (fun c6 => ?_) (fun c6 => ?_)
      · refine lv_aload_n hx hb dX0_takeOath_34 rfl (lv_at hl 1 rfl) ?_
        refine fgN_2_5 (k := k1) hx hb hts in_X0_takeOath_2 hown hK hP (by omega) (by omega) (hN.use nw_0_55) dX0_takeOath_35 ?_
        refine lv_iload_n hx hb dX0_takeOath_38 rfl (lv_at hl 2 rfl) ?_
        refine lv_iload_n hx hb dX0_takeOath_39 rfl (lv_at hl 3 rfl) ?_
        refine as_days8 (k := k1 + 327) (j := j1) hx hb hK hP hI hR hS (by omega) (by omega) ej1 (by omega) dX0_takeOath_40 (fun σ7 H7 locs7 u7 v7 hR hP hS => ?_)
        have hF := hF.puts u7 0 rfl (by omega) (by omega) (by omega) (by omega)
        refine lv_aload_n hx hb dX0_takeOath_41 rfl (lv_at hl 1 rfl) ?_
        refine fgN_2_4 (k := k1) hx hb hts in_X0_takeOath_2 hown hK hP (by omega) (by omega) (hN.use nw_0_58) dX0_takeOath_42 ?_
        refine lv_iload_n hx hb dX0_takeOath_45 rfl (lv_at hl 2 rfl) ?_
        refine lv_dup2_11 hx hb dX0_takeOath_46 rfl rfl ?_
        refine ad_days8 (k := k1 + 314) (j := j1) hx hb hK hP (by omega) (by omega) ej1 (by omega) dX0_takeOath_47 ?_
        refine r_iconst hx hb dX0_takeOath_48 (by decide) (fun z8 ez8 => ?_)
        refine r_isubU hx hb dX0_takeOath_49 (fun z9 => ?_)
        refine as_days8 (k := k1 + 314) (j := j1) hx hb hK hP hI hR hS (by omega) (by omega) ej1 (by omega) dX0_takeOath_50 (fun σ10 H10 locs10 u10 v10 hR hP hS => ?_)
        have hF := hF.puts u10 1 rfl (by omega) (by omega) (by omega) (by omega)
        refine r_iconst hx hb dX0_takeOath_51 (by decide) (fun z11 ez11 => ?_)
        exact r_iret hx hb hr hK hP hS hk dX0_takeOath_52 (show P_X0_takeOath σ0 τ0 k1 a2 a3 z11 σ10 τ0 from ⟨hR, hF, hFL, by omega⟩)
      · refine r_iconst hx hb dX0_takeOath_32 (by decide) (fun z12 ez12 => ?_)
        exact r_iret hx hb hr hK hP hS hk dX0_takeOath_33 (show P_X0_takeOath σ0 τ0 k1 a2 a3 z12 σ0 τ0 from ⟨hR, hF, hFL, by omega⟩)
    · refine r_iconst hx hb dX0_takeOath_21 (by decide) (fun z13 ez13 => ?_)
      exact r_iret hx hb hr hK hP hS hk dX0_takeOath_22 (show P_X0_takeOath σ0 τ0 k1 a2 a3 z13 σ0 τ0 from ⟨hR, hF, hFL, by omega⟩)
  · refine r_iconst hx hb dX0_takeOath_10 (by decide) (fun z14 ez14 => ?_)
    exact r_iret hx hb hr hK hP hS hk dX0_takeOath_11 (show P_X0_takeOath σ0 τ0 k1 a2 a3 z14 σ0 τ0 from ⟨hR, hF, hFL, by omega⟩)
theorem in_X1_distance_1 : ∀ w ∈ u_ws RX1 TX1 9, w ∈ wsX1_distance := by decide +kernel
theorem lk_X1_distance_15 : Cond.fieldLink RX1 15 "CuckooShares$Camp" "y" "[I" ∈ wsX1_distance := by decide +kernel
theorem lk_X1_distance_36 : Cond.fieldLink RX1 36 "CuckooShares$Camp" "valley" "LCuckooShares$Valley;" ∈ wsX1_distance := by decide +kernel
theorem lk_X1_distance_70 : Cond.methodLink RX1 70 Lib.Math.abs.name ∈ wsX1_distance := by decide +kernel
theorem lk_X1_distance_9 : Cond.fieldLink RX1 9 "CuckooShares$Camp" "x" "[I" ∈ wsX1_distance := by decide +kernel
theorem mi_X1_distance : Cond.initialized "java/lang/Math" ∈ wsX1_distance := by decide +kernel
theorem ms_X1_distance_abs : Cond.static Lib.Math.abs.name ∈ wsX1_distance := by decide +kernel
theorem mc_X1_distance_abs : Cond.code Lib.Math.abs.name Lib.Math.abs.code 1 (some .int) ∈ wsX1_distance := by decide +kernel
abbrev L_X1_distance : List Rc := []
abbrev LL_X1_distance : List Rc := []
def P_X1_distance (σ0 : Nat → Nat → Int32) (τ0 : Nat → Nat → Int64) (a1 : Int32) (a2 : Int32) (a3 : Int32) (r : Int32) (σ : Nat → Nat → Int32) (τ : Nat → Nat → Int64) : Prop := Rg σ ∧ Fr L_X1_distance σ0 σ ∧ FrL LL_X1_distance τ0 τ
set_option maxHeartbeats 4000000 in
theorem c_X1_distance (l : Launch) (D : va_G) (cA : Nat → ClassId) (ad : Nat → Nat) (hI : Inj ad) (σ0 : Nat → Nat → Int32) (τ0 : Nat → Nat → Int64) (hR : Rg σ0) (a1 : Int32) (a2 : Int32) (a3 : Int32) (ha1 : 0 ≤ a1.toInt ∧ a1.toInt ≤ 7) (ha2 : 0 ≤ a2.toInt ∧ a2.toInt ≤ 3) (ha3 : 0 ≤ a3.toInt ∧ a3.toInt ≤ 9) : Met l yX1_distance wsX1_distance ({ frames := 1, cells := 0, slots := 0, locals := 22 } : Room) (WQc D cA ad [.ref (ad 21), .int a1, .int a2, .int a3] σ0 τ0) (va_Qi (fun (r : Int32) (u : SS) => P_X1_distance σ0 τ0 a1 a2 a3 r u.1 u.2) (WB D cA ad) (AA ad)) 0 0 (AA ad) := by
  refine Met.ofW (cc := cX1_distance) (maxL := 5) (ret := (some .int)) (by decide) rfl ?_
  intro p e s m args below meth c s₁ B hml hv
  obtain ⟨rfl, hP, hK, hN⟩ := hv
  have C : Cy p s m _ meth c cX1_distance 5 wsX1_distance RX1 D cA ad (some .int) := ⟨B.exec, B.bytes, hml, findClass_of_methodNamed B.named, atoms_spec (ws := wsX1_distance) B.pre, hK, B.notSynchronized, B.returns, hI, hN⟩
  have hl := lv_entry ([.ref (ad 21), .int a1, .int a2, .int a3]) (n := 5) (Nat.le_of_ble_eq_true rfl)
  rw [lg_entry_eq]
  generalize (lg_sl ([.ref (ad 21), .int a1, .int a2, .int a3]) ++ List.replicate (5 - (lg_sl ([.ref (ad 21), .int a1, .int a2, .int a3])).length) Slot.unset).toArray = ls at hl ⊢
  have hl : lv_has ls 5 [(0, .ref (ad 21)), (1, .int a1), (2, .int a2), (3, .int a3)] := hl
  have hS : va_S (AA ad) s.heap s.heap [] := va_S.rf
  have hF : Fr L_X1_distance σ0 σ0 := Fr.rf
  have hFL : FrL LL_X1_distance τ0 τ0 := FrL.rf
  obtain ⟨hx, hb, _, hown, hts, _, hk, hr, _, _⟩ := C
  refine lv_aload_n hx hb dX1_distance_0 rfl (lv_at hl 0 rfl) ?_
  refine fg_1_0 (k := 21) hx hb hts in_X1_distance_1 hown hK hP (by decide) (by decide) (hts _ lk_X1_distance_36) dX1_distance_1 ?_
  refine lv_iload_n hx hb dX1_distance_4 rfl (lv_at hl 2 rfl) ?_
  refine lv_iload_n hx hb dX1_distance_5 rfl (lv_at hl 3 rfl) ?_
  refine r_cVr (k := 2) (As := [.int a2, .int a3]) (rest := []) ⟨hx, hb, hml, hown, hts⟩ hK hP hN hS (c_X9_callRow l D cA ad hI σ0 τ0 hR a2 a3 (by omega) (by omega)) (cwV 2 hts gX1_distance_X9_callRow rfl rfl rfl (by decide +kernel) ⟨by decide, by decide⟩) (rv_Valley hK hP (by decide) (by decide)) rfl hl.1 rfl (Nat.le_of_ble_eq_true rfl) dX1_distance_6 (Nat.zero_le _) (Nat.zero_le _) (fun r1 u1 H1 locs1 hp1 hP hS => ?_)
  obtain ⟨σ1, τ1⟩ := u1
  obtain ⟨hR, f1, fL1, hq1⟩ : P_X9_callRow ad σ0 τ0 a2 a3 r1 σ1 τ1 := hp1
  have hP : va_P D vwCl (gw cA ad σ1 τ1) H1 := hP
  obtain rfl := FrL.nil fL1
  obtain rfl := Fr.nil f1
  obtain ⟨q1, rfl, hq1a, hq1b⟩ := hq1
  refine lv_astore (lv' := [(4, .ref (ad q1)), (0, .ref (ad 21)), (1, .int a1), (2, .int a2), (3, .int a3)]) hx hb dX1_distance_9 hl (by decide) rfl (fun ls hl => ?_)
  refine lv_aload_n hx hb dX1_distance_11 rfl (lv_at hl 1 rfl) ?_
  refine fg_1_1 (k := 21) hx hb hts in_X1_distance_1 hown hK hP (by decide) (by decide) (hts _ lk_X1_distance_9) dX1_distance_12 ?_
  refine lv_iload_n hx hb dX1_distance_15 rfl (lv_at hl 2 rfl) ?_
  obtain ⟨j2, ej2⟩ : ∃ j : Nat, a1.toInt = (j : Int) := ⟨_, ti_nat (by omega)⟩
  refine ad_xyf (k := 360) (j := j2) hx hb hK hP (by decide) (by decide) ej2 (by omega) dX1_distance_16 ?_
  refine lv_aload hx hb dX1_distance_17 (lv_at hl 0 rfl) ?_
  refine r_iconst hx hb dX1_distance_19 (by decide) (fun z3 ez3 => ?_)
  refine ad_callR (k := q1) (j := 1) hx hb hK hP (by omega) (by omega) (by omega) (by omega) dX1_distance_20 ?_
  refine r_isubU hx hb dX1_distance_21 (fun z4 => ?_)
  refine r_mabs hx hb (by rw [hml]; exact hl.1.symm) hown (hts _ lk_X1_distance_70) (hts _ ms_X1_distance_abs) (hts _ mi_X1_distance) (hts _ mc_X1_distance_abs) (by decide) (Nat.le_of_ble_eq_true rfl) (Nat.zero_le _) (Nat.zero_le _) dX1_distance_22 (fun z6 => ?_)
  refine lv_aload_n hx hb dX1_distance_25 rfl (lv_at hl 1 rfl) ?_
  refine fg_1_2 (k := 21) hx hb hts in_X1_distance_1 hown hK hP (by decide) (by decide) (hts _ lk_X1_distance_15) dX1_distance_26 ?_
  refine lv_iload_n hx hb dX1_distance_29 rfl (lv_at hl 2 rfl) ?_
  refine ad_xyf (k := 361) (j := j2) hx hb hK hP (by decide) (by decide) ej2 (by omega) dX1_distance_30 ?_
  refine lv_aload hx hb dX1_distance_31 (lv_at hl 0 rfl) ?_
  refine r_iconst hx hb dX1_distance_33 (by decide) (fun z7 ez7 => ?_)
  refine ad_callR (k := q1) (j := 2) hx hb hK hP (by omega) (by omega) (by omega) (by omega) dX1_distance_34 ?_
  refine r_isubU hx hb dX1_distance_35 (fun z8 => ?_)
  refine r_mabs hx hb (by rw [hml]; exact hl.1.symm) hown (hts _ lk_X1_distance_70) (hts _ ms_X1_distance_abs) (hts _ mi_X1_distance) (hts _ mc_X1_distance_abs) (by decide) (Nat.le_of_ble_eq_true rfl) (Nat.zero_le _) (Nat.zero_le _) dX1_distance_36 (fun z10 => ?_)
  refine r_iaddU hx hb dX1_distance_39 (fun z11 => ?_)
  exact r_iret hx hb hr hK hP hS hk dX1_distance_40 (show P_X1_distance σ0 τ0 a1 a2 a3 z11 σ0 τ0 from ⟨hR, hF, hFL⟩)
theorem in_X1_put_1 : ∀ w ∈ u_ws RX1 TX1 9, w ∈ wsX1_put := by decide +kernel
theorem lk_X1_put_15 : Cond.fieldLink RX1 15 "CuckooShares$Camp" "y" "[I" ∈ wsX1_put := by decide +kernel
theorem lk_X1_put_18 : Cond.fieldLink RX1 18 "CuckooShares$Camp" "fall" "[I" ∈ wsX1_put := by decide +kernel
theorem lk_X1_put_9 : Cond.fieldLink RX1 9 "CuckooShares$Camp" "x" "[I" ∈ wsX1_put := by decide +kernel
abbrev L_X1_put : List Rc := [(360, 360, 0, 7), (361, 361, 0, 7), (362, 362, 0, 7)]
abbrev LL_X1_put : List Rc := []
def P_X1_put (σ0 : Nat → Nat → Int32) (τ0 : Nat → Nat → Int64) (a1 : Int32) (a2 : Int32) (a3 : Int32) (a4 : Int32) (σ : Nat → Nat → Int32) (τ : Nat → Nat → Int64) : Prop := Rg σ ∧ Fr L_X1_put σ0 σ ∧ FrL LL_X1_put τ0 τ
set_option maxHeartbeats 4000000 in
theorem c_X1_put (l : Launch) (D : va_G) (cA : Nat → ClassId) (ad : Nat → Nat) (hI : Inj ad) (σ0 : Nat → Nat → Int32) (τ0 : Nat → Nat → Int64) (hR : Rg σ0) (a1 : Int32) (a2 : Int32) (a3 : Int32) (a4 : Int32) (ha1 : 0 ≤ a1.toInt ∧ a1.toInt ≤ 7) : Met l yX1_put wsX1_put ({ frames := 0, cells := 0, slots := 0, locals := 0 } : Room) (WQc D cA ad [.ref (ad 21), .int a1, .int a2, .int a3, .int a4] σ0 τ0) (va_Qv (fun u : SS => P_X1_put σ0 τ0 a1 a2 a3 a4 u.1 u.2) (WB D cA ad) (AA ad)) 0 0 (AA ad) := by
  refine Met.ofW (cc := cX1_put) (maxL := 5) (ret := none) (by decide) rfl ?_
  intro p e s m args below meth c s₁ B hml hv
  obtain ⟨rfl, hP, hK, hN⟩ := hv
  have C : Cy p s m _ meth c cX1_put 5 wsX1_put RX1 D cA ad none := ⟨B.exec, B.bytes, hml, findClass_of_methodNamed B.named, atoms_spec (ws := wsX1_put) B.pre, hK, B.notSynchronized, B.returns, hI, hN⟩
  have hl := lv_entry ([.ref (ad 21), .int a1, .int a2, .int a3, .int a4]) (n := 5) (Nat.le_of_ble_eq_true rfl)
  rw [lg_entry_eq]
  generalize (lg_sl ([.ref (ad 21), .int a1, .int a2, .int a3, .int a4]) ++ List.replicate (5 - (lg_sl ([.ref (ad 21), .int a1, .int a2, .int a3, .int a4])).length) Slot.unset).toArray = ls at hl ⊢
  have hl : lv_has ls 5 [(0, .ref (ad 21)), (1, .int a1), (2, .int a2), (3, .int a3), (4, .int a4)] := hl
  have hS : va_S (AA ad) s.heap s.heap [] := va_S.rf
  have hF : Fr L_X1_put σ0 σ0 := Fr.rf
  have hFL : FrL LL_X1_put τ0 τ0 := FrL.rf
  obtain ⟨hx, hb, _, hown, hts, _, hk, hr, _, _⟩ := C
  refine lv_aload_n hx hb dX1_put_0 rfl (lv_at hl 0 rfl) ?_
  refine fg_1_1 (k := 21) hx hb hts in_X1_put_1 hown hK hP (by decide) (by decide) (hts _ lk_X1_put_9) dX1_put_1 ?_
  refine lv_iload_n hx hb dX1_put_4 rfl (lv_at hl 1 rfl) ?_
  refine lv_iload_n hx hb dX1_put_5 rfl (lv_at hl 2 rfl) ?_
  obtain ⟨j1, ej1⟩ : ∃ j : Nat, a1.toInt = (j : Int) := ⟨_, ti_nat (by omega)⟩
  refine as_xyf (k := 360) (j := j1) hx hb hK hP hI hR hS (by decide) (by decide) ej1 (by omega) dX1_put_6 (fun σ2 H2 locs2 u2 v2 hR hP hS => ?_)
  have hF := hF.puts u2 0 rfl (by decide) (by decide) (by omega) (by omega)
  refine lv_aload_n hx hb dX1_put_7 rfl (lv_at hl 0 rfl) ?_
  refine fg_1_2 (k := 21) hx hb hts in_X1_put_1 hown hK hP (by decide) (by decide) (hts _ lk_X1_put_15) dX1_put_8 ?_
  refine lv_iload_n hx hb dX1_put_11 rfl (lv_at hl 1 rfl) ?_
  refine lv_iload_n hx hb dX1_put_12 rfl (lv_at hl 3 rfl) ?_
  refine as_xyf (k := 361) (j := j1) hx hb hK hP hI hR hS (by decide) (by decide) ej1 (by omega) dX1_put_13 (fun σ3 H3 locs3 u3 v3 hR hP hS => ?_)
  have hF := hF.puts u3 1 rfl (by decide) (by decide) (by omega) (by omega)
  refine lv_aload_n hx hb dX1_put_14 rfl (lv_at hl 0 rfl) ?_
  refine fg_1_3 (k := 21) hx hb hts in_X1_put_1 hown hK hP (by decide) (by decide) (hts _ lk_X1_put_18) dX1_put_15 ?_
  refine lv_iload_n hx hb dX1_put_18 rfl (lv_at hl 1 rfl) ?_
  refine lv_iload hx hb dX1_put_19 (lv_at hl 4 rfl) ?_
  refine as_xyf (k := 362) (j := j1) hx hb hK hP hI hR hS (by decide) (by decide) ej1 (by omega) dX1_put_21 (fun σ4 H4 locs4 u4 v4 hR hP hS => ?_)
  have hF := hF.puts u4 2 rfl (by decide) (by decide) (by omega) (by omega)
  exact r_vret hx hb hr hK hP hS hk dX1_put_22 (show P_X1_put σ0 τ0 a1 a2 a3 a4 σ4 τ0 from ⟨hR, hF, hFL⟩)
theorem in_X1_putOnHill_1 : ∀ w ∈ u_ws RX1 TX1 9, w ∈ wsX1_putOnHill := by decide +kernel
theorem in_X1_putOnHill_9 : ∀ w ∈ u_ws RX9 TX9 14, w ∈ wsX1_putOnHill := by decide +kernel
theorem lk_X1_putOnHill_36 : Cond.fieldLink RX1 36 "CuckooShares$Camp" "valley" "LCuckooShares$Valley;" ∈ wsX1_putOnHill := by decide +kernel
abbrev L_X1_putOnHill : List Rc := [(360, 360, 0, 7), (361, 361, 0, 7), (362, 362, 0, 7)]
abbrev LL_X1_putOnHill : List Rc := []
def P_X1_putOnHill (σ0 : Nat → Nat → Int32) (τ0 : Nat → Nat → Int64) (a1 : Int32) (a2 : Int32) (σ : Nat → Nat → Int32) (τ : Nat → Nat → Int64) : Prop := Rg σ ∧ Fr L_X1_putOnHill σ0 σ ∧ FrL LL_X1_putOnHill τ0 τ
set_option maxHeartbeats 4000000 in
theorem c_X1_putOnHill (l : Launch) (D : va_G) (cA : Nat → ClassId) (ad : Nat → Nat) (hI : Inj ad) (σ0 : Nat → Nat → Int32) (τ0 : Nat → Nat → Int64) (hR : Rg σ0) (a1 : Int32) (a2 : Int32) (ha1 : 0 ≤ a1.toInt ∧ a1.toInt ≤ 7) : Met l yX1_putOnHill wsX1_putOnHill ({ frames := 1, cells := 0, slots := 0, locals := 24 } : Room) (WQc D cA ad [.ref (ad 21), .int a1, .int a2] σ0 τ0) (va_Qv (fun u : SS => P_X1_putOnHill σ0 τ0 a1 a2 u.1 u.2) (WB D cA ad) (AA ad)) 0 0 (AA ad) := by
  refine Met.ofW (cc := cX1_putOnHill) (maxL := 3) (ret := none) (by decide) rfl ?_
  intro p e s m args below meth c s₁ B hml hv
  obtain ⟨rfl, hP, hK, hN⟩ := hv
  have C : Cy p s m _ meth c cX1_putOnHill 3 wsX1_putOnHill RX1 D cA ad none := ⟨B.exec, B.bytes, hml, findClass_of_methodNamed B.named, atoms_spec (ws := wsX1_putOnHill) B.pre, hK, B.notSynchronized, B.returns, hI, hN⟩
  have hl := lv_entry ([.ref (ad 21), .int a1, .int a2]) (n := 3) (Nat.le_of_ble_eq_true rfl)
  rw [lg_entry_eq]
  generalize (lg_sl ([.ref (ad 21), .int a1, .int a2]) ++ List.replicate (3 - (lg_sl ([.ref (ad 21), .int a1, .int a2])).length) Slot.unset).toArray = ls at hl ⊢
  have hl : lv_has ls 3 [(0, .ref (ad 21)), (1, .int a1), (2, .int a2)] := hl
  have hS : va_S (AA ad) s.heap s.heap [] := va_S.rf
  have hF : Fr L_X1_putOnHill σ0 σ0 := Fr.rf
  have hFL : FrL LL_X1_putOnHill τ0 τ0 := FrL.rf
  obtain ⟨hx, hb, _, hown, hts, _, hk, hr, _, _⟩ := C
  refine lv_aload_n hx hb dX1_putOnHill_0 rfl (lv_at hl 0 rfl) ?_
  refine fg_1_0 (k := 21) hx hb hts in_X1_putOnHill_1 hown hK hP (by decide) (by decide) (hts _ lk_X1_putOnHill_36) dX1_putOnHill_1 ?_
  refine lv_iload_n hx hb dX1_putOnHill_4 rfl (lv_at hl 2 rfl) ?_
  refine r_cVi (k := 2) (As := [.int a2]) (rest := []) ⟨hx, hb, hml, hown, hts⟩ hK hP hN hS (c_X9_hasHill l D cA ad hI σ0 τ0 hR 2 a2 ⟨by omega, by omega⟩) (cwV 1 hts gX1_putOnHill_X9_hasHill rfl rfl rfl (by decide +kernel) ⟨by decide, by decide⟩) (rv_Valley hK hP (by decide) (by decide)) rfl hl.1 rfl (Nat.le_of_ble_eq_true rfl) dX1_putOnHill_5 (Nat.zero_le _) (Nat.zero_le _) (fun r1 u1 H1 locs1 hp1 hP hS => ?_)
  obtain ⟨σ1, τ1⟩ := u1
  obtain ⟨hR, f1, fL1, hq1, hp1_0⟩ : P_X9_hasHill σ0 τ0 2 a2 r1 σ1 τ1 := hp1
  have hP : va_P D vwCl (gw cA ad σ1 τ1) H1 := hP
  obtain rfl := FrL.nil fL1
  obtain rfl := Fr.nil f1
  refine r_if_eq (tgt := 49) hx hb dX1_putOnHill_8 (by decide) (fun c2 => ?_) (fun c2 => ?_)
  · exact r_vret hx hb hr hK hP hS hk dX1_putOnHill_49 (show P_X1_putOnHill σ0 τ0 a1 a2 σ0 τ0 from ⟨hR, hF, hFL⟩)
  · refine lv_aload_n hx hb dX1_putOnHill_11 rfl (lv_at hl 0 rfl) ?_
    refine lv_iload_n hx hb dX1_putOnHill_12 rfl (lv_at hl 1 rfl) ?_
    refine lv_aload_n hx hb dX1_putOnHill_13 rfl (lv_at hl 0 rfl) ?_
    refine fg_1_0 (k := 21) hx hb hts in_X1_putOnHill_1 hown hK hP (by decide) (by decide) (hts _ lk_X1_putOnHill_36) dX1_putOnHill_14 ?_
    refine fgN_9_9 (k := 2) hx hb hts in_X1_putOnHill_9 hown hK hP (by decide) (by decide) (hN.use nw_1_59) dX1_putOnHill_17 ?_
    refine lv_iload_n hx hb dX1_putOnHill_20 rfl (lv_at hl 2 rfl) ?_
    obtain ⟨j3, ej3⟩ : ∃ j : Nat, a2.toInt = (j : Int) := ⟨_, ti_nat (by omega)⟩
    refine ad_hillA (k := 48) (j := j3) hx hb hK hP (by decide) (by decide) ej3 (by omega) dX1_putOnHill_21 ?_
    refine r_iconst hx hb dX1_putOnHill_22 (by decide) (fun z4 ez4 => ?_)
    refine ad_hillR (k := 68 + j3) (j := 0) hx hb hK hP (by omega) (by omega) (by omega) (by omega) dX1_putOnHill_23 ?_
    refine lv_aload_n hx hb dX1_putOnHill_24 rfl (lv_at hl 0 rfl) ?_
    refine fg_1_0 (k := 21) hx hb hts in_X1_putOnHill_1 hown hK hP (by decide) (by decide) (hts _ lk_X1_putOnHill_36) dX1_putOnHill_25 ?_
    refine fgN_9_9 (k := 2) hx hb hts in_X1_putOnHill_9 hown hK hP (by decide) (by decide) (hN.use nw_1_59) dX1_putOnHill_28 ?_
    refine lv_iload_n hx hb dX1_putOnHill_31 rfl (lv_at hl 2 rfl) ?_
    refine ad_hillA (k := 48) (j := j3) hx hb hK hP (by decide) (by decide) ej3 (by omega) dX1_putOnHill_32 ?_
    refine r_iconst hx hb dX1_putOnHill_33 (by decide) (fun z5 ez5 => ?_)
    refine ad_hillR (k := 68 + j3) (j := 1) hx hb hK hP (by omega) (by omega) (by omega) (by omega) dX1_putOnHill_34 ?_
    refine lv_aload_n hx hb dX1_putOnHill_35 rfl (lv_at hl 0 rfl) ?_
    refine fg_1_0 (k := 21) hx hb hts in_X1_putOnHill_1 hown hK hP (by decide) (by decide) (hts _ lk_X1_putOnHill_36) dX1_putOnHill_36 ?_
    refine fgN_9_9 (k := 2) hx hb hts in_X1_putOnHill_9 hown hK hP (by decide) (by decide) (hN.use nw_1_59) dX1_putOnHill_39 ?_
    refine lv_iload_n hx hb dX1_putOnHill_42 rfl (lv_at hl 2 rfl) ?_
    refine ad_hillA (k := 48) (j := j3) hx hb hK hP (by decide) (by decide) ej3 (by omega) dX1_putOnHill_43 ?_
    refine r_iconst hx hb dX1_putOnHill_44 (by decide) (fun z6 ez6 => ?_)
    refine ad_hillR (k := 68 + j3) (j := 2) hx hb hK hP (by omega) (by omega) (by omega) (by omega) dX1_putOnHill_45 ?_
    refine r_cVv (k := 21) (As := [.int a1, .int (σ0 (68 + j3) 0), .int (σ0 (68 + j3) 1), .int (σ0 (68 + j3) 2)]) (rest := []) ⟨hx, hb, hml, hown, hts⟩ hK hP hN hS (c_X1_put l D cA ad hI σ0 τ0 hR a1 (σ0 (68 + j3) 0) (σ0 (68 + j3) 1) (σ0 (68 + j3) 2) (by omega)) (cwV 4 hts gX1_putOnHill_X1_put rfl rfl rfl (by decide +kernel) ⟨by decide, by decide⟩) (rv_Camp hK hP (by decide) (by decide)) rfl hl.1 rfl (Nat.le_of_ble_eq_true rfl) dX1_putOnHill_46 (Nat.zero_le _) (Nat.zero_le _) (fun u7 H7 locs7 hp7 hP hS => ?_)
    obtain ⟨σ7, τ7⟩ := u7
    obtain ⟨hR, f7, fL7⟩ : P_X1_put σ0 τ0 a1 (σ0 (68 + j3) 0) (σ0 (68 + j3) 1) (σ0 (68 + j3) 2) σ7 τ7 := hp7
    have hP : va_P D vwCl (gw cA ad σ7 τ7) H7 := hP
    obtain rfl := FrL.nil fL7
    have hF := hF.step f7 (by decide)
    exact r_vret hx hb hr hK hP hS hk dX1_putOnHill_49 (show P_X1_putOnHill σ0 τ0 a1 a2 σ7 τ0 from ⟨hR, hF, hFL⟩)
theorem in_X1_pitch_1 : ∀ w ∈ u_ws RX1 TX1 9, w ∈ wsX1_pitch := by decide +kernel
theorem in_X1_pitch_2 : ∀ w ∈ u_ws RX2 TX2 7, w ∈ wsX1_pitch := by decide +kernel
theorem in_X1_pitch_9 : ∀ w ∈ u_ws RX9 TX9 14, w ∈ wsX1_pitch := by decide +kernel
theorem lk_X1_pitch_36 : Cond.fieldLink RX1 36 "CuckooShares$Camp" "valley" "LCuckooShares$Valley;" ∈ wsX1_pitch := by decide +kernel
abbrev L_X1_pitch : List Rc := [(360, 360, 0, 7), (361, 361, 0, 7), (362, 362, 0, 7)]
abbrev LL_X1_pitch : List Rc := []
def P_X1_pitch (σ0 : Nat → Nat → Int32) (τ0 : Nat → Nat → Int64) (k1 : Nat) (σ : Nat → Nat → Int32) (τ : Nat → Nat → Int64) : Prop := Rg σ ∧ Fr L_X1_pitch σ0 σ ∧ FrL LL_X1_pitch τ0 τ
def J_X1_pitch_2 (p : Program) (l : Launch) (e : Env) (s : State) (m : MethodId) (args : Array Value) (below : List Frame) (meth : Method) (c : Code) (D : va_G) (cA : Nat → ClassId) (ad : Nat → Nat) (σ0 : Nat → Nat → Int32) (τ0 : Nat → Nat → Int64) (k1 : Nat) (n : Nat) : Prop := ∀ (σ : Nat → Nat → Int32) (τ : Nat → Nat → Int64) (H : Heap) (locs : List Loc) (x2 : Int32) (ls : Array Slot), Rg σ → Fr L_X1_pitch σ0 σ → FrL LL_X1_pitch τ0 τ → va_P D vwCl (gw cA ad σ τ) H → va_S (AA ad) s.heap H locs → (0 ≤ x2.toInt ∧ x2.toInt ≤ 8) → lv_has ls 3 [(0, .ref (ad 21)), (1, .ref (ad k1)), (2, .int x2)] → 2 * (8 - x2.toInt) + 1 < (n : Int) → W p l e ({ frames := 2, cells := 0, slots := 0, locals := 46 } : Room) s m args below meth c H locs 0 0 (MQ below (va_Qv (fun u : SS => P_X1_pitch σ0 τ0 k1 u.1 u.2) (WB D cA ad) (AA ad)) args s 0 0 (AA ad)) (F0 m 2 ls [])
set_option maxHeartbeats 4000000 in
theorem B_X1_pitch_2 (p : Program) (l : Launch) (e : Env) (s : State) (m : MethodId) (args : Array Value) (below : List Frame) (meth : Method) (c : Code) (D : va_G) (cA : Nat → ClassId) (ad : Nat → Nat) (σ0 : Nat → Nat → Int32) (τ0 : Nat → Nat → Int64) (k1 : Nat) (n : Nat) (C : Cy p s m args meth c cX1_pitch 3 wsX1_pitch RX1 D cA ad none) (hk1 : 7 ≤ k1 ∧ k1 ≤ 9) (K2 : J_X1_pitch_2 p l e s m args below meth c D cA ad σ0 τ0 k1 n) : J_X1_pitch_2 p l e s m args below meth c D cA ad σ0 τ0 k1 (n + 1) := by
  obtain ⟨hx, hb, hml, hown, hts, hK, hk, hr, hI, hN⟩ := C
  intro σ τ H locs x2 ls hR hF hFL hP hS hc0 hl hm
  obtain rfl := FrL.nil hFL
  refine lv_iload_n hx hb dX1_pitch_2 rfl (lv_at hl 2 rfl) ?_
  refine lv_aload_n hx hb dX1_pitch_3 rfl (lv_at hl 0 rfl) ?_
  refine fg_1_0 (k := 21) hx hb hts in_X1_pitch_1 hown hK hP (by decide) (by decide) (hts _ lk_X1_pitch_36) dX1_pitch_4 ?_
  refine fgN_9_5 (k := 2) hx hb hts in_X1_pitch_9 hown hK hP (by decide) (by decide) (hN.use nw_1_40) dX1_pitch_7 ?_
  have hr1 := rg_9_5 hR (k := 2) (by decide) (by decide)
  refine r_icmp_ge (tgt := 30) hx hb dX1_pitch_10 (by decide) (fun c2 => ?_) (fun c2 => ?_)
  · exact r_vret hx hb hr hK hP hS hk dX1_pitch_30 (show P_X1_pitch σ0 τ0 k1 σ τ0 from ⟨hR, hF, hFL⟩)
  · refine lv_aload_n hx hb dX1_pitch_13 rfl (lv_at hl 0 rfl) ?_
    refine lv_iload_n hx hb dX1_pitch_14 rfl (lv_at hl 2 rfl) ?_
    refine lv_aload_n hx hb dX1_pitch_15 rfl (lv_at hl 1 rfl) ?_
    refine fgN_2_3 (k := k1) hx hb hts in_X1_pitch_2 hown hK hP (by omega) (by omega) (hN.use nw_1_46) dX1_pitch_16 ?_
    refine lv_iload_n hx hb dX1_pitch_19 rfl (lv_at hl 2 rfl) ?_
    obtain ⟨j3, ej3⟩ : ∃ j : Nat, x2.toInt = (j : Int) := ⟨_, ti_nat (by omega)⟩
    refine ad_days8 (k := k1 + 301) (j := j3) hx hb hK hP (by omega) (by omega) ej3 (by omega) dX1_pitch_20 ?_
    refine r_cVv (k := 21) (As := [.int x2, .int (σ (k1 + 301) j3)]) (rest := []) ⟨hx, hb, hml, hown, hts⟩ hK hP hN hS (c_X1_putOnHill l D cA ad hI σ τ0 hR x2 (σ (k1 + 301) j3) (by omega)) (cwV 2 hts gX1_pitch_X1_putOnHill rfl rfl rfl (by decide +kernel) ⟨by decide, by decide⟩) (rv_Camp hK hP (by decide) (by decide)) rfl hl.1 rfl (Nat.le_of_ble_eq_true rfl) dX1_pitch_21 (Nat.zero_le _) (Nat.zero_le _) (fun u4 H4 locs4 hp4 hP hS => ?_)
    obtain ⟨σ4, τ4⟩ := u4
    obtain ⟨hR, f4, fL4⟩ : P_X1_putOnHill σ τ0 x2 (σ (k1 + 301) j3) σ4 τ4 := hp4
    have hP : va_P D vwCl (gw cA ad σ4 τ4) H4 := hP
    obtain rfl := FrL.nil fL4
    have hF := hF.step f4 (by decide)
    refine r_iinc (k := 2) (lv1 := fun z5 => [(2, .int z5), (0, .ref (ad 21)), (1, .ref (ad k1))]) hx hb dX1_pitch_24 hl rfl (by decide) (fun _ => rfl) (by decide) (by omega) (fun z5 ls ez5 hl => ?_)
    refine lv_goto (tgt := 2) hx hb dX1_pitch_27 (by decide) ?_
    exact K2 σ4 τ0 H4 locs4 z5 ls hR hF hFL hP hS (by omega) (lv_sub hl [1, 2, 0] rfl) (by omega)
theorem A_X1_pitch (p : Program) (l : Launch) (e : Env) (s : State) (m : MethodId) (args : Array Value) (below : List Frame) (meth : Method) (c : Code) (D : va_G) (cA : Nat → ClassId) (ad : Nat → Nat) (σ0 : Nat → Nat → Int32) (τ0 : Nat → Nat → Int64) (k1 : Nat) (C : Cy p s m args meth c cX1_pitch 3 wsX1_pitch RX1 D cA ad none) (hk1 : 7 ≤ k1 ∧ k1 ≤ 9) : ∀ n : Nat, J_X1_pitch_2 p l e s m args below meth c D cA ad σ0 τ0 k1 n := by
  intro n
  induction n with
  | zero =>
    exact (by intro σ τ H locs x2 ls hR hF hFL hP hS hc0 hl hm; exfalso; omega)
  | succ n ih =>
    exact B_X1_pitch_2 p l e s m args below meth c D cA ad σ0 τ0 k1 n C hk1 ih
set_option maxHeartbeats 4000000 in
theorem c_X1_pitch (l : Launch) (D : va_G) (cA : Nat → ClassId) (ad : Nat → Nat) (hI : Inj ad) (σ0 : Nat → Nat → Int32) (τ0 : Nat → Nat → Int64) (hR : Rg σ0) (k1 : Nat) (hk1 : 7 ≤ k1 ∧ k1 ≤ 9) : Met l yX1_pitch wsX1_pitch ({ frames := 2, cells := 0, slots := 0, locals := 46 } : Room) (WQc D cA ad [.ref (ad 21), .ref (ad k1)] σ0 τ0) (va_Qv (fun u : SS => P_X1_pitch σ0 τ0 k1 u.1 u.2) (WB D cA ad) (AA ad)) 0 0 (AA ad) := by
  refine Met.ofW (cc := cX1_pitch) (maxL := 3) (ret := none) (by decide) rfl ?_
  intro p e s m args below meth c s₁ B hml hv
  obtain ⟨rfl, hP, hK, hN⟩ := hv
  have C : Cy p s m _ meth c cX1_pitch 3 wsX1_pitch RX1 D cA ad none := ⟨B.exec, B.bytes, hml, findClass_of_methodNamed B.named, atoms_spec (ws := wsX1_pitch) B.pre, hK, B.notSynchronized, B.returns, hI, hN⟩
  have hl := lv_entry ([.ref (ad 21), .ref (ad k1)]) (n := 3) (Nat.le_of_ble_eq_true rfl)
  rw [lg_entry_eq]
  generalize (lg_sl ([.ref (ad 21), .ref (ad k1)]) ++ List.replicate (3 - (lg_sl ([.ref (ad 21), .ref (ad k1)])).length) Slot.unset).toArray = ls at hl ⊢
  have hl : lv_has ls 3 [(0, .ref (ad 21)), (1, .ref (ad k1))] := hl
  have hS : va_S (AA ad) s.heap s.heap [] := va_S.rf
  have hF : Fr L_X1_pitch σ0 σ0 := Fr.rf
  have hFL : FrL LL_X1_pitch τ0 τ0 := FrL.rf
  have hA := A_X1_pitch p l e s m _ below meth c D cA ad σ0 τ0 k1 C hk1 42
  have K2 := hA
  clear hA
  obtain ⟨hx, hb, _, hown, hts, _, hk, hr, _, _⟩ := C
  refine r_iconst hx hb dX1_pitch_0 (by decide) (fun z1 ez1 => ?_)
  refine lv_istore_n (lv' := [(2, .int z1), (0, .ref (ad 21)), (1, .ref (ad k1))]) hx hb dX1_pitch_1 rfl hl (by decide) rfl (fun ls hl => ?_)
  exact K2 σ0 τ0 s.heap [] z1 ls hR hF hFL hP hS (by omega) (lv_sub hl [1, 2, 0] rfl) (by omega)
abbrev L_X9_hasCall : List Rc := []
abbrev LL_X9_hasCall : List Rc := []
def P_X9_hasCall (σ0 : Nat → Nat → Int32) (τ0 : Nat → Nat → Int64) (k0 : Nat) (a1 : Int32) (a2 : Int32) (r : Int32) (σ : Nat → Nat → Int32) (τ : Nat → Nat → Int64) : Prop := Rg σ ∧ Fr L_X9_hasCall σ0 σ ∧ FrL LL_X9_hasCall τ0 τ ∧ (0 ≤ r.toInt ∧ r.toInt ≤ 1) ∧ (r.toInt = 0 ∨ (r.toInt = 1 ∧ 0 ≤ a1.toInt ∧ a1.toInt ≤ 3 ∧ 0 ≤ a2.toInt ∧ a2.toInt ≤ 9))
set_option maxHeartbeats 4000000 in
theorem c_X9_hasCall (l : Launch) (D : va_G) (cA : Nat → ClassId) (ad : Nat → Nat) (hI : Inj ad) (σ0 : Nat → Nat → Int32) (τ0 : Nat → Nat → Int64) (hR : Rg σ0) (k0 : Nat) (a1 : Int32) (a2 : Int32) (hk0 : 2 ≤ k0 ∧ k0 ≤ 5) : Met l yX9_hasCall wsX9_hasCall ({ frames := 1, cells := 0, slots := 0, locals := 21 } : Room) (WQc D cA ad [.ref (ad k0), .int a1, .int a2] σ0 τ0) (va_Qi (fun (r : Int32) (u : SS) => P_X9_hasCall σ0 τ0 k0 a1 a2 r u.1 u.2) (WB D cA ad) (AA ad)) 0 0 (AA ad) := by
  refine Met.ofW (cc := cX9_hasCall) (maxL := 3) (ret := (some .boolean)) (by decide) rfl ?_
  intro p e s m args below meth c s₁ B hml hv
  obtain ⟨rfl, hP, hK, hN⟩ := hv
  have C : Cy p s m _ meth c cX9_hasCall 3 wsX9_hasCall RX9 D cA ad (some .boolean) := ⟨B.exec, B.bytes, hml, findClass_of_methodNamed B.named, atoms_spec (ws := wsX9_hasCall) B.pre, hK, B.notSynchronized, B.returns, hI, hN⟩
  have hl := lv_entry ([.ref (ad k0), .int a1, .int a2]) (n := 3) (Nat.le_of_ble_eq_true rfl)
  rw [lg_entry_eq]
  generalize (lg_sl ([.ref (ad k0), .int a1, .int a2]) ++ List.replicate (3 - (lg_sl ([.ref (ad k0), .int a1, .int a2])).length) Slot.unset).toArray = ls at hl ⊢
  have hl : lv_has ls 3 [(0, .ref (ad k0)), (1, .int a1), (2, .int a2)] := hl
  have hS : va_S (AA ad) s.heap s.heap [] := va_S.rf
  have hF : Fr L_X9_hasCall σ0 σ0 := Fr.rf
  have hFL : FrL LL_X9_hasCall τ0 τ0 := FrL.rf
  obtain ⟨hx, hb, _, hown, hts, _, hk, hr, _, _⟩ := C
  refine lv_aload_n hx hb dX9_hasCall_0 rfl (lv_at hl 0 rfl) ?_
  refine lv_iload_n hx hb dX9_hasCall_1 rfl (lv_at hl 1 rfl) ?_
  refine r_cVi (k := k0) (As := [.int a1]) (rest := []) ⟨hx, hb, hml, hown, hts⟩ hK hP hN hS (c_X9_hasFlight l D cA ad hI σ0 τ0 hR k0 a1 ⟨by omega, by omega⟩) (cwV 1 hts gX9_hasCall_X9_hasFlight rfl rfl rfl (by decide +kernel) ⟨by decide, by decide⟩) (rv_Valley hK hP (by omega) (by omega)) rfl hl.1 rfl (Nat.le_of_ble_eq_true rfl) dX9_hasCall_2 (Nat.zero_le _) (Nat.zero_le _) (fun r1 u1 H1 locs1 hp1 hP hS => ?_)
  obtain ⟨σ1, τ1⟩ := u1
  obtain ⟨hR, f1, fL1, hq1, hp1_0, hp1_1⟩ : P_X9_hasFlight σ0 τ0 k0 a1 r1 σ1 τ1 := hp1
  have hP : va_P D vwCl (gw cA ad σ1 τ1) H1 := hP
  obtain rfl := FrL.nil fL1
  obtain rfl := Fr.nil f1
  refine r_if_eq (tgt := 28) hx hb dX9_hasCall_5 (by decide) (fun c2 => ?_) (fun c2 => ?_)
  · refine r_iconst hx hb dX9_hasCall_28 (by decide) (fun z3 ez3 => ?_)
    exact r_zret hx hb hr hK hP hS hk (by omega) dX9_hasCall_29 (show P_X9_hasCall σ0 τ0 k0 a1 a2 z3 σ0 τ0 from ⟨hR, hF, hFL, by omega, by omega⟩)
  · refine lv_iload_n hx hb dX9_hasCall_8 rfl (lv_at hl 2 rfl) ?_
    refine r_if_lt (tgt := 28) hx hb dX9_hasCall_9 (by decide) (fun c4 => ?_) (fun c4 => ?_)
    · refine r_iconst hx hb dX9_hasCall_28 (by decide) (fun z5 ez5 => ?_)
      exact r_zret hx hb hr hK hP hS hk (by omega) dX9_hasCall_29 (show P_X9_hasCall σ0 τ0 k0 a1 a2 z5 σ0 τ0 from ⟨hR, hF, hFL, by omega, by omega⟩)
    · refine lv_iload_n hx hb dX9_hasCall_12 rfl (lv_at hl 2 rfl) ?_
      refine lv_aload_n hx hb dX9_hasCall_13 rfl (lv_at hl 0 rfl) ?_
      refine fg_9_11 (k := k0) hx hb hts in_X9_hasCall_9 hown hK hP (by omega) (by omega) (hts _ lk_X9_hasCall_26) dX9_hasCall_14 ?_
      refine lv_iload_n hx hb dX9_hasCall_17 rfl (lv_at hl 1 rfl) ?_
      obtain ⟨j6, ej6⟩ : ∃ j : Nat, a1.toInt = (j : Int) := ⟨_, ti_nat (by omega)⟩
      refine ad_flightA (k := k0 + 54) (j := j6) hx hb hK hP (by omega) (by omega) ej6 (by omega) dX9_hasCall_18 ?_
      refine r_iconst hx hb dX9_hasCall_19 (by decide) (fun z7 ez7 => ?_)
      refine ad_flightR (k := 4 * ((k0 + 54) - 56) + 132 + j6) (j := 2) hx hb hK hP (by omega) (by omega) (by omega) (by omega) dX9_hasCall_20 ?_
      have hr8 := ra_flightR_0 hR (k := 4 * ((k0 + 54) - 56) + 132 + j6) (j := 2) (by omega) (by omega) (by decide) (by decide)
      refine r_icmp_ge (tgt := 28) hx hb dX9_hasCall_21 (by decide) (fun c9 => ?_) (fun c9 => ?_)
      · refine r_iconst hx hb dX9_hasCall_28 (by decide) (fun z10 ez10 => ?_)
        exact r_zret hx hb hr hK hP hS hk (by omega) dX9_hasCall_29 (show P_X9_hasCall σ0 τ0 k0 a1 a2 z10 σ0 τ0 from ⟨hR, hF, hFL, by omega, by omega⟩)
      · refine r_iconst hx hb dX9_hasCall_24 (by decide) (fun z11 ez11 => ?_)
        refine lv_goto (tgt := 29) hx hb dX9_hasCall_25 (by decide) ?_
        exact r_zret hx hb hr hK hP hS hk (by omega) dX9_hasCall_29 (show P_X9_hasCall σ0 τ0 k0 a1 a2 z11 σ0 τ0 from ⟨hR, hF, hFL, by omega, by omega⟩)
theorem in_X0_whyNotCalled_0 : ∀ w ∈ u_ws RX0 TX0 3, w ∈ wsX0_whyNotCalled := by decide +kernel
theorem in_X0_whyNotCalled_2 : ∀ w ∈ u_ws RX2 TX2 7, w ∈ wsX0_whyNotCalled := by decide +kernel
theorem lk_X0_whyNotCalled_15 : Cond.fieldLink RX0 15 "CuckooShares$Acts" "camp" "LCuckooShares$Camp;" ∈ wsX0_whyNotCalled := by decide +kernel
theorem lk_X0_whyNotCalled_9 : Cond.fieldLink RX0 9 "CuckooShares$Acts" "valley" "LCuckooShares$Valley;" ∈ wsX0_whyNotCalled := by decide +kernel
abbrev L_X0_whyNotCalled : List Rc := [(360, 360, 0, 7), (361, 361, 0, 7), (362, 362, 0, 7)]
abbrev LL_X0_whyNotCalled : List Rc := []
def P_X0_whyNotCalled (σ0 : Nat → Nat → Int32) (τ0 : Nat → Nat → Int64) (k1 : Nat) (a2 : Int32) (a3 : Int32) (r : Int32) (σ : Nat → Nat → Int32) (τ : Nat → Nat → Int64) : Prop := Rg σ ∧ Fr L_X0_whyNotCalled σ0 σ ∧ FrL LL_X0_whyNotCalled τ0 τ ∧ (0 ≤ r.toInt ∧ r.toInt ≤ 4) ∧ (r.toInt ≠ 0 ∨ (0 ≤ (σ k1 1).toInt ∧ (σ k1 1).toInt ≤ 3)) ∧ (∀ j : Nat, a3.toInt = (j : Int) → r.toInt = 0 → 0 ≤ (σ (k1 + 327) j).toInt ∧ (σ (k1 + 327) j).toInt ≤ 9)
set_option maxHeartbeats 4000000 in
theorem c_X0_whyNotCalled (l : Launch) (D : va_G) (cA : Nat → ClassId) (ad : Nat → Nat) (hI : Inj ad) (σ0 : Nat → Nat → Int32) (τ0 : Nat → Nat → Int64) (hR : Rg σ0) (k1 : Nat) (a2 : Int32) (a3 : Int32) (hk1 : 7 ≤ k1 ∧ k1 ≤ 9) (ha2 : 0 ≤ a2.toInt ∧ a2.toInt ≤ 7) (ha3 : 0 ≤ a3.toInt ∧ a3.toInt ≤ 7) : Met l yX0_whyNotCalled wsX0_whyNotCalled ({ frames := 3, cells := 0, slots := 0, locals := 68 } : Room) (WQc D cA ad [.ref (ad 22), .ref (ad k1), .int a2, .int a3] σ0 τ0) (va_Qi (fun (r : Int32) (u : SS) => P_X0_whyNotCalled σ0 τ0 k1 a2 a3 r u.1 u.2) (WB D cA ad) (AA ad)) 0 0 (AA ad) := by
  refine Met.ofW (cc := cX0_whyNotCalled) (maxL := 5) (ret := (some .int)) (by decide) rfl ?_
  intro p e s m args below meth c s₁ B hml hv
  obtain ⟨rfl, hP, hK, hN⟩ := hv
  have C : Cy p s m _ meth c cX0_whyNotCalled 5 wsX0_whyNotCalled RX0 D cA ad (some .int) := ⟨B.exec, B.bytes, hml, findClass_of_methodNamed B.named, atoms_spec (ws := wsX0_whyNotCalled) B.pre, hK, B.notSynchronized, B.returns, hI, hN⟩
  have hl := lv_entry ([.ref (ad 22), .ref (ad k1), .int a2, .int a3]) (n := 5) (Nat.le_of_ble_eq_true rfl)
  rw [lg_entry_eq]
  generalize (lg_sl ([.ref (ad 22), .ref (ad k1), .int a2, .int a3]) ++ List.replicate (5 - (lg_sl ([.ref (ad 22), .ref (ad k1), .int a2, .int a3])).length) Slot.unset).toArray = ls at hl ⊢
  have hl : lv_has ls 5 [(0, .ref (ad 22)), (1, .ref (ad k1)), (2, .int a2), (3, .int a3)] := hl
  have hS : va_S (AA ad) s.heap s.heap [] := va_S.rf
  have hF : Fr L_X0_whyNotCalled σ0 σ0 := Fr.rf
  have hFL : FrL LL_X0_whyNotCalled τ0 τ0 := FrL.rf
  obtain ⟨hx, hb, _, hown, hts, _, hk, hr, _, _⟩ := C
  refine lv_aload_n hx hb dX0_whyNotCalled_0 rfl (lv_at hl 1 rfl) ?_
  refine fgN_2_5 (k := k1) hx hb hts in_X0_whyNotCalled_2 hown hK hP (by omega) (by omega) (hN.use nw_0_55) dX0_whyNotCalled_1 ?_
  refine lv_iload_n hx hb dX0_whyNotCalled_4 rfl (lv_at hl 3 rfl) ?_
  obtain ⟨j1, ej1⟩ : ∃ j : Nat, a3.toInt = (j : Int) := ⟨_, ti_nat (by omega)⟩
  refine ad_days8 (k := k1 + 327) (j := j1) hx hb hK hP (by omega) (by omega) ej1 (by omega) dX0_whyNotCalled_5 ?_
  refine lv_istore (lv' := [(4, .int (σ0 (k1 + 327) j1)), (0, .ref (ad 22)), (1, .ref (ad k1)), (2, .int a2), (3, .int a3)]) hx hb dX0_whyNotCalled_6 hl (by decide) rfl (fun ls hl => ?_)
  refine lv_aload_n hx hb dX0_whyNotCalled_8 rfl (lv_at hl 1 rfl) ?_
  refine fg_0_0 (k := 22) hx hb hts in_X0_whyNotCalled_0 hown hK hP (by decide) (by decide) (hts _ lk_X0_whyNotCalled_9) dX0_whyNotCalled_9 ?_
  refine lv_aload_n hx hb dX0_whyNotCalled_12 rfl (lv_at hl 2 rfl) ?_
  refine fgN_2_1 (k := k1) hx hb hts in_X0_whyNotCalled_2 hown hK hP (by omega) (by omega) (hN.use nw_0_19) dX0_whyNotCalled_13 ?_
  refine lv_iload hx hb dX0_whyNotCalled_16 (lv_at hl 0 rfl) ?_
  refine r_cVi (k := 2) (As := [.int (σ0 k1 1), .int (σ0 (k1 + 327) j1)]) (rest := []) ⟨hx, hb, hml, hown, hts⟩ hK hP hN hS (c_X9_hasCall l D cA ad hI σ0 τ0 hR 2 (σ0 k1 1) (σ0 (k1 + 327) j1) ⟨by omega, by omega⟩) (cwV 2 hts gX0_whyNotCalled_X9_hasCall rfl rfl rfl (by decide +kernel) ⟨by decide, by decide⟩) (rv_Valley hK hP (by decide) (by decide)) rfl hl.1 rfl (Nat.le_of_ble_eq_true rfl) dX0_whyNotCalled_18 (Nat.zero_le _) (Nat.zero_le _) (fun r2 u2 H2 locs2 hp2 hP hS => ?_)
  obtain ⟨σ2, τ2⟩ := u2
  obtain ⟨hR, f2, fL2, hq2, hp2_0⟩ : P_X9_hasCall σ0 τ0 2 (σ0 k1 1) (σ0 (k1 + 327) j1) r2 σ2 τ2 := hp2
  have hP : va_P D vwCl (gw cA ad σ2 τ2) H2 := hP
  obtain rfl := FrL.nil fL2
  obtain rfl := Fr.nil f2
  refine r_if_ne (tgt := 26) hx hb dX0_whyNotCalled_21 (by decide) (fun c3 => ?_) (fun c3 => ?_)
  · refine lv_aload_n hx hb dX0_whyNotCalled_26 rfl (lv_at hl 1 rfl) ?_
    refine fg_0_1 (k := 22) hx hb hts in_X0_whyNotCalled_0 hown hK hP (by decide) (by decide) (hts _ lk_X0_whyNotCalled_15) dX0_whyNotCalled_27 ?_
    refine lv_aload_n hx hb dX0_whyNotCalled_30 rfl (lv_at hl 2 rfl) ?_
    refine r_cVv (k := 21) (As := [.ref (ad k1)]) (rest := []) ⟨hx, hb, hml, hown, hts⟩ hK hP hN hS (c_X1_pitch l D cA ad hI σ0 τ0 hR k1 ⟨by omega, by omega⟩) (cwV 1 hts gX0_whyNotCalled_X1_pitch rfl rfl rfl (by decide +kernel) ⟨by decide, by decide⟩) (rv_Camp hK hP (by decide) (by decide)) rfl hl.1 rfl (Nat.le_of_ble_eq_true rfl) dX0_whyNotCalled_31 (Nat.zero_le _) (Nat.zero_le _) (fun u4 H4 locs4 hp4 hP hS => ?_)
    obtain ⟨σ4, τ4⟩ := u4
    obtain ⟨hR, f4, fL4⟩ : P_X1_pitch σ0 τ0 k1 σ4 τ4 := hp4
    have hP : va_P D vwCl (gw cA ad σ4 τ4) H4 := hP
    obtain rfl := FrL.nil fL4
    have hF := hF.step f4 (by decide)
    have t5 : (σ4 (k1 + 327) j1).toInt = (σ0 (k1 + 327) j1).toInt := congrArg Int32.toInt (f4.atV (k1 + 327) j1 (by intro q hq; simp only [L_X1_pitch, List.mem_cons, List.not_mem_nil, or_false] at hq; rcases hq with rfl | rfl | rfl <;> dsimp only <;> omega))
    have t6 : (σ4 k1 1).toInt = (σ0 k1 1).toInt := congrArg Int32.toInt (f4.atV k1 1 (by intro q hq; simp only [L_X1_pitch, List.mem_cons, List.not_mem_nil, or_false] at hq; rcases hq with rfl | rfl | rfl <;> dsimp only <;> omega))
    refine lv_aload_n hx hb dX0_whyNotCalled_34 rfl (lv_at hl 1 rfl) ?_
    refine fg_0_1 (k := 22) hx hb hts in_X0_whyNotCalled_0 hown hK hP (by decide) (by decide) (hts _ lk_X0_whyNotCalled_15) dX0_whyNotCalled_35 ?_
    refine lv_iload_n hx hb dX0_whyNotCalled_38 rfl (lv_at hl 3 rfl) ?_
    refine lv_aload_n hx hb dX0_whyNotCalled_39 rfl (lv_at hl 2 rfl) ?_
    refine fgN_2_1 (k := k1) hx hb hts in_X0_whyNotCalled_2 hown hK hP (by omega) (by omega) (hN.use nw_0_19) dX0_whyNotCalled_40 ?_
    refine lv_iload hx hb dX0_whyNotCalled_43 (lv_at hl 0 rfl) ?_
    refine r_cVi (k := 21) (As := [.int a2, .int (σ4 k1 1), .int (σ0 (k1 + 327) j1)]) (rest := []) ⟨hx, hb, hml, hown, hts⟩ hK hP hN hS (c_X1_distance l D cA ad hI σ4 τ0 hR a2 (σ4 k1 1) (σ0 (k1 + 327) j1) (by omega) (by omega) (by omega)) (cwV 3 hts gX0_whyNotCalled_X1_distance rfl rfl rfl (by decide +kernel) ⟨by decide, by decide⟩) (rv_Camp hK hP (by decide) (by decide)) rfl hl.1 rfl (Nat.le_of_ble_eq_true rfl) dX0_whyNotCalled_45 (Nat.zero_le _) (Nat.zero_le _) (fun r7 u7 H7 locs7 hp7 hP hS => ?_)
    obtain ⟨σ7, τ7⟩ := u7
    obtain ⟨hR, f7, fL7⟩ : P_X1_distance σ4 τ0 a2 (σ4 k1 1) (σ0 (k1 + 327) j1) r7 σ7 τ7 := hp7
    have hP : va_P D vwCl (gw cA ad σ7 τ7) H7 := hP
    obtain rfl := FrL.nil fL7
    obtain rfl := Fr.nil f7
    refine lv_aload_n hx hb dX0_whyNotCalled_48 rfl (lv_at hl 1 rfl) ?_
    refine fg_0_1 (k := 22) hx hb hts in_X0_whyNotCalled_0 hown hK hP (by decide) (by decide) (hts _ lk_X0_whyNotCalled_15) dX0_whyNotCalled_49 ?_
    refine lv_iload_n hx hb dX0_whyNotCalled_52 rfl (lv_at hl 4 rfl) ?_
    refine lv_aload_n hx hb dX0_whyNotCalled_53 rfl (lv_at hl 2 rfl) ?_
    refine fgN_2_1 (k := k1) hx hb hts in_X0_whyNotCalled_2 hown hK hP (by omega) (by omega) (hN.use nw_0_19) dX0_whyNotCalled_54 ?_
    refine lv_iload hx hb dX0_whyNotCalled_57 (lv_at hl 0 rfl) ?_
    refine r_cVi (k := 21) (As := [.int a3, .int (σ4 k1 1), .int (σ0 (k1 + 327) j1)]) (rest := [.int r7]) ⟨hx, hb, hml, hown, hts⟩ hK hP hN hS (c_X1_distance l D cA ad hI σ4 τ0 hR a3 (σ4 k1 1) (σ0 (k1 + 327) j1) (by omega) (by omega) (by omega)) (cwV 3 hts gX0_whyNotCalled_X1_distance rfl rfl rfl (by decide +kernel) ⟨by decide, by decide⟩) (rv_Camp hK hP (by decide) (by decide)) rfl hl.1 rfl (Nat.le_of_ble_eq_true rfl) dX0_whyNotCalled_59 (Nat.zero_le _) (Nat.zero_le _) (fun r8 u8 H8 locs8 hp8 hP hS => ?_)
    obtain ⟨σ8, τ8⟩ := u8
    obtain ⟨hR, f8, fL8⟩ : P_X1_distance σ4 τ0 a3 (σ4 k1 1) (σ0 (k1 + 327) j1) r8 σ8 τ8 := hp8
    have hP : va_P D vwCl (gw cA ad σ8 τ8) H8 := hP
    obtain rfl := FrL.nil fL8
    obtain rfl := Fr.nil f8
    refine r_icmp_lt (tgt := 67) hx hb dX0_whyNotCalled_62 (by decide) (fun c9 => ?_) (fun c9 => ?_)
    · refine lv_aload_n hx hb dX0_whyNotCalled_67 rfl (lv_at hl 2 rfl) ?_
      refine fgN_2_5 (k := k1) hx hb hts in_X0_whyNotCalled_2 hown hK hP (by omega) (by omega) (hN.use nw_0_55) dX0_whyNotCalled_68 ?_
      refine lv_iload_n hx hb dX0_whyNotCalled_71 rfl (lv_at hl 3 rfl) ?_
      obtain ⟨j10, ej10⟩ : ∃ j : Nat, a2.toInt = (j : Int) := ⟨_, ti_nat (by omega)⟩
      refine ad_days8 (k := k1 + 327) (j := j10) hx hb hK hP (by omega) (by omega) ej10 (by omega) dX0_whyNotCalled_72 ?_
      refine lv_iload hx hb dX0_whyNotCalled_73 (lv_at hl 0 rfl) ?_
      refine r_icmp_ne (tgt := 80) hx hb dX0_whyNotCalled_75 (by decide) (fun c11 => ?_) (fun c11 => ?_)
      · refine lv_aload_n hx hb dX0_whyNotCalled_80 rfl (lv_at hl 2 rfl) ?_
        refine fgN_2_4 (k := k1) hx hb hts in_X0_whyNotCalled_2 hown hK hP (by omega) (by omega) (hN.use nw_0_58) dX0_whyNotCalled_81 ?_
        refine lv_iload_n hx hb dX0_whyNotCalled_84 rfl (lv_at hl 3 rfl) ?_
        refine ad_days8 (k := k1 + 314) (j := j10) hx hb hK hP (by omega) (by omega) ej10 (by omega) dX0_whyNotCalled_85 ?_
        refine r_if_ne (tgt := 93) hx hb dX0_whyNotCalled_86 (by decide) (fun c12 => ?_) (fun c12 => ?_)
        · refine r_iconst hx hb dX0_whyNotCalled_93 (by decide) (fun z13 ez13 => ?_)
          exact r_iret hx hb hr hK hP hS hk dX0_whyNotCalled_94 (show P_X0_whyNotCalled σ0 τ0 k1 a2 a3 z13 σ4 τ0 from ⟨hR, hF, hFL, by omega, by omega, by intro j hj hz; first | (exfalso; omega) | (have ej : j = j1 := (by omega); subst ej; omega)⟩)
        · refine r_iconst hx hb dX0_whyNotCalled_89 (by decide) (fun z14 ez14 => ?_)
          refine lv_goto (tgt := 94) hx hb dX0_whyNotCalled_90 (by decide) ?_
          exact r_iret hx hb hr hK hP hS hk dX0_whyNotCalled_94 (show P_X0_whyNotCalled σ0 τ0 k1 a2 a3 z14 σ4 τ0 from ⟨hR, hF, hFL, by omega, by omega, by intro j hj hz; first | (exfalso; omega) | (have ej : j = j1 := (by omega); subst ej; omega)⟩)
      · refine r_iconst hx hb dX0_whyNotCalled_78 (by decide) (fun z15 ez15 => ?_)
        exact r_iret hx hb hr hK hP hS hk dX0_whyNotCalled_79 (show P_X0_whyNotCalled σ0 τ0 k1 a2 a3 z15 σ4 τ0 from ⟨hR, hF, hFL, by omega, by omega, by intro j hj hz; first | (exfalso; omega) | (have ej : j = j1 := (by omega); subst ej; omega)⟩)
    · refine r_iconst hx hb dX0_whyNotCalled_65 (by decide) (fun z16 ez16 => ?_)
      exact r_iret hx hb hr hK hP hS hk dX0_whyNotCalled_66 (show P_X0_whyNotCalled σ0 τ0 k1 a2 a3 z16 σ4 τ0 from ⟨hR, hF, hFL, by omega, by omega, by intro j hj hz; first | (exfalso; omega) | (have ej : j = j1 := (by omega); subst ej; omega)⟩)
  · refine r_iconst hx hb dX0_whyNotCalled_24 (by decide) (fun z17 ez17 => ?_)
    exact r_iret hx hb hr hK hP hS hk dX0_whyNotCalled_25 (show P_X0_whyNotCalled σ0 τ0 k1 a2 a3 z17 σ0 τ0 from ⟨hR, hF, hFL, by omega, by omega, by intro j hj hz; first | (exfalso; omega) | (have ej : j = j1 := (by omega); subst ej; omega)⟩)
theorem in_X9_windAt_9 : ∀ w ∈ u_ws RX9 TX9 14, w ∈ wsX9_windAt := by decide +kernel
theorem lk_X9_windAt_43 : Cond.fieldLink RX9 43 "CuckooShares$Valley" "windWay" "I" ∈ wsX9_windAt := by decide +kernel
theorem lk_X9_windAt_46 : Cond.fieldLink RX9 46 "CuckooShares$Valley" "windForce" "I" ∈ wsX9_windAt := by decide +kernel
abbrev L_X9_windAt : List Rc := []
abbrev LL_X9_windAt : List Rc := []
def P_X9_windAt (σ0 : Nat → Nat → Int32) (τ0 : Nat → Nat → Int64) (a1 : Int32) (a2 : Int32) (k3 : Nat) (r : Int32) (σ : Nat → Nat → Int32) (τ : Nat → Nat → Int64) : Prop := Rg σ ∧ Fr L_X9_windAt σ0 σ ∧ FrL LL_X9_windAt τ0 τ
set_option maxHeartbeats 4000000 in
theorem c_X9_windAt (l : Launch) (D : va_G) (cA : Nat → ClassId) (ad : Nat → Nat) (hI : Inj ad) (σ0 : Nat → Nat → Int32) (τ0 : Nat → Nat → Int64) (hR : Rg σ0) (a1 : Int32) (a2 : Int32) (k3 : Nat) (hk3 : 148 ≤ k3 ∧ k3 ≤ 187) : Met l yX9_windAt wsX9_windAt ({ frames := 0, cells := 0, slots := 0, locals := 0 } : Room) (WQc D cA ad [.ref (ad 2), .int a1, .int a2, .ref (ad k3)] σ0 τ0) (va_Qi (fun (r : Int32) (u : SS) => P_X9_windAt σ0 τ0 a1 a2 k3 r u.1 u.2) (WB D cA ad) (AA ad)) 0 0 (AA ad) := by
  refine Met.ofW (cc := cX9_windAt) (maxL := 5) (ret := (some .int)) (by decide) rfl ?_
  intro p e s m args below meth c s₁ B hml hv
  obtain ⟨rfl, hP, hK, hN⟩ := hv
  have C : Cy p s m _ meth c cX9_windAt 5 wsX9_windAt RX9 D cA ad (some .int) := ⟨B.exec, B.bytes, hml, findClass_of_methodNamed B.named, atoms_spec (ws := wsX9_windAt) B.pre, hK, B.notSynchronized, B.returns, hI, hN⟩
  have hl := lv_entry ([.ref (ad 2), .int a1, .int a2, .ref (ad k3)]) (n := 5) (Nat.le_of_ble_eq_true rfl)
  rw [lg_entry_eq]
  generalize (lg_sl ([.ref (ad 2), .int a1, .int a2, .ref (ad k3)]) ++ List.replicate (5 - (lg_sl ([.ref (ad 2), .int a1, .int a2, .ref (ad k3)])).length) Slot.unset).toArray = ls at hl ⊢
  have hl : lv_has ls 5 [(0, .ref (ad 2)), (1, .int a1), (2, .int a2), (3, .ref (ad k3))] := hl
  have hS : va_S (AA ad) s.heap s.heap [] := va_S.rf
  have hF : Fr L_X9_windAt σ0 σ0 := Fr.rf
  have hFL : FrL LL_X9_windAt τ0 τ0 := FrL.rf
  obtain ⟨hx, hb, _, hown, hts, _, hk, hr, _, _⟩ := C
  refine lv_aload_n hx hb dX9_windAt_0 rfl (lv_at hl 0 rfl) ?_
  refine fg_9_2 (k := 2) hx hb hts in_X9_windAt_9 hown hK hP (by decide) (by decide) (hts _ lk_X9_windAt_43) dX9_windAt_1 ?_
  by_cases c1 : (σ0 2 2).toInt = 3
  · refine lv_tableIn (off := 32) (tgt := 36) hx hb dX9_windAt_4 (by omega) (by omega) (by rw [c1]; rfl) (by decide) ?_
    refine lv_iload_n hx hb dX9_windAt_36 rfl (lv_at hl 2 rfl) ?_
    refine lv_aload_n hx hb dX9_windAt_37 rfl (lv_at hl 3 rfl) ?_
    refine r_iconst hx hb dX9_windAt_38 (by decide) (fun z2 ez2 => ?_)
    refine ad_callR (k := k3) (j := 2) hx hb hK hP (by omega) (by omega) (by omega) (by omega) dX9_windAt_39 ?_
    refine r_icmp_ge (tgt := 47) hx hb dX9_windAt_40 (by decide) (fun c3 => ?_) (fun c3 => ?_)
    · refine r_iconst hx hb dX9_windAt_47 (by decide) (fun z4 ez4 => ?_)
      refine lv_istore (lv' := [(4, .int z4), (0, .ref (ad 2)), (1, .int a1), (2, .int a2), (3, .ref (ad k3))]) hx hb dX9_windAt_48 hl (by decide) rfl (fun ls hl => ?_)
      refine lv_goto (tgt := 107) hx hb dX9_windAt_50 (by decide) ?_
      refine lv_iload hx hb dX9_windAt_107 (lv_at hl 0 rfl) ?_
      refine r_if_eq (tgt := 119) hx hb dX9_windAt_109 (by decide) (fun c5 => ?_) (fun c5 => ?_)
      · refine r_iconst hx hb dX9_windAt_119 (by decide) (fun z6 ez6 => ?_)
        exact r_iret hx hb hr hK hP hS hk dX9_windAt_120 (show P_X9_windAt σ0 τ0 a1 a2 k3 z6 σ0 τ0 from ⟨hR, hF, hFL⟩)
      · exfalso; omega
    · refine r_iconst hx hb dX9_windAt_43 (by decide) (fun z7 ez7 => ?_)
      refine lv_goto (tgt := 48) hx hb dX9_windAt_44 (by decide) ?_
      refine lv_istore (lv' := [(4, .int z7), (0, .ref (ad 2)), (1, .int a1), (2, .int a2), (3, .ref (ad k3))]) hx hb dX9_windAt_48 hl (by decide) rfl (fun ls hl => ?_)
      refine lv_goto (tgt := 107) hx hb dX9_windAt_50 (by decide) ?_
      refine lv_iload hx hb dX9_windAt_107 (lv_at hl 0 rfl) ?_
      refine r_if_eq (tgt := 119) hx hb dX9_windAt_109 (by decide) (fun c8 => ?_) (fun c8 => ?_)
      · exfalso; omega
      · refine lv_aload_n hx hb dX9_windAt_112 rfl (lv_at hl 1 rfl) ?_
        refine fg_9_3 (k := 2) hx hb hts in_X9_windAt_9 hown hK hP (by decide) (by decide) (hts _ lk_X9_windAt_46) dX9_windAt_113 ?_
        refine lv_goto (tgt := 120) hx hb dX9_windAt_116 (by decide) ?_
        exact r_iret hx hb hr hK hP hS hk dX9_windAt_120 (show P_X9_windAt σ0 τ0 a1 a2 k3 (σ0 2 3) σ0 τ0 from ⟨hR, hF, hFL⟩)
  by_cases c9 : (σ0 2 2).toInt = 4
  · refine lv_tableIn (off := 49) (tgt := 53) hx hb dX9_windAt_4 (by omega) (by omega) (by rw [c9]; rfl) (by decide) ?_
    refine lv_iload_n hx hb dX9_windAt_53 rfl (lv_at hl 1 rfl) ?_
    refine lv_aload_n hx hb dX9_windAt_54 rfl (lv_at hl 3 rfl) ?_
    refine r_iconst hx hb dX9_windAt_55 (by decide) (fun z10 ez10 => ?_)
    refine ad_callR (k := k3) (j := 1) hx hb hK hP (by omega) (by omega) (by omega) (by omega) dX9_windAt_56 ?_
    refine r_icmp_le (tgt := 64) hx hb dX9_windAt_57 (by decide) (fun c11 => ?_) (fun c11 => ?_)
    · refine r_iconst hx hb dX9_windAt_64 (by decide) (fun z12 ez12 => ?_)
      refine lv_istore (lv' := [(4, .int z12), (0, .ref (ad 2)), (1, .int a1), (2, .int a2), (3, .ref (ad k3))]) hx hb dX9_windAt_65 hl (by decide) rfl (fun ls hl => ?_)
      refine lv_goto (tgt := 107) hx hb dX9_windAt_67 (by decide) ?_
      refine lv_iload hx hb dX9_windAt_107 (lv_at hl 0 rfl) ?_
      refine r_if_eq (tgt := 119) hx hb dX9_windAt_109 (by decide) (fun c13 => ?_) (fun c13 => ?_)
      · refine r_iconst hx hb dX9_windAt_119 (by decide) (fun z14 ez14 => ?_)
        exact r_iret hx hb hr hK hP hS hk dX9_windAt_120 (show P_X9_windAt σ0 τ0 a1 a2 k3 z14 σ0 τ0 from ⟨hR, hF, hFL⟩)
      · exfalso; omega
    · refine r_iconst hx hb dX9_windAt_60 (by decide) (fun z15 ez15 => ?_)
      refine lv_goto (tgt := 65) hx hb dX9_windAt_61 (by decide) ?_
      refine lv_istore (lv' := [(4, .int z15), (0, .ref (ad 2)), (1, .int a1), (2, .int a2), (3, .ref (ad k3))]) hx hb dX9_windAt_65 hl (by decide) rfl (fun ls hl => ?_)
      refine lv_goto (tgt := 107) hx hb dX9_windAt_67 (by decide) ?_
      refine lv_iload hx hb dX9_windAt_107 (lv_at hl 0 rfl) ?_
      refine r_if_eq (tgt := 119) hx hb dX9_windAt_109 (by decide) (fun c16 => ?_) (fun c16 => ?_)
      · exfalso; omega
      · refine lv_aload_n hx hb dX9_windAt_112 rfl (lv_at hl 1 rfl) ?_
        refine fg_9_3 (k := 2) hx hb hts in_X9_windAt_9 hown hK hP (by decide) (by decide) (hts _ lk_X9_windAt_46) dX9_windAt_113 ?_
        refine lv_goto (tgt := 120) hx hb dX9_windAt_116 (by decide) ?_
        exact r_iret hx hb hr hK hP hS hk dX9_windAt_120 (show P_X9_windAt σ0 τ0 a1 a2 k3 (σ0 2 3) σ0 τ0 from ⟨hR, hF, hFL⟩)
  by_cases c17 : (σ0 2 2).toInt = 5
  · refine lv_tableIn (off := 66) (tgt := 70) hx hb dX9_windAt_4 (by omega) (by omega) (by rw [c17]; rfl) (by decide) ?_
    refine lv_iload_n hx hb dX9_windAt_70 rfl (lv_at hl 2 rfl) ?_
    refine lv_aload_n hx hb dX9_windAt_71 rfl (lv_at hl 3 rfl) ?_
    refine r_iconst hx hb dX9_windAt_72 (by decide) (fun z18 ez18 => ?_)
    refine ad_callR (k := k3) (j := 2) hx hb hK hP (by omega) (by omega) (by omega) (by omega) dX9_windAt_73 ?_
    refine r_icmp_le (tgt := 81) hx hb dX9_windAt_74 (by decide) (fun c19 => ?_) (fun c19 => ?_)
    · refine r_iconst hx hb dX9_windAt_81 (by decide) (fun z20 ez20 => ?_)
      refine lv_istore (lv' := [(4, .int z20), (0, .ref (ad 2)), (1, .int a1), (2, .int a2), (3, .ref (ad k3))]) hx hb dX9_windAt_82 hl (by decide) rfl (fun ls hl => ?_)
      refine lv_goto (tgt := 107) hx hb dX9_windAt_84 (by decide) ?_
      refine lv_iload hx hb dX9_windAt_107 (lv_at hl 0 rfl) ?_
      refine r_if_eq (tgt := 119) hx hb dX9_windAt_109 (by decide) (fun c21 => ?_) (fun c21 => ?_)
      · refine r_iconst hx hb dX9_windAt_119 (by decide) (fun z22 ez22 => ?_)
        exact r_iret hx hb hr hK hP hS hk dX9_windAt_120 (show P_X9_windAt σ0 τ0 a1 a2 k3 z22 σ0 τ0 from ⟨hR, hF, hFL⟩)
      · exfalso; omega
    · refine r_iconst hx hb dX9_windAt_77 (by decide) (fun z23 ez23 => ?_)
      refine lv_goto (tgt := 82) hx hb dX9_windAt_78 (by decide) ?_
      refine lv_istore (lv' := [(4, .int z23), (0, .ref (ad 2)), (1, .int a1), (2, .int a2), (3, .ref (ad k3))]) hx hb dX9_windAt_82 hl (by decide) rfl (fun ls hl => ?_)
      refine lv_goto (tgt := 107) hx hb dX9_windAt_84 (by decide) ?_
      refine lv_iload hx hb dX9_windAt_107 (lv_at hl 0 rfl) ?_
      refine r_if_eq (tgt := 119) hx hb dX9_windAt_109 (by decide) (fun c24 => ?_) (fun c24 => ?_)
      · exfalso; omega
      · refine lv_aload_n hx hb dX9_windAt_112 rfl (lv_at hl 1 rfl) ?_
        refine fg_9_3 (k := 2) hx hb hts in_X9_windAt_9 hown hK hP (by decide) (by decide) (hts _ lk_X9_windAt_46) dX9_windAt_113 ?_
        refine lv_goto (tgt := 120) hx hb dX9_windAt_116 (by decide) ?_
        exact r_iret hx hb hr hK hP hS hk dX9_windAt_120 (show P_X9_windAt σ0 τ0 a1 a2 k3 (σ0 2 3) σ0 τ0 from ⟨hR, hF, hFL⟩)
  by_cases c25 : (σ0 2 2).toInt = 6
  · refine lv_tableIn (off := 83) (tgt := 87) hx hb dX9_windAt_4 (by omega) (by omega) (by rw [c25]; rfl) (by decide) ?_
    refine lv_iload_n hx hb dX9_windAt_87 rfl (lv_at hl 1 rfl) ?_
    refine lv_aload_n hx hb dX9_windAt_88 rfl (lv_at hl 3 rfl) ?_
    refine r_iconst hx hb dX9_windAt_89 (by decide) (fun z26 ez26 => ?_)
    refine ad_callR (k := k3) (j := 1) hx hb hK hP (by omega) (by omega) (by omega) (by omega) dX9_windAt_90 ?_
    refine r_icmp_ge (tgt := 98) hx hb dX9_windAt_91 (by decide) (fun c27 => ?_) (fun c27 => ?_)
    · refine r_iconst hx hb dX9_windAt_98 (by decide) (fun z28 ez28 => ?_)
      refine lv_istore (lv' := [(4, .int z28), (0, .ref (ad 2)), (1, .int a1), (2, .int a2), (3, .ref (ad k3))]) hx hb dX9_windAt_99 hl (by decide) rfl (fun ls hl => ?_)
      refine lv_goto (tgt := 107) hx hb dX9_windAt_101 (by decide) ?_
      refine lv_iload hx hb dX9_windAt_107 (lv_at hl 0 rfl) ?_
      refine r_if_eq (tgt := 119) hx hb dX9_windAt_109 (by decide) (fun c29 => ?_) (fun c29 => ?_)
      · refine r_iconst hx hb dX9_windAt_119 (by decide) (fun z30 ez30 => ?_)
        exact r_iret hx hb hr hK hP hS hk dX9_windAt_120 (show P_X9_windAt σ0 τ0 a1 a2 k3 z30 σ0 τ0 from ⟨hR, hF, hFL⟩)
      · exfalso; omega
    · refine r_iconst hx hb dX9_windAt_94 (by decide) (fun z31 ez31 => ?_)
      refine lv_goto (tgt := 99) hx hb dX9_windAt_95 (by decide) ?_
      refine lv_istore (lv' := [(4, .int z31), (0, .ref (ad 2)), (1, .int a1), (2, .int a2), (3, .ref (ad k3))]) hx hb dX9_windAt_99 hl (by decide) rfl (fun ls hl => ?_)
      refine lv_goto (tgt := 107) hx hb dX9_windAt_101 (by decide) ?_
      refine lv_iload hx hb dX9_windAt_107 (lv_at hl 0 rfl) ?_
      refine r_if_eq (tgt := 119) hx hb dX9_windAt_109 (by decide) (fun c32 => ?_) (fun c32 => ?_)
      · exfalso; omega
      · refine lv_aload_n hx hb dX9_windAt_112 rfl (lv_at hl 1 rfl) ?_
        refine fg_9_3 (k := 2) hx hb hts in_X9_windAt_9 hown hK hP (by decide) (by decide) (hts _ lk_X9_windAt_46) dX9_windAt_113 ?_
        refine lv_goto (tgt := 120) hx hb dX9_windAt_116 (by decide) ?_
        exact r_iret hx hb hr hK hP hS hk dX9_windAt_120 (show P_X9_windAt σ0 τ0 a1 a2 k3 (σ0 2 3) σ0 τ0 from ⟨hR, hF, hFL⟩)
  refine lv_tableOut (tgt := 104) hx hb dX9_windAt_4 (by omega) (by decide) ?_
  refine r_iconst hx hb dX9_windAt_104 (by decide) (fun z33 ez33 => ?_)
  refine lv_istore (lv' := [(4, .int z33), (0, .ref (ad 2)), (1, .int a1), (2, .int a2), (3, .ref (ad k3))]) hx hb dX9_windAt_105 hl (by decide) rfl (fun ls hl => ?_)
  refine lv_iload hx hb dX9_windAt_107 (lv_at hl 0 rfl) ?_
  refine r_if_eq (tgt := 119) hx hb dX9_windAt_109 (by decide) (fun c34 => ?_) (fun c34 => ?_)
  · refine r_iconst hx hb dX9_windAt_119 (by decide) (fun z35 ez35 => ?_)
    exact r_iret hx hb hr hK hP hS hk dX9_windAt_120 (show P_X9_windAt σ0 τ0 a1 a2 k3 z35 σ0 τ0 from ⟨hR, hF, hFL⟩)
  · exfalso; omega
theorem in_X1_reaches_1 : ∀ w ∈ u_ws RX1 TX1 9, w ∈ wsX1_reaches := by decide +kernel
theorem in_X1_reaches_9 : ∀ w ∈ u_ws RX9 TX9 14, w ∈ wsX1_reaches := by decide +kernel
theorem lk_X1_reaches_15 : Cond.fieldLink RX1 15 "CuckooShares$Camp" "y" "[I" ∈ wsX1_reaches := by decide +kernel
theorem lk_X1_reaches_18 : Cond.fieldLink RX1 18 "CuckooShares$Camp" "fall" "[I" ∈ wsX1_reaches := by decide +kernel
theorem lk_X1_reaches_36 : Cond.fieldLink RX1 36 "CuckooShares$Camp" "valley" "LCuckooShares$Valley;" ∈ wsX1_reaches := by decide +kernel
theorem lk_X1_reaches_9 : Cond.fieldLink RX1 9 "CuckooShares$Camp" "x" "[I" ∈ wsX1_reaches := by decide +kernel
abbrev L_X1_reaches : List Rc := []
abbrev LL_X1_reaches : List Rc := []
def P_X1_reaches (σ0 : Nat → Nat → Int32) (τ0 : Nat → Nat → Int64) (a1 : Int32) (a2 : Int32) (a3 : Int32) (r : Int32) (σ : Nat → Nat → Int32) (τ : Nat → Nat → Int64) : Prop := Rg σ ∧ Fr L_X1_reaches σ0 σ ∧ FrL LL_X1_reaches τ0 τ ∧ (0 ≤ r.toInt ∧ r.toInt ≤ 1)
set_option maxHeartbeats 4000000 in
theorem c_X1_reaches (l : Launch) (D : va_G) (cA : Nat → ClassId) (ad : Nat → Nat) (hI : Inj ad) (σ0 : Nat → Nat → Int32) (τ0 : Nat → Nat → Int64) (hR : Rg σ0) (a1 : Int32) (a2 : Int32) (a3 : Int32) (ha1 : 0 ≤ a1.toInt ∧ a1.toInt ≤ 7) (ha2 : 0 ≤ a2.toInt ∧ a2.toInt ≤ 3) (ha3 : 0 ≤ a3.toInt ∧ a3.toInt ≤ 9) : Met l yX1_reaches wsX1_reaches ({ frames := 2, cells := 0, slots := 0, locals := 46 } : Room) (WQc D cA ad [.ref (ad 21), .int a1, .int a2, .int a3] σ0 τ0) (va_Qi (fun (r : Int32) (u : SS) => P_X1_reaches σ0 τ0 a1 a2 a3 r u.1 u.2) (WB D cA ad) (AA ad)) 0 0 (AA ad) := by
  refine Met.ofW (cc := cX1_reaches) (maxL := 6) (ret := (some .boolean)) (by decide) rfl ?_
  intro p e s m args below meth c s₁ B hml hv
  obtain ⟨rfl, hP, hK, hN⟩ := hv
  have C : Cy p s m _ meth c cX1_reaches 6 wsX1_reaches RX1 D cA ad (some .boolean) := ⟨B.exec, B.bytes, hml, findClass_of_methodNamed B.named, atoms_spec (ws := wsX1_reaches) B.pre, hK, B.notSynchronized, B.returns, hI, hN⟩
  have hl := lv_entry ([.ref (ad 21), .int a1, .int a2, .int a3]) (n := 6) (Nat.le_of_ble_eq_true rfl)
  rw [lg_entry_eq]
  generalize (lg_sl ([.ref (ad 21), .int a1, .int a2, .int a3]) ++ List.replicate (6 - (lg_sl ([.ref (ad 21), .int a1, .int a2, .int a3])).length) Slot.unset).toArray = ls at hl ⊢
  have hl : lv_has ls 6 [(0, .ref (ad 21)), (1, .int a1), (2, .int a2), (3, .int a3)] := hl
  have hS : va_S (AA ad) s.heap s.heap [] := va_S.rf
  have hF : Fr L_X1_reaches σ0 σ0 := Fr.rf
  have hFL : FrL LL_X1_reaches τ0 τ0 := FrL.rf
  obtain ⟨hx, hb, _, hown, hts, _, hk, hr, _, _⟩ := C
  refine lv_aload_n hx hb dX1_reaches_0 rfl (lv_at hl 0 rfl) ?_
  refine fg_1_0 (k := 21) hx hb hts in_X1_reaches_1 hown hK hP (by decide) (by decide) (hts _ lk_X1_reaches_36) dX1_reaches_1 ?_
  refine lv_iload_n hx hb dX1_reaches_4 rfl (lv_at hl 2 rfl) ?_
  refine lv_iload_n hx hb dX1_reaches_5 rfl (lv_at hl 3 rfl) ?_
  refine r_cVr (k := 2) (As := [.int a2, .int a3]) (rest := []) ⟨hx, hb, hml, hown, hts⟩ hK hP hN hS (c_X9_callRow l D cA ad hI σ0 τ0 hR a2 a3 (by omega) (by omega)) (cwV 2 hts gX1_reaches_X9_callRow rfl rfl rfl (by decide +kernel) ⟨by decide, by decide⟩) (rv_Valley hK hP (by decide) (by decide)) rfl hl.1 rfl (Nat.le_of_ble_eq_true rfl) dX1_reaches_6 (Nat.zero_le _) (Nat.zero_le _) (fun r1 u1 H1 locs1 hp1 hP hS => ?_)
  obtain ⟨σ1, τ1⟩ := u1
  obtain ⟨hR, f1, fL1, hq1⟩ : P_X9_callRow ad σ0 τ0 a2 a3 r1 σ1 τ1 := hp1
  have hP : va_P D vwCl (gw cA ad σ1 τ1) H1 := hP
  obtain rfl := FrL.nil fL1
  obtain rfl := Fr.nil f1
  obtain ⟨q1, rfl, hq1a, hq1b⟩ := hq1
  refine lv_astore (lv' := [(4, .ref (ad q1)), (0, .ref (ad 21)), (1, .int a1), (2, .int a2), (3, .int a3)]) hx hb dX1_reaches_9 hl (by decide) rfl (fun ls hl => ?_)
  refine lv_aload_n hx hb dX1_reaches_11 rfl (lv_at hl 1 rfl) ?_
  refine fg_1_0 (k := 21) hx hb hts in_X1_reaches_1 hown hK hP (by decide) (by decide) (hts _ lk_X1_reaches_36) dX1_reaches_12 ?_
  refine fgN_9_10 (k := 2) hx hb hts in_X1_reaches_9 hown hK hP (by decide) (by decide) (hN.use nw_1_76) dX1_reaches_15 ?_
  refine lv_iload_n hx hb dX1_reaches_18 rfl (lv_at hl 2 rfl) ?_
  obtain ⟨j2, ej2⟩ : ∃ j : Nat, a1.toInt = (j : Int) := ⟨_, ti_nat (by omega)⟩
  refine ad_manA (k := 52) (j := j2) hx hb hK hP (by decide) (by decide) ej2 (by omega) dX1_reaches_19 ?_
  refine r_iconst hx hb dX1_reaches_20 (by decide) (fun z3 ez3 => ?_)
  refine ad_manR (k := 100 + j2) (j := 1) hx hb hK hP (by omega) (by omega) (by omega) (by omega) dX1_reaches_21 ?_
  refine lv_aload_n hx hb dX1_reaches_22 rfl (lv_at hl 1 rfl) ?_
  refine fg_1_0 (k := 21) hx hb hts in_X1_reaches_1 hown hK hP (by decide) (by decide) (hts _ lk_X1_reaches_36) dX1_reaches_23 ?_
  refine fgN_9_11 (k := 2) hx hb hts in_X1_reaches_9 hown hK hP (by decide) (by decide) (hN.use nw_1_79) dX1_reaches_26 ?_
  refine lv_iload_n hx hb dX1_reaches_29 rfl (lv_at hl 3 rfl) ?_
  obtain ⟨j4, ej4⟩ : ∃ j : Nat, a2.toInt = (j : Int) := ⟨_, ti_nat (by omega)⟩
  refine ad_flightA (k := 56) (j := j4) hx hb hK hP (by decide) (by decide) ej4 (by omega) dX1_reaches_30 ?_
  refine r_iconst hx hb dX1_reaches_31 (by decide) (fun z5 ez5 => ?_)
  refine ad_flightR (k := 132 + j4) (j := 1) hx hb hK hP (by omega) (by omega) (by omega) (by omega) dX1_reaches_32 ?_
  refine r_iaddU hx hb dX1_reaches_33 (fun z6 => ?_)
  refine lv_aload_n hx hb dX1_reaches_34 rfl (lv_at hl 1 rfl) ?_
  refine fg_1_3 (k := 21) hx hb hts in_X1_reaches_1 hown hK hP (by decide) (by decide) (hts _ lk_X1_reaches_18) dX1_reaches_35 ?_
  refine lv_iload_n hx hb dX1_reaches_38 rfl (lv_at hl 2 rfl) ?_
  refine ad_xyf (k := 362) (j := j2) hx hb hK hP (by decide) (by decide) ej2 (by omega) dX1_reaches_39 ?_
  refine r_isubU hx hb dX1_reaches_40 (fun z7 => ?_)
  refine lv_aload_n hx hb dX1_reaches_41 rfl (lv_at hl 1 rfl) ?_
  refine fg_1_0 (k := 21) hx hb hts in_X1_reaches_1 hown hK hP (by decide) (by decide) (hts _ lk_X1_reaches_36) dX1_reaches_42 ?_
  refine lv_aload_n hx hb dX1_reaches_45 rfl (lv_at hl 1 rfl) ?_
  refine fg_1_1 (k := 21) hx hb hts in_X1_reaches_1 hown hK hP (by decide) (by decide) (hts _ lk_X1_reaches_9) dX1_reaches_46 ?_
  refine lv_iload_n hx hb dX1_reaches_49 rfl (lv_at hl 2 rfl) ?_
  refine ad_xyf (k := 360) (j := j2) hx hb hK hP (by decide) (by decide) ej2 (by omega) dX1_reaches_50 ?_
  refine lv_aload_n hx hb dX1_reaches_51 rfl (lv_at hl 1 rfl) ?_
  refine fg_1_2 (k := 21) hx hb hts in_X1_reaches_1 hown hK hP (by decide) (by decide) (hts _ lk_X1_reaches_15) dX1_reaches_52 ?_
  refine lv_iload_n hx hb dX1_reaches_55 rfl (lv_at hl 2 rfl) ?_
  refine ad_xyf (k := 361) (j := j2) hx hb hK hP (by decide) (by decide) ej2 (by omega) dX1_reaches_56 ?_
  refine lv_aload hx hb dX1_reaches_57 (lv_at hl 0 rfl) ?_
  refine r_cVi (k := 2) (As := [.int (σ0 360 j2), .int (σ0 361 j2), .ref (ad q1)]) (rest := [.int z7]) ⟨hx, hb, hml, hown, hts⟩ hK hP hN hS (c_X9_windAt l D cA ad hI σ0 τ0 hR (σ0 360 j2) (σ0 361 j2) q1 ⟨by omega, by omega⟩) (cwV 3 hts gX1_reaches_X9_windAt rfl rfl rfl (by decide +kernel) ⟨by decide, by decide⟩) (rv_Valley hK hP (by decide) (by decide)) rfl hl.1 rfl (Nat.le_of_ble_eq_true rfl) dX1_reaches_59 (Nat.zero_le _) (Nat.zero_le _) (fun r8 u8 H8 locs8 hp8 hP hS => ?_)
  obtain ⟨σ8, τ8⟩ := u8
  obtain ⟨hR, f8, fL8⟩ : P_X9_windAt σ0 τ0 (σ0 360 j2) (σ0 361 j2) q1 r8 σ8 τ8 := hp8
  have hP : va_P D vwCl (gw cA ad σ8 τ8) H8 := hP
  obtain rfl := FrL.nil fL8
  obtain rfl := Fr.nil f8
  refine r_iaddU hx hb dX1_reaches_62 (fun z9 => ?_)
  refine lv_istore (lv' := [(5, .int z9), (4, .ref (ad q1)), (0, .ref (ad 21)), (1, .int a1), (2, .int a2), (3, .int a3)]) hx hb dX1_reaches_63 hl (by decide) rfl (fun ls hl => ?_)
  refine lv_aload_n hx hb dX1_reaches_65 rfl (lv_at hl 2 rfl) ?_
  refine fg_1_0 (k := 21) hx hb hts in_X1_reaches_1 hown hK hP (by decide) (by decide) (hts _ lk_X1_reaches_36) dX1_reaches_66 ?_
  refine lv_aload_n hx hb dX1_reaches_69 rfl (lv_at hl 2 rfl) ?_
  refine fg_1_1 (k := 21) hx hb hts in_X1_reaches_1 hown hK hP (by decide) (by decide) (hts _ lk_X1_reaches_9) dX1_reaches_70 ?_
  refine lv_iload_n hx hb dX1_reaches_73 rfl (lv_at hl 3 rfl) ?_
  refine ad_xyf (k := 360) (j := j2) hx hb hK hP (by decide) (by decide) ej2 (by omega) dX1_reaches_74 ?_
  refine r_cVi (k := 2) (As := [.int (σ0 360 j2)]) (rest := []) ⟨hx, hb, hml, hown, hts⟩ hK hP hN hS (c_X9_side l D cA ad hI σ0 τ0 hR (σ0 360 j2)) (cwV 1 hts gX1_reaches_X9_side rfl rfl rfl (by decide +kernel) ⟨by decide, by decide⟩) (rv_Valley hK hP (by decide) (by decide)) rfl hl.1 rfl (Nat.le_of_ble_eq_true rfl) dX1_reaches_75 (Nat.zero_le _) (Nat.zero_le _) (fun r10 u10 H10 locs10 hp10 hP hS => ?_)
  obtain ⟨σ10, τ10⟩ := u10
  obtain ⟨hR, f10, fL10, hq10, hp10_0⟩ : P_X9_side σ0 τ0 (σ0 360 j2) r10 σ10 τ10 := hp10
  have hP : va_P D vwCl (gw cA ad σ10 τ10) H10 := hP
  obtain rfl := FrL.nil fL10
  obtain rfl := Fr.nil f10
  refine lv_aload_n hx hb dX1_reaches_78 rfl (lv_at hl 2 rfl) ?_
  refine fg_1_0 (k := 21) hx hb hts in_X1_reaches_1 hown hK hP (by decide) (by decide) (hts _ lk_X1_reaches_36) dX1_reaches_79 ?_
  refine lv_aload hx hb dX1_reaches_82 (lv_at hl 1 rfl) ?_
  refine r_iconst hx hb dX1_reaches_84 (by decide) (fun z11 ez11 => ?_)
  refine ad_callR (k := q1) (j := 1) hx hb hK hP (by omega) (by omega) (by omega) (by omega) dX1_reaches_85 ?_
  refine r_cVi (k := 2) (As := [.int (σ0 q1 1)]) (rest := [.int r10]) ⟨hx, hb, hml, hown, hts⟩ hK hP hN hS (c_X9_side l D cA ad hI σ0 τ0 hR (σ0 q1 1)) (cwV 1 hts gX1_reaches_X9_side rfl rfl rfl (by decide +kernel) ⟨by decide, by decide⟩) (rv_Valley hK hP (by decide) (by decide)) rfl hl.1 rfl (Nat.le_of_ble_eq_true rfl) dX1_reaches_86 (Nat.zero_le _) (Nat.zero_le _) (fun r12 u12 H12 locs12 hp12 hP hS => ?_)
  obtain ⟨σ12, τ12⟩ := u12
  obtain ⟨hR, f12, fL12, hq12, hp12_0⟩ : P_X9_side σ0 τ0 (σ0 q1 1) r12 σ12 τ12 := hp12
  have hP : va_P D vwCl (gw cA ad σ12 τ12) H12 := hP
  obtain rfl := FrL.nil fL12
  obtain rfl := Fr.nil f12
  refine r_icmp_eq (tgt := 95) hx hb dX1_reaches_89 (by decide) (fun c13 => ?_) (fun c13 => ?_)
  · refine lv_aload_n hx hb dX1_reaches_95 rfl (lv_at hl 2 rfl) ?_
    refine lv_iload_n hx hb dX1_reaches_96 rfl (lv_at hl 3 rfl) ?_
    refine lv_iload_n hx hb dX1_reaches_97 rfl (lv_at hl 4 rfl) ?_
    refine lv_iload_n hx hb dX1_reaches_98 rfl (lv_at hl 5 rfl) ?_
    refine r_cVi (k := 21) (As := [.int a1, .int a2, .int a3]) (rest := []) ⟨hx, hb, hml, hown, hts⟩ hK hP hN hS (c_X1_distance l D cA ad hI σ0 τ0 hR a1 a2 a3 (by omega) (by omega) (by omega)) (cwV 3 hts gX1_reaches_X1_distance rfl rfl rfl (by decide +kernel) ⟨by decide, by decide⟩) (rv_Camp hK hP (by decide) (by decide)) rfl hl.1 rfl (Nat.le_of_ble_eq_true rfl) dX1_reaches_99 (Nat.zero_le _) (Nat.zero_le _) (fun r14 u14 H14 locs14 hp14 hP hS => ?_)
    obtain ⟨σ14, τ14⟩ := u14
    obtain ⟨hR, f14, fL14⟩ : P_X1_distance σ0 τ0 a1 a2 a3 r14 σ14 τ14 := hp14
    have hP : va_P D vwCl (gw cA ad σ14 τ14) H14 := hP
    obtain rfl := FrL.nil fL14
    obtain rfl := Fr.nil f14
    refine lv_iload hx hb dX1_reaches_102 (lv_at hl 0 rfl) ?_
    refine r_icmp_gt (tgt := 111) hx hb dX1_reaches_104 (by decide) (fun c15 => ?_) (fun c15 => ?_)
    · refine r_iconst hx hb dX1_reaches_111 (by decide) (fun z16 ez16 => ?_)
      exact r_zret hx hb hr hK hP hS hk (by omega) dX1_reaches_112 (show P_X1_reaches σ0 τ0 a1 a2 a3 z16 σ0 τ0 from ⟨hR, hF, hFL, by omega⟩)
    · refine r_iconst hx hb dX1_reaches_107 (by decide) (fun z17 ez17 => ?_)
      refine lv_goto (tgt := 112) hx hb dX1_reaches_108 (by decide) ?_
      exact r_zret hx hb hr hK hP hS hk (by omega) dX1_reaches_112 (show P_X1_reaches σ0 τ0 a1 a2 a3 z17 σ0 τ0 from ⟨hR, hF, hFL, by omega⟩)
  · refine r_iincU (k := 0) (lv1 := fun z18 => [(5, .int z18), (4, .ref (ad q1)), (0, .ref (ad 21)), (1, .int a1), (2, .int a2), (3, .int a3)]) hx hb dX1_reaches_92 hl rfl (by decide) (fun _ => rfl) (fun z18 ls hl => ?_)
    refine lv_aload_n hx hb dX1_reaches_95 rfl (lv_at hl 2 rfl) ?_
    refine lv_iload_n hx hb dX1_reaches_96 rfl (lv_at hl 3 rfl) ?_
    refine lv_iload_n hx hb dX1_reaches_97 rfl (lv_at hl 4 rfl) ?_
    refine lv_iload_n hx hb dX1_reaches_98 rfl (lv_at hl 5 rfl) ?_
    refine r_cVi (k := 21) (As := [.int a1, .int a2, .int a3]) (rest := []) ⟨hx, hb, hml, hown, hts⟩ hK hP hN hS (c_X1_distance l D cA ad hI σ0 τ0 hR a1 a2 a3 (by omega) (by omega) (by omega)) (cwV 3 hts gX1_reaches_X1_distance rfl rfl rfl (by decide +kernel) ⟨by decide, by decide⟩) (rv_Camp hK hP (by decide) (by decide)) rfl hl.1 rfl (Nat.le_of_ble_eq_true rfl) dX1_reaches_99 (Nat.zero_le _) (Nat.zero_le _) (fun r19 u19 H19 locs19 hp19 hP hS => ?_)
    obtain ⟨σ19, τ19⟩ := u19
    obtain ⟨hR, f19, fL19⟩ : P_X1_distance σ0 τ0 a1 a2 a3 r19 σ19 τ19 := hp19
    have hP : va_P D vwCl (gw cA ad σ19 τ19) H19 := hP
    obtain rfl := FrL.nil fL19
    obtain rfl := Fr.nil f19
    refine lv_iload hx hb dX1_reaches_102 (lv_at hl 0 rfl) ?_
    refine r_icmp_gt (tgt := 111) hx hb dX1_reaches_104 (by decide) (fun c20 => ?_) (fun c20 => ?_)
    · refine r_iconst hx hb dX1_reaches_111 (by decide) (fun z21 ez21 => ?_)
      exact r_zret hx hb hr hK hP hS hk (by omega) dX1_reaches_112 (show P_X1_reaches σ0 τ0 a1 a2 a3 z21 σ0 τ0 from ⟨hR, hF, hFL, by omega⟩)
    · refine r_iconst hx hb dX1_reaches_107 (by decide) (fun z22 ez22 => ?_)
      refine lv_goto (tgt := 112) hx hb dX1_reaches_108 (by decide) ?_
      exact r_zret hx hb hr hK hP hS hk (by omega) dX1_reaches_112 (show P_X1_reaches σ0 τ0 a1 a2 a3 z22 σ0 τ0 from ⟨hR, hF, hFL, by omega⟩)
