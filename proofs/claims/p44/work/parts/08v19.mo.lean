theorem in_X12_operand_12 : ∀ w ∈ u_ws RX12 TX12 47, w ∈ wsX12_operand := by decide +kernel
theorem lk_X12_operand_131 : Cond.constantLong RX12 131 (7237492) ∈ wsX12_operand := by decide +kernel
theorem lk_X12_operand_159 : Cond.fieldLink RX12 159 "CuckooSharesModel" "token" "I" ∈ wsX12_operand := by decide +kernel
theorem lk_X12_operand_169 : Cond.fieldLink RX12 169 "CuckooSharesModel" "number" "I" ∈ wsX12_operand := by decide +kernel
theorem lk_X12_operand_195 : Cond.fieldLink RX12 195 "CuckooSharesModel" "got" "I" ∈ wsX12_operand := by decide +kernel
theorem lk_X12_operand_33 : Cond.fieldLink RX12 33 "CuckooSharesModel" "s" "[I" ∈ wsX12_operand := by decide +kernel
theorem lk_X12_operand_434 : Cond.fieldLink RX12 434 "CuckooSharesModel" "top" "I" ∈ wsX12_operand := by decide +kernel
theorem lk_X12_operand_440 : Cond.fieldLink RX12 440 "CuckooSharesModel" "deep" "I" ∈ wsX12_operand := by decide +kernel
theorem lk_X12_operand_446 : Cond.fieldLink RX12 446 "CuckooSharesModel" "ones" "I" ∈ wsX12_operand := by decide +kernel
theorem lk_X12_operand_449 : Cond.fieldLink RX12 449 "CuckooSharesModel" "isWhole" "Z" ∈ wsX12_operand := by decide +kernel
theorem lk_X12_operand_71 : Cond.fieldLink RX12 71 "CuckooSharesModel" "stack" "[I" ∈ wsX12_operand := by decide +kernel
abbrev L_X12_operand : List Rc := [(387, 387, 4, 4), (387, 387, 11, 16), (401, 401, 0, 40), (391, 391, 0, 119), (387, 387, 38, 42), (387, 387, 18, 18)]
abbrev LL_X12_operand : List Rc := [(387, 387, 17, 17)]
def P_X12_operand (σ0 : Nat → Nat → Int32) (τ0 : Nat → Nat → Int64)  (r : Int32) (σ : Nat → Nat → Int32) (τ : Nat → Nat → Int64) : Prop := Rg σ ∧ Fr L_X12_operand σ0 σ ∧ FrL LL_X12_operand τ0 τ ∧ (0 ≤ r.toInt ∧ r.toInt ≤ 1) ∧ (r.toInt = 0 ∨ PV σ) ∧ (r.toInt = 0 ∨ (σ 387 38).toInt + (σ 387 40).toInt + (σ 387 42).toInt ≤ 2 * (σ 387 39).toInt) ∧ (r.toInt = 0 ∨ ((σ 387 39).toInt = (σ0 387 39).toInt + 1 ∧ (σ 387 40).toInt ≤ (σ0 387 40).toInt + 1))
set_option maxHeartbeats 4000000 in
theorem c_X12_operand (l : Launch) (D : va_G) (cA : Nat → ClassId) (ad : Nat → Nat) (hI : Inj ad) (σ0 : Nat → Nat → Int32) (τ0 : Nat → Nat → Int64) (hR : Rg σ0)  (hpre0 : (σ0 387 42).toInt = 0) (hpre1 : (σ0 387 38).toInt + (σ0 387 40).toInt ≤ 2 * (σ0 387 39).toInt) (gPV0 : PV σ0) : Met l yX12_operand wsX12_operand ({ frames := 2, cells := 0, slots := 0, locals := 45 } : Room) (WQc D cA ad [.ref (ad 387)] σ0 τ0) (va_Qi (fun (r : Int32) (u : SS) => P_X12_operand σ0 τ0 r u.1 u.2) (WB D cA ad) (AA ad)) 0 0 (AA ad) := by
  refine Met.ofW (cc := cX12_operand) (maxL := 5) (ret := (some .boolean)) (by decide) rfl ?_
  intro p e s m args below meth c s₁ B hml hv
  obtain ⟨rfl, hP, hK, hN⟩ := hv
  have C : Cy p s m _ meth c cX12_operand 5 wsX12_operand RX12 D cA ad (some .boolean) := ⟨B.exec, B.bytes, hml, findClass_of_methodNamed B.named, atoms_spec (ws := wsX12_operand) B.pre, hK, B.notSynchronized, B.returns, hI, hN⟩
  have hl := lv_entry ([.ref (ad 387)]) (n := 5) (Nat.le_of_ble_eq_true rfl)
  rw [lg_entry_eq]
  generalize (lg_sl ([.ref (ad 387)]) ++ List.replicate (5 - (lg_sl ([.ref (ad 387)])).length) Slot.unset).toArray = ls at hl ⊢
  have hl : lv_has ls 5 [(0, .ref (ad 387))] := hl
  have hS : va_S (AA ad) s.heap s.heap [] := va_S.rf
  have hF : Fr L_X12_operand σ0 σ0 := Fr.rf
  have hFL : FrL LL_X12_operand τ0 τ0 := FrL.rf
  have gPV := gPV0
  obtain ⟨hx, hb, _, hown, hts, _, hk, hr, _, _⟩ := C
  have hrt38 := rg_12_38 hR (k := 387) (by decide) (by decide)
  have hrt39 := rg_12_39 hR (k := 387) (by decide) (by decide)
  have hrt40 := rg_12_40 hR (k := 387) (by decide) (by decide)
  have hrt42 := rg_12_42 hR (k := 387) (by decide) (by decide)
  have gPW := gPV.toPW (by omega)
  refine lv_aload_n hx hb dX12_operand_0 rfl (lv_at hl 0 rfl) ?_
  refine lv_ldc2 (v := 7237492) hx hb hown (hts _ lk_X12_operand_131) dX12_operand_1 ?_
  refine r_cVi (k := 387) (As := [.long (7237492)]) (rest := []) ⟨hx, hb, hml, hown, hts⟩ hK hP hN hS (c_X12_isWord l D cA ad hI σ0 τ0 hR (7237492)) (cwV 1 hts gX12_operand_X12_isWord rfl rfl rfl (by decide +kernel) ⟨by decide, by decide⟩) (rv_M hK hP (by decide) (by decide)) rfl hl.1 rfl (Nat.le_of_ble_eq_true rfl) dX12_operand_4 (Nat.zero_le _) (Nat.zero_le _) (fun r1 u1 H1 locs1 hp1 hP hS => ?_)
  obtain ⟨σ1, τ1⟩ := u1
  obtain ⟨hR, f1, fL1, hq1, hp1_0⟩ : P_X12_isWord σ0 τ0 (7237492) r1 σ1 τ1 := hp1
  have hP : va_P D vwCl (gw cA ad σ1 τ1) H1 := hP
  obtain rfl := FrL.nil fL1
  obtain rfl := Fr.nil f1
  refine lv_istore_n (lv' := [(1, .int r1), (0, .ref (ad 387))]) hx hb dX12_operand_7 rfl hl (by decide) rfl (fun ls hl => ?_)
  refine lv_aload_n hx hb dX12_operand_8 rfl (lv_at hl 1 rfl) ?_
  refine r_bipush hx hb dX12_operand_9 (by decide) (fun z2 ez2 => ?_)
  refine r_cVi (k := 387) (As := [.int z2]) (rest := []) ⟨hx, hb, hml, hown, hts⟩ hK hP hN hS (c_X12_isSign l D cA ad hI σ0 τ0 hR z2 (by omega)) (cwV 1 hts gX12_operand_X12_isSign rfl rfl rfl (by decide +kernel) ⟨by decide, by decide⟩) (rv_M hK hP (by decide) (by decide)) rfl hl.1 rfl (Nat.le_of_ble_eq_true rfl) dX12_operand_11 (Nat.zero_le _) (Nat.zero_le _) (fun r3 u3 H3 locs3 hp3 hP hS => ?_)
  obtain ⟨σ3, τ3⟩ := u3
  obtain ⟨hR, f3, fL3, hq3, hp3_0⟩ : P_X12_isSign σ0 τ0 z2 r3 σ3 τ3 := hp3
  have hP : va_P D vwCl (gw cA ad σ3 τ3) H3 := hP
  obtain rfl := FrL.nil fL3
  obtain rfl := Fr.nil f3
  refine lv_istore_n (lv' := [(2, .int r3), (1, .int r1), (0, .ref (ad 387))]) hx hb dX12_operand_14 rfl hl (by decide) rfl (fun ls hl => ?_)
  refine lv_aload_n hx hb dX12_operand_15 rfl (lv_at hl 2 rfl) ?_
  refine r_cVi (k := 387) (As := []) (rest := []) ⟨hx, hb, hml, hown, hts⟩ hK hP hN hS (c_X12_leafOf l D cA ad hI σ0 τ0 hR) (cwV 0 hts gX12_operand_X12_leafOf rfl rfl rfl (by decide +kernel) ⟨by decide, by decide⟩) (rv_M hK hP (by decide) (by decide)) rfl hl.1 rfl (Nat.le_of_ble_eq_true rfl) dX12_operand_16 (Nat.zero_le _) (Nat.zero_le _) (fun r4 u4 H4 locs4 hp4 hP hS => ?_)
  obtain ⟨σ4, τ4⟩ := u4
  obtain ⟨hR, f4, fL4, hq4⟩ : P_X12_leafOf σ0 τ0 r4 σ4 τ4 := hp4
  have hP : va_P D vwCl (gw cA ad σ4 τ4) H4 := hP
  obtain rfl := FrL.nil fL4
  obtain rfl := Fr.nil f4
  refine lv_istore_n (lv' := [(3, .int r4), (2, .int r3), (1, .int r1), (0, .ref (ad 387))]) hx hb dX12_operand_19 rfl hl (by decide) rfl (fun ls hl => ?_)
  refine lv_iload_n hx hb dX12_operand_20 rfl (lv_at hl 2 rfl) ?_
  refine r_if_ne (tgt := 38) hx hb dX12_operand_21 (by decide) (fun c5 => ?_) (fun c5 => ?_)
  · replace hp1_0 := hp1_0.resolve_left (by omega)
    refine lv_aload_n hx hb dX12_operand_38 rfl (lv_at hl 3 rfl) ?_
    refine fg_12_39 (k := 387) hx hb hts in_X12_operand_12 hown hK hP (by decide) (by decide) (hts _ lk_X12_operand_446) dX12_operand_39 ?_
    refine r_bipush hx hb dX12_operand_42 (by decide) (fun z6 ez6 => ?_)
    refine r_icmp_eq (tgt := 56) hx hb dX12_operand_44 (by decide) (fun c7 => ?_) (fun c7 => ?_)
    · refine lv_aload_n hx hb dX12_operand_56 rfl (lv_at hl 3 rfl) ?_
      refine r_iconst hx hb dX12_operand_57 (by decide) (fun z8 ez8 => ?_)
      refine r_cVi (k := 387) (As := [.int z8]) (rest := []) ⟨hx, hb, hml, hown, hts⟩ hK hP hN hS (c_X12_bad l D cA ad hI σ0 τ0 hR z8 (by omega)) (cwV 1 hts gX12_operand_X12_bad rfl rfl rfl (by decide +kernel) ⟨by decide, by decide⟩) (rv_M hK hP (by decide) (by decide)) rfl hl.1 rfl (Nat.le_of_ble_eq_true rfl) dX12_operand_58 (Nat.zero_le _) (Nat.zero_le _) (fun r9 u9 H9 locs9 hp9 hP hS => ?_)
      obtain ⟨σ9, τ9⟩ := u9
      obtain ⟨hR, f9, fL9, hq9⟩ : P_X12_bad σ0 τ0 z8 r9 σ9 τ9 := hp9
      have hP : va_P D vwCl (gw cA ad σ9 τ9) H9 := hP
      obtain rfl := FrL.nil fL9
      have hF := hF.step f9 (by decide)
      have gPV := PV.fr gPV hR f9 (by decide)
      have gPW := PW.fr gPW hR f9 (by decide)
      have t10 : (σ9 387 38).toInt = (σ0 387 38).toInt := congrArg Int32.toInt (f9.at 387 38 (by decide))
      have t11 : (σ9 387 39).toInt = (σ0 387 39).toInt := congrArg Int32.toInt (f9.at 387 39 (by decide))
      have t12 : (σ9 387 40).toInt = (σ0 387 40).toInt := congrArg Int32.toInt (f9.at 387 40 (by decide))
      have t13 : (σ9 387 42).toInt = (σ0 387 42).toInt := congrArg Int32.toInt (f9.at 387 42 (by decide))
      exact r_zret hx hb hr hK hP hS hk (by omega) dX12_operand_61 (show P_X12_operand σ0 τ0 r9 σ9 τ0 from ⟨hR, hF, hFL, by omega, by first | exact Or.inl (by omega) | exact Or.inr gPV, by omega, by omega⟩)
    · refine lv_aload_n hx hb dX12_operand_47 rfl (lv_at hl 3 rfl) ?_
      refine fg_12_41 (k := 387) hx hb hts in_X12_operand_12 hown hK hP (by decide) (by decide) (hts _ lk_X12_operand_440) dX12_operand_48 ?_
      refine r_bipush hx hb dX12_operand_51 (by decide) (fun z14 ez14 => ?_)
      refine r_icmp_le (tgt := 62) hx hb dX12_operand_53 (by decide) (fun c15 => ?_) (fun c15 => ?_)
      · refine lv_aload_n hx hb dX12_operand_62 rfl (lv_at hl 3 rfl) ?_
        refine lv_dup hx hb dX12_operand_63 rfl ?_
        refine fg_12_39 (k := 387) hx hb hts in_X12_operand_12 hown hK hP (by decide) (by decide) (hts _ lk_X12_operand_446) dX12_operand_64 ?_
        refine r_iconst hx hb dX12_operand_67 (by decide) (fun z16 ez16 => ?_)
        refine r_iadd hx hb dX12_operand_68 (by omega) (fun z17 ez17 => ?_)
        refine fp_12_39 (k := 387) hx hb hts in_X12_operand_12 hown hK hP (by decide) (by decide) (hts _ lk_X12_operand_446) hI hR hS (by omega) dX12_operand_69 (fun σ18 H18 locs18 u18 v18 hR hP hS => ?_)
        have hF := hF.puts u18 4 rfl (by decide) (by decide) (by decide) (by decide)
        have gPV := PV.put gPV hR u18 (by decide)
        have gPW := PW.put gPW hR u18 (by decide)
        have t19 : (σ18 387 38).toInt = (σ0 387 38).toInt := congrArg Int32.toInt (u18 387 38 (by omega))
        have t20 : (σ18 387 40).toInt = (σ0 387 40).toInt := congrArg Int32.toInt (u18 387 40 (by omega))
        have t21 : (σ18 387 42).toInt = (σ0 387 42).toInt := congrArg Int32.toInt (u18 387 42 (by omega))
        have t22 : (σ18 387 41).toInt = (σ0 387 41).toInt := congrArg Int32.toInt (u18 387 41 (by omega))
        refine lv_aload_n hx hb dX12_operand_72 rfl (lv_at hl 3 rfl) ?_
        refine r_cVv (k := 387) (As := []) (rest := []) ⟨hx, hb, hml, hown, hts⟩ hK hP hN hS (c_X12_next l D cA ad hI σ18 τ0 hR) (cwV 0 hts gX12_operand_X12_next rfl rfl rfl (by decide +kernel) ⟨by decide, by decide⟩) (rv_M hK hP (by decide) (by decide)) rfl hl.1 rfl (Nat.le_of_ble_eq_true rfl) dX12_operand_73 (Nat.zero_le _) (Nat.zero_le _) (fun u23 H23 locs23 hp23 hP hS => ?_)
        obtain ⟨σ23, τ23⟩ := u23
        obtain ⟨hR, f23, fL23, hp23_0, hp23_1, hp23_2⟩ : P_X12_next σ18 τ0 σ23 τ23 := hp23
        have hP : va_P D vwCl (gw cA ad σ23 τ23) H23 := hP
        have hFL := hFL.step fL23 (by decide)
        have hF := hF.step f23 (by decide)
        have gPV := PV.fr gPV hR f23 (by decide)
        have gPW := PW.fr gPW hR f23 (by decide)
        have t24 : (σ23 387 38).toInt = (σ18 387 38).toInt := congrArg Int32.toInt (f23.at 387 38 (by decide))
        have t25 : (σ23 387 40).toInt = (σ18 387 40).toInt := congrArg Int32.toInt (f23.at 387 40 (by decide))
        have t26 : (σ23 387 42).toInt = (σ18 387 42).toInt := congrArg Int32.toInt (f23.at 387 42 (by decide))
        have t27 : (σ23 387 41).toInt = (σ18 387 41).toInt := congrArg Int32.toInt (f23.at 387 41 (by decide))
        have t28 : (σ23 387 39).toInt = (σ18 387 39).toInt := congrArg Int32.toInt (f23.at 387 39 (by decide))
        refine lv_iload_n hx hb dX12_operand_76 rfl (lv_at hl 2 rfl) ?_
        refine r_if_ne (tgt := 84) hx hb dX12_operand_77 (by decide) (fun c29 => ?_) (fun c29 => ?_)
        · refine lv_aload_n hx hb dX12_operand_84 rfl (lv_at hl 3 rfl) ?_
          refine fg_12_37 (k := 387) hx hb hts in_X12_operand_12 hown hK hP (by decide) (by decide) (hts _ lk_X12_operand_71) dX12_operand_85 ?_
          refine lv_aload_n hx hb dX12_operand_88 rfl (lv_at hl 3 rfl) ?_
          refine fg_12_40 (k := 387) hx hb hts in_X12_operand_12 hown hK hP (by decide) (by decide) (hts _ lk_X12_operand_434) dX12_operand_89 ?_
          refine lv_iload_n hx hb dX12_operand_92 rfl (lv_at hl 2 rfl) ?_
          refine r_if_eq (tgt := 101) hx hb dX12_operand_93 (by decide) (fun c30 => ?_) (fun c30 => ?_)
          · exfalso; omega
          · refine r_bipush hx hb dX12_operand_96 (by decide) (fun z31 ez31 => ?_)
            refine lv_goto (tgt := 103) hx hb dX12_operand_98 (by decide) ?_
            obtain ⟨j32, ej32⟩ : ∃ j : Nat, (σ23 387 40).toInt = (j : Int) := ⟨_, ti_nat (by omega)⟩
            refine as_mstack (k := 401) (j := j32) hx hb hK hP hI hR hS (by decide) (by decide) ej32 (by omega) dX12_operand_103 (fun σ33 H33 locs33 u33 v33 hR hP hS => ?_)
            have ua := u33
            have va := v33
            have hF := hF.puts u33 2 rfl (by decide) (by decide) (by omega) (by omega)
            have t34 : (σ33 387 38).toInt = (σ23 387 38).toInt := congrArg Int32.toInt (u33 387 38 (by omega))
            have t35 : (σ33 387 40).toInt = (σ23 387 40).toInt := congrArg Int32.toInt (u33 387 40 (by omega))
            have t36 : (σ33 387 42).toInt = (σ23 387 42).toInt := congrArg Int32.toInt (u33 387 42 (by omega))
            have t37 : (σ33 387 41).toInt = (σ23 387 41).toInt := congrArg Int32.toInt (u33 387 41 (by omega))
            have t38 : (σ33 387 39).toInt = (σ23 387 39).toInt := congrArg Int32.toInt (u33 387 39 (by omega))
            refine lv_aload_n hx hb dX12_operand_104 rfl (lv_at hl 3 rfl) ?_
            refine lv_dup hx hb dX12_operand_105 rfl ?_
            refine fg_12_40 (k := 387) hx hb hts in_X12_operand_12 hown hK hP (by decide) (by decide) (hts _ lk_X12_operand_434) dX12_operand_106 ?_
            refine r_iconst hx hb dX12_operand_109 (by decide) (fun z39 ez39 => ?_)
            refine r_iadd hx hb dX12_operand_110 (by omega) (fun z40 ez40 => ?_)
            refine fp_12_40 (k := 387) hx hb hts in_X12_operand_12 hown hK hP (by decide) (by decide) (hts _ lk_X12_operand_434) hI hR hS (by omega) dX12_operand_111 (fun σ41 H41 locs41 u41 v41 hR hP hS => ?_)
            have ub := u41
            have vb := v41
            have hF := hF.puts u41 4 rfl (by decide) (by decide) (by decide) (by decide)
            have t42 : (σ41 387 38).toInt = (σ33 387 38).toInt := congrArg Int32.toInt (u41 387 38 (by omega))
            have t43 : (σ41 387 42).toInt = (σ33 387 42).toInt := congrArg Int32.toInt (u41 387 42 (by omega))
            have t44 : (σ41 387 41).toInt = (σ33 387 41).toInt := congrArg Int32.toInt (u41 387 41 (by omega))
            have t45 : (σ41 387 39).toInt = (σ33 387 39).toInt := congrArg Int32.toInt (u41 387 39 (by omega))
            have gPV := PV.push gPV ua va (by omega) (by omega) ub (by omega)
            refine lv_aload_n hx hb dX12_operand_114 rfl (lv_at hl 3 rfl) ?_
            refine lv_dup hx hb dX12_operand_115 rfl ?_
            refine fg_12_41 (k := 387) hx hb hts in_X12_operand_12 hown hK hP (by decide) (by decide) (hts _ lk_X12_operand_440) dX12_operand_116 ?_
            refine r_iconst hx hb dX12_operand_119 (by decide) (fun z46 ez46 => ?_)
            have b48 := And.intro (ti_lo (σ41 387 41)) (ti_hi (σ41 387 41))
            refine r_iadd hx hb dX12_operand_120 (by omega) (fun z47 ez47 => ?_)
            refine fp_12_41 (k := 387) hx hb hts in_X12_operand_12 hown hK hP (by decide) (by decide) (hts _ lk_X12_operand_440) hI hR hS dX12_operand_121 (fun σ49 H49 locs49 u49 v49 hR hP hS => ?_)
            have hF := hF.puts u49 4 rfl (by decide) (by decide) (by decide) (by decide)
            have gPV := PV.put gPV hR u49 (by decide)
            have t50 : (σ49 387 38).toInt = (σ41 387 38).toInt := congrArg Int32.toInt (u49 387 38 (by omega))
            have t51 : (σ49 387 42).toInt = (σ41 387 42).toInt := congrArg Int32.toInt (u49 387 42 (by omega))
            have t52 : (σ49 387 39).toInt = (σ41 387 39).toInt := congrArg Int32.toInt (u49 387 39 (by omega))
            have t53 : (σ49 387 40).toInt = (σ41 387 40).toInt := congrArg Int32.toInt (u49 387 40 (by omega))
            refine r_iconst hx hb dX12_operand_124 (by decide) (fun z54 ez54 => ?_)
            exact r_zret hx hb hr hK hP hS hk (by omega) dX12_operand_125 (show P_X12_operand σ0 τ0 z54 σ49 τ23 from ⟨hR, hF, hFL, by omega, by first | exact Or.inl (by omega) | exact Or.inr gPV, by omega, by omega⟩)
        · exfalso; omega
      · refine lv_aload_n hx hb dX12_operand_56 rfl (lv_at hl 3 rfl) ?_
        refine r_iconst hx hb dX12_operand_57 (by decide) (fun z55 ez55 => ?_)
        refine r_cVi (k := 387) (As := [.int z55]) (rest := []) ⟨hx, hb, hml, hown, hts⟩ hK hP hN hS (c_X12_bad l D cA ad hI σ0 τ0 hR z55 (by omega)) (cwV 1 hts gX12_operand_X12_bad rfl rfl rfl (by decide +kernel) ⟨by decide, by decide⟩) (rv_M hK hP (by decide) (by decide)) rfl hl.1 rfl (Nat.le_of_ble_eq_true rfl) dX12_operand_58 (Nat.zero_le _) (Nat.zero_le _) (fun r56 u56 H56 locs56 hp56 hP hS => ?_)
        obtain ⟨σ56, τ56⟩ := u56
        obtain ⟨hR, f56, fL56, hq56⟩ : P_X12_bad σ0 τ0 z55 r56 σ56 τ56 := hp56
        have hP : va_P D vwCl (gw cA ad σ56 τ56) H56 := hP
        obtain rfl := FrL.nil fL56
        have hF := hF.step f56 (by decide)
        have gPV := PV.fr gPV hR f56 (by decide)
        have gPW := PW.fr gPW hR f56 (by decide)
        have t57 : (σ56 387 38).toInt = (σ0 387 38).toInt := congrArg Int32.toInt (f56.at 387 38 (by decide))
        have t58 : (σ56 387 39).toInt = (σ0 387 39).toInt := congrArg Int32.toInt (f56.at 387 39 (by decide))
        have t59 : (σ56 387 40).toInt = (σ0 387 40).toInt := congrArg Int32.toInt (f56.at 387 40 (by decide))
        have t60 : (σ56 387 42).toInt = (σ0 387 42).toInt := congrArg Int32.toInt (f56.at 387 42 (by decide))
        have t61 : (σ56 387 41).toInt = (σ0 387 41).toInt := congrArg Int32.toInt (f56.at 387 41 (by decide))
        exact r_zret hx hb hr hK hP hS hk (by omega) dX12_operand_61 (show P_X12_operand σ0 τ0 r56 σ56 τ0 from ⟨hR, hF, hFL, by omega, by first | exact Or.inl (by omega) | exact Or.inr gPV, by omega, by omega⟩)
  · clear hp1_0
    refine lv_iload_n hx hb dX12_operand_24 rfl (lv_at hl 1 rfl) ?_
    refine r_if_ne (tgt := 38) hx hb dX12_operand_25 (by decide) (fun c62 => ?_) (fun c62 => ?_)
    · replace hp3_0 := hp3_0.resolve_left (by omega)
      refine lv_aload_n hx hb dX12_operand_38 rfl (lv_at hl 3 rfl) ?_
      refine fg_12_39 (k := 387) hx hb hts in_X12_operand_12 hown hK hP (by decide) (by decide) (hts _ lk_X12_operand_446) dX12_operand_39 ?_
      refine r_bipush hx hb dX12_operand_42 (by decide) (fun z63 ez63 => ?_)
      refine r_icmp_eq (tgt := 56) hx hb dX12_operand_44 (by decide) (fun c64 => ?_) (fun c64 => ?_)
      · refine lv_aload_n hx hb dX12_operand_56 rfl (lv_at hl 3 rfl) ?_
        refine r_iconst hx hb dX12_operand_57 (by decide) (fun z65 ez65 => ?_)
        refine r_cVi (k := 387) (As := [.int z65]) (rest := []) ⟨hx, hb, hml, hown, hts⟩ hK hP hN hS (c_X12_bad l D cA ad hI σ0 τ0 hR z65 (by omega)) (cwV 1 hts gX12_operand_X12_bad rfl rfl rfl (by decide +kernel) ⟨by decide, by decide⟩) (rv_M hK hP (by decide) (by decide)) rfl hl.1 rfl (Nat.le_of_ble_eq_true rfl) dX12_operand_58 (Nat.zero_le _) (Nat.zero_le _) (fun r66 u66 H66 locs66 hp66 hP hS => ?_)
        obtain ⟨σ66, τ66⟩ := u66
        obtain ⟨hR, f66, fL66, hq66⟩ : P_X12_bad σ0 τ0 z65 r66 σ66 τ66 := hp66
        have hP : va_P D vwCl (gw cA ad σ66 τ66) H66 := hP
        obtain rfl := FrL.nil fL66
        have hF := hF.step f66 (by decide)
        have gPV := PV.fr gPV hR f66 (by decide)
        have gPW := PW.fr gPW hR f66 (by decide)
        have t67 : (σ66 387 38).toInt = (σ0 387 38).toInt := congrArg Int32.toInt (f66.at 387 38 (by decide))
        have t68 : (σ66 387 39).toInt = (σ0 387 39).toInt := congrArg Int32.toInt (f66.at 387 39 (by decide))
        have t69 : (σ66 387 40).toInt = (σ0 387 40).toInt := congrArg Int32.toInt (f66.at 387 40 (by decide))
        have t70 : (σ66 387 42).toInt = (σ0 387 42).toInt := congrArg Int32.toInt (f66.at 387 42 (by decide))
        exact r_zret hx hb hr hK hP hS hk (by omega) dX12_operand_61 (show P_X12_operand σ0 τ0 r66 σ66 τ0 from ⟨hR, hF, hFL, by omega, by first | exact Or.inl (by omega) | exact Or.inr gPV, by omega, by omega⟩)
      · refine lv_aload_n hx hb dX12_operand_47 rfl (lv_at hl 3 rfl) ?_
        refine fg_12_41 (k := 387) hx hb hts in_X12_operand_12 hown hK hP (by decide) (by decide) (hts _ lk_X12_operand_440) dX12_operand_48 ?_
        refine r_bipush hx hb dX12_operand_51 (by decide) (fun z71 ez71 => ?_)
        refine r_icmp_le (tgt := 62) hx hb dX12_operand_53 (by decide) (fun c72 => ?_) (fun c72 => ?_)
        · refine lv_aload_n hx hb dX12_operand_62 rfl (lv_at hl 3 rfl) ?_
          refine lv_dup hx hb dX12_operand_63 rfl ?_
          refine fg_12_39 (k := 387) hx hb hts in_X12_operand_12 hown hK hP (by decide) (by decide) (hts _ lk_X12_operand_446) dX12_operand_64 ?_
          refine r_iconst hx hb dX12_operand_67 (by decide) (fun z73 ez73 => ?_)
          refine r_iadd hx hb dX12_operand_68 (by omega) (fun z74 ez74 => ?_)
          refine fp_12_39 (k := 387) hx hb hts in_X12_operand_12 hown hK hP (by decide) (by decide) (hts _ lk_X12_operand_446) hI hR hS (by omega) dX12_operand_69 (fun σ75 H75 locs75 u75 v75 hR hP hS => ?_)
          have hF := hF.puts u75 4 rfl (by decide) (by decide) (by decide) (by decide)
          have gPV := PV.put gPV hR u75 (by decide)
          have gPW := PW.put gPW hR u75 (by decide)
          have t76 : (σ75 387 38).toInt = (σ0 387 38).toInt := congrArg Int32.toInt (u75 387 38 (by omega))
          have t77 : (σ75 387 40).toInt = (σ0 387 40).toInt := congrArg Int32.toInt (u75 387 40 (by omega))
          have t78 : (σ75 387 42).toInt = (σ0 387 42).toInt := congrArg Int32.toInt (u75 387 42 (by omega))
          have t79 : (σ75 387 41).toInt = (σ0 387 41).toInt := congrArg Int32.toInt (u75 387 41 (by omega))
          refine lv_aload_n hx hb dX12_operand_72 rfl (lv_at hl 3 rfl) ?_
          refine r_cVv (k := 387) (As := []) (rest := []) ⟨hx, hb, hml, hown, hts⟩ hK hP hN hS (c_X12_next l D cA ad hI σ75 τ0 hR) (cwV 0 hts gX12_operand_X12_next rfl rfl rfl (by decide +kernel) ⟨by decide, by decide⟩) (rv_M hK hP (by decide) (by decide)) rfl hl.1 rfl (Nat.le_of_ble_eq_true rfl) dX12_operand_73 (Nat.zero_le _) (Nat.zero_le _) (fun u80 H80 locs80 hp80 hP hS => ?_)
          obtain ⟨σ80, τ80⟩ := u80
          obtain ⟨hR, f80, fL80, hp80_0, hp80_1, hp80_2⟩ : P_X12_next σ75 τ0 σ80 τ80 := hp80
          have hP : va_P D vwCl (gw cA ad σ80 τ80) H80 := hP
          have hFL := hFL.step fL80 (by decide)
          have hF := hF.step f80 (by decide)
          have gPV := PV.fr gPV hR f80 (by decide)
          have gPW := PW.fr gPW hR f80 (by decide)
          have t81 : (σ80 387 38).toInt = (σ75 387 38).toInt := congrArg Int32.toInt (f80.at 387 38 (by decide))
          have t82 : (σ80 387 40).toInt = (σ75 387 40).toInt := congrArg Int32.toInt (f80.at 387 40 (by decide))
          have t83 : (σ80 387 42).toInt = (σ75 387 42).toInt := congrArg Int32.toInt (f80.at 387 42 (by decide))
          have t84 : (σ80 387 41).toInt = (σ75 387 41).toInt := congrArg Int32.toInt (f80.at 387 41 (by decide))
          have t85 : (σ80 387 39).toInt = (σ75 387 39).toInt := congrArg Int32.toInt (f80.at 387 39 (by decide))
          refine lv_iload_n hx hb dX12_operand_76 rfl (lv_at hl 2 rfl) ?_
          refine r_if_ne (tgt := 84) hx hb dX12_operand_77 (by decide) (fun c86 => ?_) (fun c86 => ?_)
          · exfalso; omega
          · refine lv_iload_n hx hb dX12_operand_80 rfl (lv_at hl 1 rfl) ?_
            refine r_if_eq (tgt := 126) hx hb dX12_operand_81 (by decide) (fun c87 => ?_) (fun c87 => ?_)
            · exfalso; omega
            · refine lv_aload_n hx hb dX12_operand_84 rfl (lv_at hl 3 rfl) ?_
              refine fg_12_37 (k := 387) hx hb hts in_X12_operand_12 hown hK hP (by decide) (by decide) (hts _ lk_X12_operand_71) dX12_operand_85 ?_
              refine lv_aload_n hx hb dX12_operand_88 rfl (lv_at hl 3 rfl) ?_
              refine fg_12_40 (k := 387) hx hb hts in_X12_operand_12 hown hK hP (by decide) (by decide) (hts _ lk_X12_operand_434) dX12_operand_89 ?_
              refine lv_iload_n hx hb dX12_operand_92 rfl (lv_at hl 2 rfl) ?_
              refine r_if_eq (tgt := 101) hx hb dX12_operand_93 (by decide) (fun c88 => ?_) (fun c88 => ?_)
              · refine r_bipush hx hb dX12_operand_101 (by decide) (fun z89 ez89 => ?_)
                obtain ⟨j90, ej90⟩ : ∃ j : Nat, (σ80 387 40).toInt = (j : Int) := ⟨_, ti_nat (by omega)⟩
                refine as_mstack (k := 401) (j := j90) hx hb hK hP hI hR hS (by decide) (by decide) ej90 (by omega) dX12_operand_103 (fun σ91 H91 locs91 u91 v91 hR hP hS => ?_)
                have ua := u91
                have va := v91
                have hF := hF.puts u91 2 rfl (by decide) (by decide) (by omega) (by omega)
                have t92 : (σ91 387 38).toInt = (σ80 387 38).toInt := congrArg Int32.toInt (u91 387 38 (by omega))
                have t93 : (σ91 387 40).toInt = (σ80 387 40).toInt := congrArg Int32.toInt (u91 387 40 (by omega))
                have t94 : (σ91 387 42).toInt = (σ80 387 42).toInt := congrArg Int32.toInt (u91 387 42 (by omega))
                have t95 : (σ91 387 41).toInt = (σ80 387 41).toInt := congrArg Int32.toInt (u91 387 41 (by omega))
                have t96 : (σ91 387 39).toInt = (σ80 387 39).toInt := congrArg Int32.toInt (u91 387 39 (by omega))
                refine lv_aload_n hx hb dX12_operand_104 rfl (lv_at hl 3 rfl) ?_
                refine lv_dup hx hb dX12_operand_105 rfl ?_
                refine fg_12_40 (k := 387) hx hb hts in_X12_operand_12 hown hK hP (by decide) (by decide) (hts _ lk_X12_operand_434) dX12_operand_106 ?_
                refine r_iconst hx hb dX12_operand_109 (by decide) (fun z97 ez97 => ?_)
                refine r_iadd hx hb dX12_operand_110 (by omega) (fun z98 ez98 => ?_)
                refine fp_12_40 (k := 387) hx hb hts in_X12_operand_12 hown hK hP (by decide) (by decide) (hts _ lk_X12_operand_434) hI hR hS (by omega) dX12_operand_111 (fun σ99 H99 locs99 u99 v99 hR hP hS => ?_)
                have ub := u99
                have vb := v99
                have hF := hF.puts u99 4 rfl (by decide) (by decide) (by decide) (by decide)
                have t100 : (σ99 387 38).toInt = (σ91 387 38).toInt := congrArg Int32.toInt (u99 387 38 (by omega))
                have t101 : (σ99 387 42).toInt = (σ91 387 42).toInt := congrArg Int32.toInt (u99 387 42 (by omega))
                have t102 : (σ99 387 41).toInt = (σ91 387 41).toInt := congrArg Int32.toInt (u99 387 41 (by omega))
                have t103 : (σ99 387 39).toInt = (σ91 387 39).toInt := congrArg Int32.toInt (u99 387 39 (by omega))
                have gPV := PV.push gPV ua va (by omega) (by omega) ub (by omega)
                refine lv_aload_n hx hb dX12_operand_114 rfl (lv_at hl 3 rfl) ?_
                refine lv_dup hx hb dX12_operand_115 rfl ?_
                refine fg_12_41 (k := 387) hx hb hts in_X12_operand_12 hown hK hP (by decide) (by decide) (hts _ lk_X12_operand_440) dX12_operand_116 ?_
                refine r_iconst hx hb dX12_operand_119 (by decide) (fun z104 ez104 => ?_)
                have b106 := And.intro (ti_lo (σ99 387 41)) (ti_hi (σ99 387 41))
                refine r_iadd hx hb dX12_operand_120 (by omega) (fun z105 ez105 => ?_)
                refine fp_12_41 (k := 387) hx hb hts in_X12_operand_12 hown hK hP (by decide) (by decide) (hts _ lk_X12_operand_440) hI hR hS dX12_operand_121 (fun σ107 H107 locs107 u107 v107 hR hP hS => ?_)
                have hF := hF.puts u107 4 rfl (by decide) (by decide) (by decide) (by decide)
                have gPV := PV.put gPV hR u107 (by decide)
                have t108 : (σ107 387 38).toInt = (σ99 387 38).toInt := congrArg Int32.toInt (u107 387 38 (by omega))
                have t109 : (σ107 387 42).toInt = (σ99 387 42).toInt := congrArg Int32.toInt (u107 387 42 (by omega))
                have t110 : (σ107 387 39).toInt = (σ99 387 39).toInt := congrArg Int32.toInt (u107 387 39 (by omega))
                have t111 : (σ107 387 40).toInt = (σ99 387 40).toInt := congrArg Int32.toInt (u107 387 40 (by omega))
                refine r_iconst hx hb dX12_operand_124 (by decide) (fun z112 ez112 => ?_)
                exact r_zret hx hb hr hK hP hS hk (by omega) dX12_operand_125 (show P_X12_operand σ0 τ0 z112 σ107 τ80 from ⟨hR, hF, hFL, by omega, by first | exact Or.inl (by omega) | exact Or.inr gPV, by omega, by omega⟩)
              · exfalso; omega
        · refine lv_aload_n hx hb dX12_operand_56 rfl (lv_at hl 3 rfl) ?_
          refine r_iconst hx hb dX12_operand_57 (by decide) (fun z113 ez113 => ?_)
          refine r_cVi (k := 387) (As := [.int z113]) (rest := []) ⟨hx, hb, hml, hown, hts⟩ hK hP hN hS (c_X12_bad l D cA ad hI σ0 τ0 hR z113 (by omega)) (cwV 1 hts gX12_operand_X12_bad rfl rfl rfl (by decide +kernel) ⟨by decide, by decide⟩) (rv_M hK hP (by decide) (by decide)) rfl hl.1 rfl (Nat.le_of_ble_eq_true rfl) dX12_operand_58 (Nat.zero_le _) (Nat.zero_le _) (fun r114 u114 H114 locs114 hp114 hP hS => ?_)
          obtain ⟨σ114, τ114⟩ := u114
          obtain ⟨hR, f114, fL114, hq114⟩ : P_X12_bad σ0 τ0 z113 r114 σ114 τ114 := hp114
          have hP : va_P D vwCl (gw cA ad σ114 τ114) H114 := hP
          obtain rfl := FrL.nil fL114
          have hF := hF.step f114 (by decide)
          have gPV := PV.fr gPV hR f114 (by decide)
          have gPW := PW.fr gPW hR f114 (by decide)
          have t115 : (σ114 387 38).toInt = (σ0 387 38).toInt := congrArg Int32.toInt (f114.at 387 38 (by decide))
          have t116 : (σ114 387 39).toInt = (σ0 387 39).toInt := congrArg Int32.toInt (f114.at 387 39 (by decide))
          have t117 : (σ114 387 40).toInt = (σ0 387 40).toInt := congrArg Int32.toInt (f114.at 387 40 (by decide))
          have t118 : (σ114 387 42).toInt = (σ0 387 42).toInt := congrArg Int32.toInt (f114.at 387 42 (by decide))
          have t119 : (σ114 387 41).toInt = (σ0 387 41).toInt := congrArg Int32.toInt (f114.at 387 41 (by decide))
          exact r_zret hx hb hr hK hP hS hk (by omega) dX12_operand_61 (show P_X12_operand σ0 τ0 r114 σ114 τ0 from ⟨hR, hF, hFL, by omega, by first | exact Or.inl (by omega) | exact Or.inr gPV, by omega, by omega⟩)
    · clear hp3_0
      refine lv_iload_n hx hb dX12_operand_28 rfl (lv_at hl 0 rfl) ?_
      refine r_if_ge (tgt := 38) hx hb dX12_operand_29 (by decide) (fun c120 => ?_) (fun c120 => ?_)
      · refine lv_aload_n hx hb dX12_operand_38 rfl (lv_at hl 3 rfl) ?_
        refine fg_12_39 (k := 387) hx hb hts in_X12_operand_12 hown hK hP (by decide) (by decide) (hts _ lk_X12_operand_446) dX12_operand_39 ?_
        refine r_bipush hx hb dX12_operand_42 (by decide) (fun z121 ez121 => ?_)
        refine r_icmp_eq (tgt := 56) hx hb dX12_operand_44 (by decide) (fun c122 => ?_) (fun c122 => ?_)
        · refine lv_aload_n hx hb dX12_operand_56 rfl (lv_at hl 3 rfl) ?_
          refine r_iconst hx hb dX12_operand_57 (by decide) (fun z123 ez123 => ?_)
          refine r_cVi (k := 387) (As := [.int z123]) (rest := []) ⟨hx, hb, hml, hown, hts⟩ hK hP hN hS (c_X12_bad l D cA ad hI σ0 τ0 hR z123 (by omega)) (cwV 1 hts gX12_operand_X12_bad rfl rfl rfl (by decide +kernel) ⟨by decide, by decide⟩) (rv_M hK hP (by decide) (by decide)) rfl hl.1 rfl (Nat.le_of_ble_eq_true rfl) dX12_operand_58 (Nat.zero_le _) (Nat.zero_le _) (fun r124 u124 H124 locs124 hp124 hP hS => ?_)
          obtain ⟨σ124, τ124⟩ := u124
          obtain ⟨hR, f124, fL124, hq124⟩ : P_X12_bad σ0 τ0 z123 r124 σ124 τ124 := hp124
          have hP : va_P D vwCl (gw cA ad σ124 τ124) H124 := hP
          obtain rfl := FrL.nil fL124
          have hF := hF.step f124 (by decide)
          have gPV := PV.fr gPV hR f124 (by decide)
          have gPW := PW.fr gPW hR f124 (by decide)
          have t125 : (σ124 387 38).toInt = (σ0 387 38).toInt := congrArg Int32.toInt (f124.at 387 38 (by decide))
          have t126 : (σ124 387 39).toInt = (σ0 387 39).toInt := congrArg Int32.toInt (f124.at 387 39 (by decide))
          have t127 : (σ124 387 40).toInt = (σ0 387 40).toInt := congrArg Int32.toInt (f124.at 387 40 (by decide))
          have t128 : (σ124 387 42).toInt = (σ0 387 42).toInt := congrArg Int32.toInt (f124.at 387 42 (by decide))
          exact r_zret hx hb hr hK hP hS hk (by omega) dX12_operand_61 (show P_X12_operand σ0 τ0 r124 σ124 τ0 from ⟨hR, hF, hFL, by omega, by first | exact Or.inl (by omega) | exact Or.inr gPV, by omega, by omega⟩)
        · refine lv_aload_n hx hb dX12_operand_47 rfl (lv_at hl 3 rfl) ?_
          refine fg_12_41 (k := 387) hx hb hts in_X12_operand_12 hown hK hP (by decide) (by decide) (hts _ lk_X12_operand_440) dX12_operand_48 ?_
          refine r_bipush hx hb dX12_operand_51 (by decide) (fun z129 ez129 => ?_)
          refine r_icmp_le (tgt := 62) hx hb dX12_operand_53 (by decide) (fun c130 => ?_) (fun c130 => ?_)
          · refine lv_aload_n hx hb dX12_operand_62 rfl (lv_at hl 3 rfl) ?_
            refine lv_dup hx hb dX12_operand_63 rfl ?_
            refine fg_12_39 (k := 387) hx hb hts in_X12_operand_12 hown hK hP (by decide) (by decide) (hts _ lk_X12_operand_446) dX12_operand_64 ?_
            refine r_iconst hx hb dX12_operand_67 (by decide) (fun z131 ez131 => ?_)
            refine r_iadd hx hb dX12_operand_68 (by omega) (fun z132 ez132 => ?_)
            refine fp_12_39 (k := 387) hx hb hts in_X12_operand_12 hown hK hP (by decide) (by decide) (hts _ lk_X12_operand_446) hI hR hS (by omega) dX12_operand_69 (fun σ133 H133 locs133 u133 v133 hR hP hS => ?_)
            have hF := hF.puts u133 4 rfl (by decide) (by decide) (by decide) (by decide)
            have gPV := PV.put gPV hR u133 (by decide)
            have gPW := PW.put gPW hR u133 (by decide)
            have t134 : (σ133 387 38).toInt = (σ0 387 38).toInt := congrArg Int32.toInt (u133 387 38 (by omega))
            have t135 : (σ133 387 40).toInt = (σ0 387 40).toInt := congrArg Int32.toInt (u133 387 40 (by omega))
            have t136 : (σ133 387 42).toInt = (σ0 387 42).toInt := congrArg Int32.toInt (u133 387 42 (by omega))
            have t137 : (σ133 387 41).toInt = (σ0 387 41).toInt := congrArg Int32.toInt (u133 387 41 (by omega))
            refine lv_aload_n hx hb dX12_operand_72 rfl (lv_at hl 3 rfl) ?_
            refine r_cVv (k := 387) (As := []) (rest := []) ⟨hx, hb, hml, hown, hts⟩ hK hP hN hS (c_X12_next l D cA ad hI σ133 τ0 hR) (cwV 0 hts gX12_operand_X12_next rfl rfl rfl (by decide +kernel) ⟨by decide, by decide⟩) (rv_M hK hP (by decide) (by decide)) rfl hl.1 rfl (Nat.le_of_ble_eq_true rfl) dX12_operand_73 (Nat.zero_le _) (Nat.zero_le _) (fun u138 H138 locs138 hp138 hP hS => ?_)
            obtain ⟨σ138, τ138⟩ := u138
            obtain ⟨hR, f138, fL138, hp138_0, hp138_1, hp138_2⟩ : P_X12_next σ133 τ0 σ138 τ138 := hp138
            have hP : va_P D vwCl (gw cA ad σ138 τ138) H138 := hP
            have hFL := hFL.step fL138 (by decide)
            have hF := hF.step f138 (by decide)
            have gPV := PV.fr gPV hR f138 (by decide)
            have gPW := PW.fr gPW hR f138 (by decide)
            have t139 : (σ138 387 38).toInt = (σ133 387 38).toInt := congrArg Int32.toInt (f138.at 387 38 (by decide))
            have t140 : (σ138 387 40).toInt = (σ133 387 40).toInt := congrArg Int32.toInt (f138.at 387 40 (by decide))
            have t141 : (σ138 387 42).toInt = (σ133 387 42).toInt := congrArg Int32.toInt (f138.at 387 42 (by decide))
            have t142 : (σ138 387 41).toInt = (σ133 387 41).toInt := congrArg Int32.toInt (f138.at 387 41 (by decide))
            have t143 : (σ138 387 39).toInt = (σ133 387 39).toInt := congrArg Int32.toInt (f138.at 387 39 (by decide))
            refine lv_iload_n hx hb dX12_operand_76 rfl (lv_at hl 2 rfl) ?_
            refine r_if_ne (tgt := 84) hx hb dX12_operand_77 (by decide) (fun c144 => ?_) (fun c144 => ?_)
            · exfalso; omega
            · refine lv_iload_n hx hb dX12_operand_80 rfl (lv_at hl 1 rfl) ?_
              refine r_if_eq (tgt := 126) hx hb dX12_operand_81 (by decide) (fun c145 => ?_) (fun c145 => ?_)
              · refine lv_aload_n hx hb dX12_operand_126 rfl (lv_at hl 3 rfl) ?_
                refine r_iconst hx hb dX12_operand_127 (by decide) (fun z146 ez146 => ?_)
                refine fp_12_42 (k := 387) hx hb hts in_X12_operand_12 hown hK hP (by decide) (by decide) (hts _ lk_X12_operand_449) hI hR hS (by omega) dX12_operand_128 (fun σ147 H147 locs147 u147 v147 hR hP hS => ?_)
                have uw := u147
                have vw := v147
                have hF := hF.puts u147 4 rfl (by decide) (by decide) (by decide) (by decide)
                have gPW := PW.put gPW hR u147 (by decide)
                have t148 : (σ147 387 38).toInt = (σ138 387 38).toInt := congrArg Int32.toInt (u147 387 38 (by omega))
                have t149 : (σ147 387 40).toInt = (σ138 387 40).toInt := congrArg Int32.toInt (u147 387 40 (by omega))
                have t150 : (σ147 387 41).toInt = (σ138 387 41).toInt := congrArg Int32.toInt (u147 387 41 (by omega))
                have t151 : (σ147 387 39).toInt = (σ138 387 39).toInt := congrArg Int32.toInt (u147 387 39 (by omega))
                refine lv_iload_n hx hb dX12_operand_131 rfl (lv_at hl 0 rfl) ?_
                refine r_iconst hx hb dX12_operand_132 (by decide) (fun z152 ez152 => ?_)
                refine r_icmp_ge (tgt := 145) hx hb dX12_operand_133 (by decide) (fun c153 => ?_) (fun c153 => ?_)
                · refine lv_iload_n hx hb dX12_operand_145 rfl (lv_at hl 0 rfl) ?_
                  refine r_iconst hx hb dX12_operand_146 (by decide) (fun z154 ez154 => ?_)
                  refine r_icmp_ne (tgt := 182) hx hb dX12_operand_147 (by decide) (fun c155 => ?_) (fun c155 => ?_)
                  · refine lv_aload_n hx hb dX12_operand_182 rfl (lv_at hl 3 rfl) ?_
                    refine fg_12_11 (k := 387) hx hb hts in_X12_operand_12 hown hK hP (by decide) (by decide) (hts _ lk_X12_operand_159) dX12_operand_183 ?_
                    refine r_iconst hx hb dX12_operand_186 (by decide) (fun z156 ez156 => ?_)
                    refine r_icmp_ne (tgt := 208) hx hb dX12_operand_187 (by decide) (fun c157 => ?_) (fun c157 => ?_)
                    · refine lv_aload_n hx hb dX12_operand_208 rfl (lv_at hl 3 rfl) ?_
                      refine r_iconst hx hb dX12_operand_209 (by decide) (fun z158 ez158 => ?_)
                      refine r_cVi (k := 387) (As := [.int z158]) (rest := []) ⟨hx, hb, hml, hown, hts⟩ hK hP hN hS (c_X12_bad l D cA ad hI σ147 τ138 hR z158 (by omega)) (cwV 1 hts gX12_operand_X12_bad rfl rfl rfl (by decide +kernel) ⟨by decide, by decide⟩) (rv_M hK hP (by decide) (by decide)) rfl hl.1 rfl (Nat.le_of_ble_eq_true rfl) dX12_operand_210 (Nat.zero_le _) (Nat.zero_le _) (fun r159 u159 H159 locs159 hp159 hP hS => ?_)
                      obtain ⟨σ159, τ159⟩ := u159
                      obtain ⟨hR, f159, fL159, hq159⟩ : P_X12_bad σ147 τ138 z158 r159 σ159 τ159 := hp159
                      have hP : va_P D vwCl (gw cA ad σ159 τ159) H159 := hP
                      obtain rfl := FrL.nil fL159
                      have hF := hF.step f159 (by decide)
                      have gPW := PW.fr gPW hR f159 (by decide)
                      have t160 : (σ159 387 38).toInt = (σ147 387 38).toInt := congrArg Int32.toInt (f159.at 387 38 (by decide))
                      have t161 : (σ159 387 40).toInt = (σ147 387 40).toInt := congrArg Int32.toInt (f159.at 387 40 (by decide))
                      have t162 : (σ159 387 41).toInt = (σ147 387 41).toInt := congrArg Int32.toInt (f159.at 387 41 (by decide))
                      have t163 : (σ159 387 39).toInt = (σ147 387 39).toInt := congrArg Int32.toInt (f159.at 387 39 (by decide))
                      have t164 : (σ159 387 42).toInt = (σ147 387 42).toInt := congrArg Int32.toInt (f159.at 387 42 (by decide))
                      have t165 : (σ159 387 11).toInt = (σ147 387 11).toInt := congrArg Int32.toInt (f159.at 387 11 (by decide))
                      exact r_zret hx hb hr hK hP hS hk (by omega) dX12_operand_213 (show P_X12_operand σ0 τ0 r159 σ159 τ138 from ⟨hR, hF, hFL, by omega, by first | exact Or.inl (by omega) | exact Or.inr gPV, by omega, by omega⟩)
                    · refine lv_aload_n hx hb dX12_operand_190 rfl (lv_at hl 3 rfl) ?_
                      refine fg_12_14 (k := 387) hx hb hts in_X12_operand_12 hown hK hP (by decide) (by decide) (hts _ lk_X12_operand_169) dX12_operand_191 ?_
                      refine r_bipush hx hb dX12_operand_194 (by decide) (fun z166 ez166 => ?_)
                      refine r_icmp_lt (tgt := 208) hx hb dX12_operand_196 (by decide) (fun c167 => ?_) (fun c167 => ?_)
                      · refine lv_aload_n hx hb dX12_operand_208 rfl (lv_at hl 3 rfl) ?_
                        refine r_iconst hx hb dX12_operand_209 (by decide) (fun z168 ez168 => ?_)
                        refine r_cVi (k := 387) (As := [.int z168]) (rest := []) ⟨hx, hb, hml, hown, hts⟩ hK hP hN hS (c_X12_bad l D cA ad hI σ147 τ138 hR z168 (by omega)) (cwV 1 hts gX12_operand_X12_bad rfl rfl rfl (by decide +kernel) ⟨by decide, by decide⟩) (rv_M hK hP (by decide) (by decide)) rfl hl.1 rfl (Nat.le_of_ble_eq_true rfl) dX12_operand_210 (Nat.zero_le _) (Nat.zero_le _) (fun r169 u169 H169 locs169 hp169 hP hS => ?_)
                        obtain ⟨σ169, τ169⟩ := u169
                        obtain ⟨hR, f169, fL169, hq169⟩ : P_X12_bad σ147 τ138 z168 r169 σ169 τ169 := hp169
                        have hP : va_P D vwCl (gw cA ad σ169 τ169) H169 := hP
                        obtain rfl := FrL.nil fL169
                        have hF := hF.step f169 (by decide)
                        have gPW := PW.fr gPW hR f169 (by decide)
                        have t170 : (σ169 387 38).toInt = (σ147 387 38).toInt := congrArg Int32.toInt (f169.at 387 38 (by decide))
                        have t171 : (σ169 387 40).toInt = (σ147 387 40).toInt := congrArg Int32.toInt (f169.at 387 40 (by decide))
                        have t172 : (σ169 387 41).toInt = (σ147 387 41).toInt := congrArg Int32.toInt (f169.at 387 41 (by decide))
                        have t173 : (σ169 387 39).toInt = (σ147 387 39).toInt := congrArg Int32.toInt (f169.at 387 39 (by decide))
                        have t174 : (σ169 387 42).toInt = (σ147 387 42).toInt := congrArg Int32.toInt (f169.at 387 42 (by decide))
                        have t175 : (σ169 387 11).toInt = (σ147 387 11).toInt := congrArg Int32.toInt (f169.at 387 11 (by decide))
                        have t176 : (σ169 387 14).toInt = (σ147 387 14).toInt := congrArg Int32.toInt (f169.at 387 14 (by decide))
                        exact r_zret hx hb hr hK hP hS hk (by omega) dX12_operand_213 (show P_X12_operand σ0 τ0 r169 σ169 τ138 from ⟨hR, hF, hFL, by omega, by first | exact Or.inl (by omega) | exact Or.inr gPV, by omega, by omega⟩)
                      · refine lv_aload_n hx hb dX12_operand_199 rfl (lv_at hl 3 rfl) ?_
                        refine fg_12_14 (k := 387) hx hb hts in_X12_operand_12 hown hK hP (by decide) (by decide) (hts _ lk_X12_operand_169) dX12_operand_200 ?_
                        refine r_bipush hx hb dX12_operand_203 (by decide) (fun z177 ez177 => ?_)
                        refine r_icmp_le (tgt := 214) hx hb dX12_operand_205 (by decide) (fun c178 => ?_) (fun c178 => ?_)
                        · refine lv_aload_n hx hb dX12_operand_214 rfl (lv_at hl 3 rfl) ?_
                          refine fg_12_14 (k := 387) hx hb hts in_X12_operand_12 hown hK hP (by decide) (by decide) (hts _ lk_X12_operand_169) dX12_operand_215 ?_
                          refine lv_istore (lv' := [(4, .int (σ147 387 14)), (3, .int r4), (2, .int r3), (1, .int r1), (0, .ref (ad 387))]) hx hb dX12_operand_218 hl (by decide) rfl (fun ls hl => ?_)
                          refine lv_aload_n hx hb dX12_operand_220 rfl (lv_at hl 4 rfl) ?_
                          refine r_cVv (k := 387) (As := []) (rest := []) ⟨hx, hb, hml, hown, hts⟩ hK hP hN hS (c_X12_next l D cA ad hI σ147 τ138 hR) (cwV 0 hts gX12_operand_X12_next rfl rfl rfl (by decide +kernel) ⟨by decide, by decide⟩) (rv_M hK hP (by decide) (by decide)) rfl hl.1 rfl (Nat.le_of_ble_eq_true rfl) dX12_operand_221 (Nat.zero_le _) (Nat.zero_le _) (fun u179 H179 locs179 hp179 hP hS => ?_)
                          obtain ⟨σ179, τ179⟩ := u179
                          obtain ⟨hR, f179, fL179, hp179_0, hp179_1, hp179_2⟩ : P_X12_next σ147 τ138 σ179 τ179 := hp179
                          have hP : va_P D vwCl (gw cA ad σ179 τ179) H179 := hP
                          clear hp138_1
                          have hFL := hFL.step fL179 (by decide)
                          have hF := hF.step f179 (by decide)
                          have gPW := PW.fr gPW hR f179 (by decide)
                          have t180 : (σ179 387 38).toInt = (σ147 387 38).toInt := congrArg Int32.toInt (f179.at 387 38 (by decide))
                          have t181 : (σ179 387 40).toInt = (σ147 387 40).toInt := congrArg Int32.toInt (f179.at 387 40 (by decide))
                          have t182 : (σ179 387 41).toInt = (σ147 387 41).toInt := congrArg Int32.toInt (f179.at 387 41 (by decide))
                          have t183 : (σ179 387 39).toInt = (σ147 387 39).toInt := congrArg Int32.toInt (f179.at 387 39 (by decide))
                          have t184 : (σ179 387 42).toInt = (σ147 387 42).toInt := congrArg Int32.toInt (f179.at 387 42 (by decide))
                          refine lv_aload_n hx hb dX12_operand_224 rfl (lv_at hl 4 rfl) ?_
                          refine fg_12_11 (k := 387) hx hb hts in_X12_operand_12 hown hK hP (by decide) (by decide) (hts _ lk_X12_operand_159) dX12_operand_225 ?_
                          refine r_iconst hx hb dX12_operand_228 (by decide) (fun z185 ez185 => ?_)
                          refine r_icmp_eq (tgt := 238) hx hb dX12_operand_229 (by decide) (fun c186 => ?_) (fun c186 => ?_)
                          · refine lv_aload_n hx hb dX12_operand_238 rfl (lv_at hl 4 rfl) ?_
                            refine lv_iload_n hx hb dX12_operand_239 rfl (lv_at hl 1 rfl) ?_
                            refine lv_iload hx hb dX12_operand_240 (lv_at hl 0 rfl) ?_
                            refine lv_aload_n hx hb dX12_operand_242 rfl (lv_at hl 4 rfl) ?_
                            refine fg_12_14 (k := 387) hx hb hts in_X12_operand_12 hown hK hP (by decide) (by decide) (hts _ lk_X12_operand_169) dX12_operand_243 ?_
                            refine r_cVv (k := 387) (As := [.int r4, .int (σ147 387 14), .int (σ179 387 14)]) (rest := []) ⟨hx, hb, hml, hown, hts⟩ hK hP hN hS (c_X12_code l D cA ad hI σ179 τ179 hR r4 (σ147 387 14) (σ179 387 14) (by omega) (by omega) (by omega)) (cwV 3 hts gX12_operand_X12_code rfl rfl rfl (by decide +kernel) ⟨by decide, by decide⟩) (rv_M hK hP (by decide) (by decide)) rfl hl.1 rfl (Nat.le_of_ble_eq_true rfl) dX12_operand_246 (Nat.zero_le _) (Nat.zero_le _) (fun u187 H187 locs187 hp187 hP hS => ?_)
                            obtain ⟨σ187, τ187⟩ := u187
                            obtain ⟨hR, f187, fL187, hp187_0⟩ : P_X12_code σ179 τ179 r4 (σ147 387 14) (σ179 387 14) σ187 τ187 := hp187
                            have cd := hp187_0
                            have fc := f187
                            have hP : va_P D vwCl (gw cA ad σ187 τ187) H187 := hP
                            obtain rfl := FrL.nil fL187
                            have hF := hF.step f187 (by decide)
                            have t188 : (σ187 387 40).toInt = (σ179 387 40).toInt := congrArg Int32.toInt (f187.at 387 40 (by decide))
                            have t189 : (σ187 387 41).toInt = (σ179 387 41).toInt := congrArg Int32.toInt (f187.at 387 41 (by decide))
                            have t190 : (σ187 387 39).toInt = (σ179 387 39).toInt := congrArg Int32.toInt (f187.at 387 39 (by decide))
                            have t191 : (σ187 387 42).toInt = (σ179 387 42).toInt := congrArg Int32.toInt (f187.at 387 42 (by decide))
                            have t192 : (σ187 387 11).toInt = (σ179 387 11).toInt := congrArg Int32.toInt (f187.at 387 11 (by decide))
                            have t193 : (σ187 387 14).toInt = (σ179 387 14).toInt := congrArg Int32.toInt (f187.at 387 14 (by decide))
                            have hr194 := rg_12_38 hR (k := 387) (by decide) (by decide)
                            have gPV := PW.leaf gPW (by omega) cd (by omega) fc (by decide) (by omega)
                            obtain ⟨cc0, hcc1, hcc2, _, _⟩ := id cd
                            refine lv_aload_n hx hb dX12_operand_249 rfl (lv_at hl 4 rfl) ?_
                            refine r_cVv (k := 387) (As := []) (rest := []) ⟨hx, hb, hml, hown, hts⟩ hK hP hN hS (c_X12_next l D cA ad hI σ187 τ179 hR) (cwV 0 hts gX12_operand_X12_next rfl rfl rfl (by decide +kernel) ⟨by decide, by decide⟩) (rv_M hK hP (by decide) (by decide)) rfl hl.1 rfl (Nat.le_of_ble_eq_true rfl) dX12_operand_250 (Nat.zero_le _) (Nat.zero_le _) (fun u195 H195 locs195 hp195 hP hS => ?_)
                            obtain ⟨σ195, τ195⟩ := u195
                            obtain ⟨hR, f195, fL195, hp195_0, hp195_1, hp195_2⟩ : P_X12_next σ187 τ179 σ195 τ195 := hp195
                            have hP : va_P D vwCl (gw cA ad σ195 τ195) H195 := hP
                            clear hp179_1
                            have hFL := hFL.step fL195 (by decide)
                            have hF := hF.step f195 (by decide)
                            have gPV := PV.fr gPV hR f195 (by decide)
                            have t196 : (σ195 387 40).toInt = (σ187 387 40).toInt := congrArg Int32.toInt (f195.at 387 40 (by decide))
                            have t197 : (σ195 387 41).toInt = (σ187 387 41).toInt := congrArg Int32.toInt (f195.at 387 41 (by decide))
                            have t198 : (σ195 387 39).toInt = (σ187 387 39).toInt := congrArg Int32.toInt (f195.at 387 39 (by decide))
                            have t199 : (σ195 387 42).toInt = (σ187 387 42).toInt := congrArg Int32.toInt (f195.at 387 42 (by decide))
                            have t200 : (σ195 387 38).toInt = (σ187 387 38).toInt := congrArg Int32.toInt (f195.at 387 38 (by decide))
                            refine r_iconst hx hb dX12_operand_253 (by decide) (fun z201 ez201 => ?_)
                            exact r_zret hx hb hr hK hP hS hk (by omega) dX12_operand_254 (show P_X12_operand σ0 τ0 z201 σ195 τ195 from ⟨hR, hF, hFL, by omega, by first | exact Or.inl (by omega) | exact Or.inr gPV, by omega, by omega⟩)
                          · refine lv_aload_n hx hb dX12_operand_232 rfl (lv_at hl 4 rfl) ?_
                            refine r_iconst hx hb dX12_operand_233 (by decide) (fun z202 ez202 => ?_)
                            refine r_cVi (k := 387) (As := [.int z202]) (rest := []) ⟨hx, hb, hml, hown, hts⟩ hK hP hN hS (c_X12_bad l D cA ad hI σ179 τ179 hR z202 (by omega)) (cwV 1 hts gX12_operand_X12_bad rfl rfl rfl (by decide +kernel) ⟨by decide, by decide⟩) (rv_M hK hP (by decide) (by decide)) rfl hl.1 rfl (Nat.le_of_ble_eq_true rfl) dX12_operand_234 (Nat.zero_le _) (Nat.zero_le _) (fun r203 u203 H203 locs203 hp203 hP hS => ?_)
                            obtain ⟨σ203, τ203⟩ := u203
                            obtain ⟨hR, f203, fL203, hq203⟩ : P_X12_bad σ179 τ179 z202 r203 σ203 τ203 := hp203
                            have hP : va_P D vwCl (gw cA ad σ203 τ203) H203 := hP
                            obtain rfl := FrL.nil fL203
                            have hF := hF.step f203 (by decide)
                            have gPW := PW.fr gPW hR f203 (by decide)
                            have t204 : (σ203 387 38).toInt = (σ179 387 38).toInt := congrArg Int32.toInt (f203.at 387 38 (by decide))
                            have t205 : (σ203 387 40).toInt = (σ179 387 40).toInt := congrArg Int32.toInt (f203.at 387 40 (by decide))
                            have t206 : (σ203 387 41).toInt = (σ179 387 41).toInt := congrArg Int32.toInt (f203.at 387 41 (by decide))
                            have t207 : (σ203 387 39).toInt = (σ179 387 39).toInt := congrArg Int32.toInt (f203.at 387 39 (by decide))
                            have t208 : (σ203 387 42).toInt = (σ179 387 42).toInt := congrArg Int32.toInt (f203.at 387 42 (by decide))
                            have t209 : (σ203 387 11).toInt = (σ179 387 11).toInt := congrArg Int32.toInt (f203.at 387 11 (by decide))
                            exact r_zret hx hb hr hK hP hS hk (by omega) dX12_operand_237 (show P_X12_operand σ0 τ0 r203 σ203 τ179 from ⟨hR, hF, hFL, by omega, by first | exact Or.inl (by omega) | exact Or.inr gPV, by omega, by omega⟩)
                        · refine lv_aload_n hx hb dX12_operand_208 rfl (lv_at hl 3 rfl) ?_
                          refine r_iconst hx hb dX12_operand_209 (by decide) (fun z210 ez210 => ?_)
                          refine r_cVi (k := 387) (As := [.int z210]) (rest := []) ⟨hx, hb, hml, hown, hts⟩ hK hP hN hS (c_X12_bad l D cA ad hI σ147 τ138 hR z210 (by omega)) (cwV 1 hts gX12_operand_X12_bad rfl rfl rfl (by decide +kernel) ⟨by decide, by decide⟩) (rv_M hK hP (by decide) (by decide)) rfl hl.1 rfl (Nat.le_of_ble_eq_true rfl) dX12_operand_210 (Nat.zero_le _) (Nat.zero_le _) (fun r211 u211 H211 locs211 hp211 hP hS => ?_)
                          obtain ⟨σ211, τ211⟩ := u211
                          obtain ⟨hR, f211, fL211, hq211⟩ : P_X12_bad σ147 τ138 z210 r211 σ211 τ211 := hp211
                          have hP : va_P D vwCl (gw cA ad σ211 τ211) H211 := hP
                          obtain rfl := FrL.nil fL211
                          have hF := hF.step f211 (by decide)
                          have gPW := PW.fr gPW hR f211 (by decide)
                          have t212 : (σ211 387 38).toInt = (σ147 387 38).toInt := congrArg Int32.toInt (f211.at 387 38 (by decide))
                          have t213 : (σ211 387 40).toInt = (σ147 387 40).toInt := congrArg Int32.toInt (f211.at 387 40 (by decide))
                          have t214 : (σ211 387 41).toInt = (σ147 387 41).toInt := congrArg Int32.toInt (f211.at 387 41 (by decide))
                          have t215 : (σ211 387 39).toInt = (σ147 387 39).toInt := congrArg Int32.toInt (f211.at 387 39 (by decide))
                          have t216 : (σ211 387 42).toInt = (σ147 387 42).toInt := congrArg Int32.toInt (f211.at 387 42 (by decide))
                          have t217 : (σ211 387 11).toInt = (σ147 387 11).toInt := congrArg Int32.toInt (f211.at 387 11 (by decide))
                          have t218 : (σ211 387 14).toInt = (σ147 387 14).toInt := congrArg Int32.toInt (f211.at 387 14 (by decide))
                          exact r_zret hx hb hr hK hP hS hk (by omega) dX12_operand_213 (show P_X12_operand σ0 τ0 r211 σ211 τ138 from ⟨hR, hF, hFL, by omega, by first | exact Or.inl (by omega) | exact Or.inr gPV, by omega, by omega⟩)
                  · refine lv_aload_n hx hb dX12_operand_150 rfl (lv_at hl 3 rfl) ?_
                    refine r_iconst hx hb dX12_operand_151 (by decide) (fun z219 ez219 => ?_)
                    refine lv_aload_n hx hb dX12_operand_152 rfl (lv_at hl 3 rfl) ?_
                    refine fg_12_6 (k := 387) hx hb hts in_X12_operand_12 hown hK hP (by decide) (by decide) (hts _ lk_X12_operand_33) dX12_operand_153 ?_
                    refine r_iconst hx hb dX12_operand_156 (by decide) (fun z220 ez220 => ?_)
                    refine ad_ms (k := 389) (j := 0) hx hb hK hP (by decide) (by decide) (by omega) (by omega) dX12_operand_157 ?_
                    have hr221 := ra_ms_0 hR (k := 389) (j := 0) (by decide) (by decide) (by decide) (by decide)
                    refine r_cVi (k := 387) (As := [.int z219, .int (σ147 389 0)]) (rest := []) ⟨hx, hb, hml, hown, hts⟩ hK hP hN hS (c_X12_looksAt l D cA ad hI σ147 τ138 hR z219 (σ147 389 0) (by omega) (by omega)) (cwV 2 hts gX12_operand_X12_looksAt rfl rfl rfl (by decide +kernel) ⟨by decide, by decide⟩) (rv_M hK hP (by decide) (by decide)) rfl hl.1 rfl (Nat.le_of_ble_eq_true rfl) dX12_operand_158 (Nat.zero_le _) (Nat.zero_le _) (fun r222 u222 H222 locs222 hp222 hP hS => ?_)
                    obtain ⟨σ222, τ222⟩ := u222
                    obtain ⟨hR, f222, fL222, hq222, hp222_0, hp222_1⟩ : P_X12_looksAt σ147 τ138 z219 (σ147 389 0) r222 σ222 τ222 := hp222
                    have hP : va_P D vwCl (gw cA ad σ222 τ222) H222 := hP
                    obtain rfl := FrL.nil fL222
                    have hF := hF.step f222 (by decide)
                    have gPW := PW.fr gPW hR f222 (by decide)
                    have t223 : (σ222 387 38).toInt = (σ147 387 38).toInt := congrArg Int32.toInt (f222.at 387 38 (by decide))
                    have t224 : (σ222 387 40).toInt = (σ147 387 40).toInt := congrArg Int32.toInt (f222.at 387 40 (by decide))
                    have t225 : (σ222 387 41).toInt = (σ147 387 41).toInt := congrArg Int32.toInt (f222.at 387 41 (by decide))
                    have t226 : (σ222 387 39).toInt = (σ147 387 39).toInt := congrArg Int32.toInt (f222.at 387 39 (by decide))
                    have t227 : (σ222 387 42).toInt = (σ147 387 42).toInt := congrArg Int32.toInt (f222.at 387 42 (by decide))
                    refine r_if_ne (tgt := 166) hx hb dX12_operand_161 (by decide) (fun c228 => ?_) (fun c228 => ?_)
                    · replace hp222_0 := hp222_0.resolve_left (by omega)
                      replace hp222_1 := hp222_1.resolve_left (by omega)
                      refine lv_aload_n hx hb dX12_operand_166 rfl (lv_at hl 3 rfl) ?_
                      refine lv_iload_n hx hb dX12_operand_167 rfl (lv_at hl 0 rfl) ?_
                      refine r_iconst hx hb dX12_operand_168 (by decide) (fun z229 ez229 => ?_)
                      refine lv_aload_n hx hb dX12_operand_169 rfl (lv_at hl 3 rfl) ?_
                      refine fg_12_18 (k := 387) hx hb hts in_X12_operand_12 hown hK hP (by decide) (by decide) (hts _ lk_X12_operand_195) dX12_operand_170 ?_
                      refine r_cVv (k := 387) (As := [.int r4, .int z229, .int (σ222 387 18)]) (rest := []) ⟨hx, hb, hml, hown, hts⟩ hK hP hN hS (c_X12_code l D cA ad hI σ222 τ138 hR r4 z229 (σ222 387 18) (by omega) (by omega) (by omega)) (cwV 3 hts gX12_operand_X12_code rfl rfl rfl (by decide +kernel) ⟨by decide, by decide⟩) (rv_M hK hP (by decide) (by decide)) rfl hl.1 rfl (Nat.le_of_ble_eq_true rfl) dX12_operand_173 (Nat.zero_le _) (Nat.zero_le _) (fun u230 H230 locs230 hp230 hP hS => ?_)
                      obtain ⟨σ230, τ230⟩ := u230
                      obtain ⟨hR, f230, fL230, hp230_0⟩ : P_X12_code σ222 τ138 r4 z229 (σ222 387 18) σ230 τ230 := hp230
                      have cd := hp230_0
                      have fc := f230
                      have hP : va_P D vwCl (gw cA ad σ230 τ230) H230 := hP
                      obtain rfl := FrL.nil fL230
                      have hF := hF.step f230 (by decide)
                      have t231 : (σ230 387 40).toInt = (σ222 387 40).toInt := congrArg Int32.toInt (f230.at 387 40 (by decide))
                      have t232 : (σ230 387 41).toInt = (σ222 387 41).toInt := congrArg Int32.toInt (f230.at 387 41 (by decide))
                      have t233 : (σ230 387 39).toInt = (σ222 387 39).toInt := congrArg Int32.toInt (f230.at 387 39 (by decide))
                      have t234 : (σ230 387 42).toInt = (σ222 387 42).toInt := congrArg Int32.toInt (f230.at 387 42 (by decide))
                      have t235 : (σ230 387 18).toInt = (σ222 387 18).toInt := congrArg Int32.toInt (f230.at 387 18 (by decide))
                      have hr236 := rg_12_38 hR (k := 387) (by decide) (by decide)
                      have gPV := PW.leaf gPW (by omega) cd (by omega) fc (by decide) (by omega)
                      obtain ⟨cc0, hcc1, hcc2, _, _⟩ := id cd
                      refine lv_aload_n hx hb dX12_operand_176 rfl (lv_at hl 3 rfl) ?_
                      refine r_cVv (k := 387) (As := []) (rest := []) ⟨hx, hb, hml, hown, hts⟩ hK hP hN hS (c_X12_next l D cA ad hI σ230 τ138 hR) (cwV 0 hts gX12_operand_X12_next rfl rfl rfl (by decide +kernel) ⟨by decide, by decide⟩) (rv_M hK hP (by decide) (by decide)) rfl hl.1 rfl (Nat.le_of_ble_eq_true rfl) dX12_operand_177 (Nat.zero_le _) (Nat.zero_le _) (fun u237 H237 locs237 hp237 hP hS => ?_)
                      obtain ⟨σ237, τ237⟩ := u237
                      obtain ⟨hR, f237, fL237, hp237_0, hp237_1, hp237_2⟩ : P_X12_next σ230 τ138 σ237 τ237 := hp237
                      have hP : va_P D vwCl (gw cA ad σ237 τ237) H237 := hP
                      clear hp138_1
                      have hFL := hFL.step fL237 (by decide)
                      have hF := hF.step f237 (by decide)
                      have gPV := PV.fr gPV hR f237 (by decide)
                      have t238 : (σ237 387 40).toInt = (σ230 387 40).toInt := congrArg Int32.toInt (f237.at 387 40 (by decide))
                      have t239 : (σ237 387 41).toInt = (σ230 387 41).toInt := congrArg Int32.toInt (f237.at 387 41 (by decide))
                      have t240 : (σ237 387 39).toInt = (σ230 387 39).toInt := congrArg Int32.toInt (f237.at 387 39 (by decide))
                      have t241 : (σ237 387 42).toInt = (σ230 387 42).toInt := congrArg Int32.toInt (f237.at 387 42 (by decide))
                      have t242 : (σ237 387 18).toInt = (σ230 387 18).toInt := congrArg Int32.toInt (f237.at 387 18 (by decide))
                      have t243 : (σ237 387 38).toInt = (σ230 387 38).toInt := congrArg Int32.toInt (f237.at 387 38 (by decide))
                      refine r_iconst hx hb dX12_operand_180 (by decide) (fun z244 ez244 => ?_)
                      exact r_zret hx hb hr hK hP hS hk (by omega) dX12_operand_181 (show P_X12_operand σ0 τ0 z244 σ237 τ237 from ⟨hR, hF, hFL, by omega, by first | exact Or.inl (by omega) | exact Or.inr gPV, by omega, by omega⟩)
                    · clear hp222_0 hp222_1
                      refine r_iconst hx hb dX12_operand_164 (by decide) (fun z245 ez245 => ?_)
                      exact r_zret hx hb hr hK hP hS hk (by omega) dX12_operand_165 (show P_X12_operand σ0 τ0 z245 σ222 τ138 from ⟨hR, hF, hFL, by omega, by first | exact Or.inl (by omega) | exact Or.inr gPV, by omega, by omega⟩)
                · refine lv_aload_n hx hb dX12_operand_136 rfl (lv_at hl 3 rfl) ?_
                  refine lv_iload_n hx hb dX12_operand_137 rfl (lv_at hl 0 rfl) ?_
                  refine r_iconst hx hb dX12_operand_138 (by decide) (fun z246 ez246 => ?_)
                  refine r_iconst hx hb dX12_operand_139 (by decide) (fun z247 ez247 => ?_)
                  refine r_cVv (k := 387) (As := [.int r4, .int z246, .int z247]) (rest := []) ⟨hx, hb, hml, hown, hts⟩ hK hP hN hS (c_X12_code l D cA ad hI σ147 τ138 hR r4 z246 z247 (by omega) (by omega) (by omega)) (cwV 3 hts gX12_operand_X12_code rfl rfl rfl (by decide +kernel) ⟨by decide, by decide⟩) (rv_M hK hP (by decide) (by decide)) rfl hl.1 rfl (Nat.le_of_ble_eq_true rfl) dX12_operand_140 (Nat.zero_le _) (Nat.zero_le _) (fun u248 H248 locs248 hp248 hP hS => ?_)
                  obtain ⟨σ248, τ248⟩ := u248
                  obtain ⟨hR, f248, fL248, hp248_0⟩ : P_X12_code σ147 τ138 r4 z246 z247 σ248 τ248 := hp248
                  have cd := hp248_0
                  have fc := f248
                  have hP : va_P D vwCl (gw cA ad σ248 τ248) H248 := hP
                  obtain rfl := FrL.nil fL248
                  have hF := hF.step f248 (by decide)
                  have t249 : (σ248 387 40).toInt = (σ147 387 40).toInt := congrArg Int32.toInt (f248.at 387 40 (by decide))
                  have t250 : (σ248 387 41).toInt = (σ147 387 41).toInt := congrArg Int32.toInt (f248.at 387 41 (by decide))
                  have t251 : (σ248 387 39).toInt = (σ147 387 39).toInt := congrArg Int32.toInt (f248.at 387 39 (by decide))
                  have t252 : (σ248 387 42).toInt = (σ147 387 42).toInt := congrArg Int32.toInt (f248.at 387 42 (by decide))
                  have hr253 := rg_12_38 hR (k := 387) (by decide) (by decide)
                  have gPV := PW.leaf gPW (by omega) cd (by omega) fc (by decide) (by omega)
                  obtain ⟨cc0, hcc1, hcc2, _, _⟩ := id cd
                  refine r_iconst hx hb dX12_operand_143 (by decide) (fun z254 ez254 => ?_)
                  exact r_zret hx hb hr hK hP hS hk (by omega) dX12_operand_144 (show P_X12_operand σ0 τ0 z254 σ248 τ138 from ⟨hR, hF, hFL, by omega, by first | exact Or.inl (by omega) | exact Or.inr gPV, by omega, by omega⟩)
              · exfalso; omega
          · refine lv_aload_n hx hb dX12_operand_56 rfl (lv_at hl 3 rfl) ?_
            refine r_iconst hx hb dX12_operand_57 (by decide) (fun z255 ez255 => ?_)
            refine r_cVi (k := 387) (As := [.int z255]) (rest := []) ⟨hx, hb, hml, hown, hts⟩ hK hP hN hS (c_X12_bad l D cA ad hI σ0 τ0 hR z255 (by omega)) (cwV 1 hts gX12_operand_X12_bad rfl rfl rfl (by decide +kernel) ⟨by decide, by decide⟩) (rv_M hK hP (by decide) (by decide)) rfl hl.1 rfl (Nat.le_of_ble_eq_true rfl) dX12_operand_58 (Nat.zero_le _) (Nat.zero_le _) (fun r256 u256 H256 locs256 hp256 hP hS => ?_)
            obtain ⟨σ256, τ256⟩ := u256
            obtain ⟨hR, f256, fL256, hq256⟩ : P_X12_bad σ0 τ0 z255 r256 σ256 τ256 := hp256
            have hP : va_P D vwCl (gw cA ad σ256 τ256) H256 := hP
            obtain rfl := FrL.nil fL256
            have hF := hF.step f256 (by decide)
            have gPV := PV.fr gPV hR f256 (by decide)
            have gPW := PW.fr gPW hR f256 (by decide)
            have t257 : (σ256 387 38).toInt = (σ0 387 38).toInt := congrArg Int32.toInt (f256.at 387 38 (by decide))
            have t258 : (σ256 387 39).toInt = (σ0 387 39).toInt := congrArg Int32.toInt (f256.at 387 39 (by decide))
            have t259 : (σ256 387 40).toInt = (σ0 387 40).toInt := congrArg Int32.toInt (f256.at 387 40 (by decide))
            have t260 : (σ256 387 42).toInt = (σ0 387 42).toInt := congrArg Int32.toInt (f256.at 387 42 (by decide))
            have t261 : (σ256 387 41).toInt = (σ0 387 41).toInt := congrArg Int32.toInt (f256.at 387 41 (by decide))
            exact r_zret hx hb hr hK hP hS hk (by omega) dX12_operand_61 (show P_X12_operand σ0 τ0 r256 σ256 τ0 from ⟨hR, hF, hFL, by omega, by first | exact Or.inl (by omega) | exact Or.inr gPV, by omega, by omega⟩)
      · refine lv_aload_n hx hb dX12_operand_32 rfl (lv_at hl 3 rfl) ?_
        refine r_iconst hx hb dX12_operand_33 (by decide) (fun z262 ez262 => ?_)
        refine r_cVi (k := 387) (As := [.int z262]) (rest := []) ⟨hx, hb, hml, hown, hts⟩ hK hP hN hS (c_X12_bad l D cA ad hI σ0 τ0 hR z262 (by omega)) (cwV 1 hts gX12_operand_X12_bad rfl rfl rfl (by decide +kernel) ⟨by decide, by decide⟩) (rv_M hK hP (by decide) (by decide)) rfl hl.1 rfl (Nat.le_of_ble_eq_true rfl) dX12_operand_34 (Nat.zero_le _) (Nat.zero_le _) (fun r263 u263 H263 locs263 hp263 hP hS => ?_)
        obtain ⟨σ263, τ263⟩ := u263
        obtain ⟨hR, f263, fL263, hq263⟩ : P_X12_bad σ0 τ0 z262 r263 σ263 τ263 := hp263
        have hP : va_P D vwCl (gw cA ad σ263 τ263) H263 := hP
        obtain rfl := FrL.nil fL263
        have hF := hF.step f263 (by decide)
        have gPV := PV.fr gPV hR f263 (by decide)
        have gPW := PW.fr gPW hR f263 (by decide)
        have t264 : (σ263 387 38).toInt = (σ0 387 38).toInt := congrArg Int32.toInt (f263.at 387 38 (by decide))
        have t265 : (σ263 387 39).toInt = (σ0 387 39).toInt := congrArg Int32.toInt (f263.at 387 39 (by decide))
        have t266 : (σ263 387 40).toInt = (σ0 387 40).toInt := congrArg Int32.toInt (f263.at 387 40 (by decide))
        have t267 : (σ263 387 42).toInt = (σ0 387 42).toInt := congrArg Int32.toInt (f263.at 387 42 (by decide))
        exact r_zret hx hb hr hK hP hS hk (by omega) dX12_operand_37 (show P_X12_operand σ0 τ0 r263 σ263 τ0 from ⟨hR, hF, hFL, by omega, by first | exact Or.inl (by omega) | exact Or.inr gPV, by omega, by omega⟩)
theorem in_X12_sentence_12 : ∀ w ∈ u_ws RX12 TX12 47, w ∈ wsX12_sentence := by decide +kernel
theorem lk_X12_sentence_1 : Cond.fieldLink RX12 1 "CuckooSharesModel" "thrown" "I" ∈ wsX12_sentence := by decide +kernel
theorem lk_X12_sentence_159 : Cond.fieldLink RX12 159 "CuckooSharesModel" "token" "I" ∈ wsX12_sentence := by decide +kernel
theorem lk_X12_sentence_176 : Cond.fieldLink RX12 176 "CuckooSharesModel" "fault" "I" ∈ wsX12_sentence := by decide +kernel
theorem lk_X12_sentence_179 : Cond.fieldLink RX12 179 "CuckooSharesModel" "faultAt" "I" ∈ wsX12_sentence := by decide +kernel
theorem lk_X12_sentence_33 : Cond.fieldLink RX12 33 "CuckooSharesModel" "s" "[I" ∈ wsX12_sentence := by decide +kernel
theorem lk_X12_sentence_40 : Cond.fieldLink RX12 40 "CuckooSharesModel" "read" "[I" ∈ wsX12_sentence := by decide +kernel
theorem lk_X12_sentence_431 : Cond.fieldLink RX12 431 "CuckooSharesModel" "codes" "I" ∈ wsX12_sentence := by decide +kernel
theorem lk_X12_sentence_434 : Cond.fieldLink RX12 434 "CuckooSharesModel" "top" "I" ∈ wsX12_sentence := by decide +kernel
theorem lk_X12_sentence_440 : Cond.fieldLink RX12 440 "CuckooSharesModel" "deep" "I" ∈ wsX12_sentence := by decide +kernel
theorem lk_X12_sentence_446 : Cond.fieldLink RX12 446 "CuckooSharesModel" "ones" "I" ∈ wsX12_sentence := by decide +kernel
theorem lk_X12_sentence_449 : Cond.fieldLink RX12 449 "CuckooSharesModel" "isWhole" "Z" ∈ wsX12_sentence := by decide +kernel
abbrev L_X12_sentence : List Rc := [(387, 387, 0, 0), (387, 387, 2, 5), (387, 387, 38, 42), (387, 387, 11, 16), (401, 401, 0, 40), (391, 391, 0, 119), (387, 387, 18, 18), (389, 389, 246, 366)]
abbrev LL_X12_sentence : List Rc := [(387, 387, 17, 17)]
def P_X12_sentence (σ0 : Nat → Nat → Int32) (τ0 : Nat → Nat → Int64)  (r : Int32) (σ : Nat → Nat → Int32) (τ : Nat → Nat → Int64) : Prop := Rg σ ∧ Fr L_X12_sentence σ0 σ ∧ FrL LL_X12_sentence τ0 τ ∧ ((σ 387 2).toInt = 0) ∧ SI σ
def J_X12_sentence_48 (p : Program) (l : Launch) (e : Env) (s : State) (m : MethodId) (args : Array Value) (below : List Frame) (meth : Method) (c : Code) (D : va_G) (cA : Nat → ClassId) (ad : Nat → Nat) (σ0 : Nat → Nat → Int32) (τ0 : Nat → Nat → Int64)  (n : Nat) : Prop := ∀ (σ : Nat → Nat → Int32) (τ : Nat → Nat → Int64) (H : Heap) (locs : List Loc) (x1 : Int32) (ls : Array Slot), Rg σ → Fr L_X12_sentence σ0 σ → FrL LL_X12_sentence τ0 τ → va_P D vwCl (gw cA ad σ τ) H → va_S (AA ad) s.heap H locs → (0 ≤ x1.toInt ∧ x1.toInt ≤ 1) → (0 ≤ (σ 387 2).toInt ∧ (σ 387 2).toInt ≤ 0) → (0 ≤ (σ 387 38).toInt ∧ (σ 387 38).toInt ≤ 40) → (0 ≤ (σ 387 39).toInt ∧ (σ 387 39).toInt ≤ 20) → (0 ≤ (σ 387 40).toInt ∧ (σ 387 40).toInt ≤ 40) → (0 ≤ (σ 387 42).toInt ∧ (σ 387 42).toInt ≤ 1) → ((σ 387 38).toInt + (σ 387 40).toInt + (σ 387 42).toInt ≤ 2 * (σ 387 39).toInt) → (SI σ) → (PV σ) → lv_has ls 3 [(0, .ref (ad 387)), (1, .int x1)] → 259 * (100 * (20 - (σ 387 39).toInt) + 2 * (σ 387 40).toInt + 3 * (σ 387 42).toInt + x1.toInt) + 258 < (n : Int) → W p l e ({ frames := 3, cells := 0, slots := 0, locals := 69 } : Room) s m args below meth c H locs 0 0 (MQ below (va_Qi (fun (r : Int32) (u : SS) => P_X12_sentence σ0 τ0 r u.1 u.2) (WB D cA ad) (AA ad)) args s 0 0 (AA ad)) (F0 m 48 ls [])
def J_X12_sentence_146 (p : Program) (l : Launch) (e : Env) (s : State) (m : MethodId) (args : Array Value) (below : List Frame) (meth : Method) (c : Code) (D : va_G) (cA : Nat → ClassId) (ad : Nat → Nat) (σ0 : Nat → Nat → Int32) (τ0 : Nat → Nat → Int64)  (n : Nat) : Prop := ∀ (σ : Nat → Nat → Int32) (τ : Nat → Nat → Int64) (H : Heap) (locs : List Loc) (x1 : Int32) (x2 : Int32) (ls : Array Slot), Rg σ → Fr L_X12_sentence σ0 σ → FrL LL_X12_sentence τ0 τ → va_P D vwCl (gw cA ad σ τ) H → va_S (AA ad) s.heap H locs → (0 ≤ x1.toInt ∧ x1.toInt ≤ 0) → (0 ≤ x2.toInt ∧ x2.toInt ≤ 127) → (0 ≤ (σ 387 2).toInt ∧ (σ 387 2).toInt ≤ 0) → (0 ≤ (σ 387 38).toInt ∧ (σ 387 38).toInt ≤ 40) → (0 ≤ (σ 387 39).toInt ∧ (σ 387 39).toInt ≤ 20) → (0 ≤ (σ 387 40).toInt ∧ (σ 387 40).toInt ≤ 40) → (0 ≤ (σ 387 42).toInt ∧ (σ 387 42).toInt ≤ 1) → (0 ≤ (σ 389 246).toInt ∧ (σ 389 246).toInt ≤ 40) → ((σ 389 246).toInt = (σ 387 38).toInt) → (∀ i : Nat, (i : Int) < x2.toInt → σ 389 (247 + i) = σ 391 i) → (PV σ) → lv_has ls 3 [(0, .ref (ad 387)), (1, .int x1), (2, .int x2)] → 2 * (127 - x2.toInt) + 1 < (n : Int) → W p l e ({ frames := 3, cells := 0, slots := 0, locals := 69 } : Room) s m args below meth c H locs 0 0 (MQ below (va_Qi (fun (r : Int32) (u : SS) => P_X12_sentence σ0 τ0 r u.1 u.2) (WB D cA ad) (AA ad)) args s 0 0 (AA ad)) (F0 m 146 ls [])
set_option maxHeartbeats 4000000 in
theorem B_X12_sentence_48 (p : Program) (l : Launch) (e : Env) (s : State) (m : MethodId) (args : Array Value) (below : List Frame) (meth : Method) (c : Code) (D : va_G) (cA : Nat → ClassId) (ad : Nat → Nat) (σ0 : Nat → Nat → Int32) (τ0 : Nat → Nat → Int64)  (n : Nat) (C : Cy p s m args meth c cX12_sentence 3 wsX12_sentence RX12 D cA ad (some .int)) (gSI0 : SI σ0) (K48 : J_X12_sentence_48 p l e s m args below meth c D cA ad σ0 τ0 n) (K146 : J_X12_sentence_146 p l e s m args below meth c D cA ad σ0 τ0 n) : J_X12_sentence_48 p l e s m args below meth c D cA ad σ0 τ0 (n + 1) := by
  obtain ⟨hx, hb, hml, hown, hts, hK, hk, hr, hI, hN⟩ := C
  intro σ τ H locs x1 ls hR hF hFL hP hS hc0 hc1 hc2 hc3 hc4 hc5 hi0 gSI gPV hl hm
  refine lv_iload_n hx hb dX12_sentence_48 rfl (lv_at hl 1 rfl) ?_
  refine r_if_eq (tgt := 132) hx hb dX12_sentence_49 (by decide) (fun c1 => ?_) (fun c1 => ?_)
  · refine lv_aload_n hx hb dX12_sentence_132 rfl (lv_at hl 0 rfl) ?_
    refine fg_12_6 (k := 387) hx hb hts in_X12_sentence_12 hown hK hP (by decide) (by decide) (hts _ lk_X12_sentence_33) dX12_sentence_133 ?_
    refine r_sipush hx hb dX12_sentence_136 (by decide) (fun z2 ez2 => ?_)
    refine lv_aload_n hx hb dX12_sentence_139 rfl (lv_at hl 0 rfl) ?_
    refine fg_12_38 (k := 387) hx hb hts in_X12_sentence_12 hown hK hP (by decide) (by decide) (hts _ lk_X12_sentence_431) dX12_sentence_140 ?_
    refine as_ms (k := 389) (j := 246) hx hb hK hP hI hR hS (by decide) (by decide) (by omega) (by omega) (rw_ms_8 (by decide) (by decide) (by decide) (by decide) (by omega)) dX12_sentence_143 (fun σ3 H3 locs3 u3 v3 hR hP hS => ?_)
    have hF := hF.puts u3 7 rfl (by decide) (by decide) (by decide) (by decide)
    have gPV := PV.put gPV hR u3 (by decide)
    have t4 : (σ3 387 2).toInt = (σ 387 2).toInt := congrArg Int32.toInt (u3 387 2 (by omega))
    have t5 : (σ3 387 38).toInt = (σ 387 38).toInt := congrArg Int32.toInt (u3 387 38 (by omega))
    have t6 : (σ3 387 39).toInt = (σ 387 39).toInt := congrArg Int32.toInt (u3 387 39 (by omega))
    have t7 : (σ3 387 40).toInt = (σ 387 40).toInt := congrArg Int32.toInt (u3 387 40 (by omega))
    have t8 : (σ3 387 42).toInt = (σ 387 42).toInt := congrArg Int32.toInt (u3 387 42 (by omega))
    have t9 : (σ3 387 11).toInt = (σ 387 11).toInt := congrArg Int32.toInt (u3 387 11 (by omega))
    refine r_iconst hx hb dX12_sentence_144 (by decide) (fun z10 ez10 => ?_)
    refine lv_istore_n (lv' := [(2, .int z10), (0, .ref (ad 387)), (1, .int x1)]) hx hb dX12_sentence_145 rfl hl (by decide) rfl (fun ls hl => ?_)
    exact K146 σ3 τ H3 locs3 x1 z10 ls hR hF hFL hP hS (by omega) (by omega) (by omega) (by omega) (by omega) (by omega) (by omega) (by omega) (by omega) (by first | exact (fun i hi => absurd hi (by omega)) | exact (fun i hi => CPs uz vz (by omega) (fun k hk => hi1 k (by omega)) i (by omega))) gPV (lv_sub hl [1, 2, 0] rfl) (by omega)
  · refine lv_aload_n hx hb dX12_sentence_52 rfl (lv_at hl 0 rfl) ?_
    refine fg_12_42 (k := 387) hx hb hts in_X12_sentence_12 hown hK hP (by decide) (by decide) (hts _ lk_X12_sentence_449) dX12_sentence_53 ?_
    refine r_if_eq (tgt := 101) hx hb dX12_sentence_56 (by decide) (fun c11 => ?_) (fun c11 => ?_)
    · refine lv_aload_n hx hb dX12_sentence_101 rfl (lv_at hl 0 rfl) ?_
      refine fg_12_42 (k := 387) hx hb hts in_X12_sentence_12 hown hK hP (by decide) (by decide) (hts _ lk_X12_sentence_449) dX12_sentence_102 ?_
      refine r_if_eq (tgt := 118) hx hb dX12_sentence_105 (by decide) (fun c12 => ?_) (fun c12 => ?_)
      · refine lv_aload_n hx hb dX12_sentence_118 rfl (lv_at hl 0 rfl) ?_
        refine r_cVi (k := 387) (As := []) (rest := []) ⟨hx, hb, hml, hown, hts⟩ hK hP hN hS (c_X12_operand l D cA ad hI σ τ hR (by omega) (by omega) gPV) (cwV 0 hts gX12_sentence_X12_operand rfl rfl rfl (by decide +kernel) ⟨by decide, by decide⟩) (rv_M hK hP (by decide) (by decide)) rfl hl.1 rfl (Nat.le_of_ble_eq_true rfl) dX12_sentence_119 (Nat.zero_le _) (Nat.zero_le _) (fun r13 u13 H13 locs13 hp13 hP hS => ?_)
        obtain ⟨σ13, τ13⟩ := u13
        obtain ⟨hR, f13, fL13, hq13, hp13_0, hp13_1, hp13_2⟩ : P_X12_operand σ τ r13 σ13 τ13 := hp13
        have pvo := hp13_0
        have hP : va_P D vwCl (gw cA ad σ13 τ13) H13 := hP
        have hFL := hFL.step fL13 (by decide)
        have hF := hF.step f13 (by decide)
        have gSI := SI.fr gSI hR f13 (by decide)
        have t14 : (σ13 387 2).toInt = (σ 387 2).toInt := congrArg Int32.toInt (f13.at 387 2 (by decide))
        have hr15 := rg_12_38 hR (k := 387) (by decide) (by decide)
        have hr16 := rg_12_39 hR (k := 387) (by decide) (by decide)
        have hr17 := rg_12_40 hR (k := 387) (by decide) (by decide)
        have hr18 := rg_12_42 hR (k := 387) (by decide) (by decide)
        refine r_if_ne (tgt := 48) hx hb dX12_sentence_122 (by decide) (fun c19 => ?_) (fun c19 => ?_)
        · replace hp13_0 := hp13_0.resolve_left (by omega)
          replace hp13_1 := hp13_1.resolve_left (by omega)
          replace hp13_2 := hp13_2.resolve_left (by omega)
          have gPV : PV σ13 := by first | exact gPV | exact pvo.resolve_left (by omega)
          exact K48 σ13 τ13 H13 locs13 x1 ls hR hF hFL hP hS (by omega) (by omega) (by omega) (by omega) (by omega) (by omega) (by omega) gSI gPV (lv_sub hl [0, 1] rfl) (by omega)
        · clear hp13_0 hp13_1 hp13_2
          refine r_iconst hx hb dX12_sentence_125 (by decide) (fun z20 ez20 => ?_)
          refine lv_aload_n hx hb dX12_sentence_126 rfl (lv_at hl 0 rfl) ?_
          refine fg_12_16 (k := 387) hx hb hts in_X12_sentence_12 hown hK hP (by decide) (by decide) (hts _ lk_X12_sentence_179) dX12_sentence_127 ?_
          have b22 := And.intro (ti_lo (σ13 387 16)) (ti_hi (σ13 387 16))
          refine r_isub hx hb dX12_sentence_130 (by omega) (fun z21 ez21 => ?_)
          exact r_iret hx hb hr hK hP hS hk dX12_sentence_131 (show P_X12_sentence σ0 τ0 z21 σ13 τ13 from ⟨hR, hF, hFL, by omega, gSI⟩)
      · exfalso; omega
    · refine lv_aload_n hx hb dX12_sentence_59 rfl (lv_at hl 0 rfl) ?_
      refine fg_12_11 (k := 387) hx hb hts in_X12_sentence_12 hown hK hP (by decide) (by decide) (hts _ lk_X12_sentence_159) dX12_sentence_60 ?_
      refine r_if_ne (tgt := 101) hx hb dX12_sentence_63 (by decide) (fun c23 => ?_) (fun c23 => ?_)
      · refine lv_aload_n hx hb dX12_sentence_101 rfl (lv_at hl 0 rfl) ?_
        refine fg_12_42 (k := 387) hx hb hts in_X12_sentence_12 hown hK hP (by decide) (by decide) (hts _ lk_X12_sentence_449) dX12_sentence_102 ?_
        refine r_if_eq (tgt := 118) hx hb dX12_sentence_105 (by decide) (fun c24 => ?_) (fun c24 => ?_)
        · exfalso; omega
        · refine lv_aload_n hx hb dX12_sentence_108 rfl (lv_at hl 0 rfl) ?_
          refine r_cVi (k := 387) (As := []) (rest := []) ⟨hx, hb, hml, hown, hts⟩ hK hP hN hS (c_X12_behind l D cA ad hI σ τ hR (by omega) (by omega) gPV) (cwV 0 hts gX12_sentence_X12_behind rfl rfl rfl (by decide +kernel) ⟨by decide, by decide⟩) (rv_M hK hP (by decide) (by decide)) rfl hl.1 rfl (Nat.le_of_ble_eq_true rfl) dX12_sentence_109 (Nat.zero_le _) (Nat.zero_le _) (fun r25 u25 H25 locs25 hp25 hP hS => ?_)
          obtain ⟨σ25, τ25⟩ := u25
          obtain ⟨hR, f25, fL25, hq25, hp25_0, hp25_1, hp25_2⟩ : P_X12_behind σ τ r25 σ25 τ25 := hp25
          have pvo := hp25_0
          have hP : va_P D vwCl (gw cA ad σ25 τ25) H25 := hP
          have hFL := hFL.step fL25 (by decide)
          have hF := hF.step f25 (by decide)
          have gSI := SI.fr gSI hR f25 (by decide)
          have t26 : (σ25 387 2).toInt = (σ 387 2).toInt := congrArg Int32.toInt (f25.at 387 2 (by decide))
          have t27 : (σ25 387 39).toInt = (σ 387 39).toInt := congrArg Int32.toInt (f25.at 387 39 (by decide))
          have hr28 := rg_12_38 hR (k := 387) (by decide) (by decide)
          have hr29 := rg_12_40 hR (k := 387) (by decide) (by decide)
          have hr30 := rg_12_42 hR (k := 387) (by decide) (by decide)
          refine r_if_ne (tgt := 48) hx hb dX12_sentence_112 (by decide) (fun c31 => ?_) (fun c31 => ?_)
          · replace hp25_0 := hp25_0.resolve_left (by omega)
            replace hp25_1 := hp25_1.resolve_left (by omega)
            replace hp25_2 := hp25_2.resolve_left (by omega)
            have gPV : PV σ25 := by first | exact gPV | exact pvo.resolve_left (by omega)
            exact K48 σ25 τ25 H25 locs25 x1 ls hR hF hFL hP hS (by omega) (by omega) (by omega) (by omega) (by omega) (by omega) (by omega) gSI gPV (lv_sub hl [0, 1] rfl) (by omega)
          · clear hp25_0 hp25_1 hp25_2
            refine lv_goto (tgt := 125) hx hb dX12_sentence_115 (by decide) ?_
            refine r_iconst hx hb dX12_sentence_125 (by decide) (fun z32 ez32 => ?_)
            refine lv_aload_n hx hb dX12_sentence_126 rfl (lv_at hl 0 rfl) ?_
            refine fg_12_16 (k := 387) hx hb hts in_X12_sentence_12 hown hK hP (by decide) (by decide) (hts _ lk_X12_sentence_179) dX12_sentence_127 ?_
            have b34 := And.intro (ti_lo (σ25 387 16)) (ti_hi (σ25 387 16))
            refine r_isub hx hb dX12_sentence_130 (by omega) (fun z33 ez33 => ?_)
            exact r_iret hx hb hr hK hP hS hk dX12_sentence_131 (show P_X12_sentence σ0 τ0 z33 σ25 τ25 from ⟨hR, hF, hFL, by omega, gSI⟩)
      · refine lv_aload_n hx hb dX12_sentence_66 rfl (lv_at hl 0 rfl) ?_
        refine r_cVv (k := 387) (As := []) (rest := []) ⟨hx, hb, hml, hown, hts⟩ hK hP hN hS (c_X12_nots l D cA ad hI σ τ hR (by omega) (by omega) gPV) (cwV 0 hts gX12_sentence_X12_nots rfl rfl rfl (by decide +kernel) ⟨by decide, by decide⟩) (rv_M hK hP (by decide) (by decide)) rfl hl.1 rfl (Nat.le_of_ble_eq_true rfl) dX12_sentence_67 (Nat.zero_le _) (Nat.zero_le _) (fun u35 H35 locs35 hp35 hP hS => ?_)
        obtain ⟨σ35, τ35⟩ := u35
        obtain ⟨hR, f35, fL35, hp35_0, hp35_1, gnPV⟩ : P_X12_nots σ τ σ35 τ35 := hp35
        have hP : va_P D vwCl (gw cA ad σ35 τ35) H35 := hP
        obtain rfl := FrL.nil fL35
        have hF := hF.step f35 (by decide)
        have gSI := SI.fr gSI hR f35 (by decide)
        have t36 : (σ35 387 2).toInt = (σ 387 2).toInt := congrArg Int32.toInt (f35.at 387 2 (by decide))
        have t37 : (σ35 387 39).toInt = (σ 387 39).toInt := congrArg Int32.toInt (f35.at 387 39 (by decide))
        have t38 : (σ35 387 42).toInt = (σ 387 42).toInt := congrArg Int32.toInt (f35.at 387 42 (by decide))
        have t39 : (σ35 387 11).toInt = (σ 387 11).toInt := congrArg Int32.toInt (f35.at 387 11 (by decide))
        have hr40 := rg_12_38 hR (k := 387) (by decide) (by decide)
        have hr41 := rg_12_40 hR (k := 387) (by decide) (by decide)
        have gPV := gnPV
        refine lv_aload_n hx hb dX12_sentence_70 rfl (lv_at hl 0 rfl) ?_
        refine r_bipush hx hb dX12_sentence_71 (by decide) (fun z42 ez42 => ?_)
        refine r_cVv (k := 387) (As := [.int z42]) (rest := []) ⟨hx, hb, hml, hown, hts⟩ hK hP hN hS (c_X12_joins l D cA ad hI σ35 τ hR z42 (by omega) (by omega) (by omega) gPV) (cwV 1 hts gX12_sentence_X12_joins rfl rfl rfl (by decide +kernel) ⟨by decide, by decide⟩) (rv_M hK hP (by decide) (by decide)) rfl hl.1 rfl (Nat.le_of_ble_eq_true rfl) dX12_sentence_73 (Nat.zero_le _) (Nat.zero_le _) (fun u43 H43 locs43 hp43 hP hS => ?_)
        obtain ⟨σ43, τ43⟩ := u43
        obtain ⟨hR, f43, fL43, hp43_0, hp43_1, hp43_2, gnPV⟩ : P_X12_joins σ35 τ z42 σ43 τ43 := hp43
        have hP : va_P D vwCl (gw cA ad σ43 τ43) H43 := hP
        obtain rfl := FrL.nil fL43
        have hF := hF.step f43 (by decide)
        have gSI := SI.fr gSI hR f43 (by decide)
        have t44 : (σ43 387 2).toInt = (σ35 387 2).toInt := congrArg Int32.toInt (f43.at 387 2 (by decide))
        have t45 : (σ43 387 39).toInt = (σ35 387 39).toInt := congrArg Int32.toInt (f43.at 387 39 (by decide))
        have t46 : (σ43 387 42).toInt = (σ35 387 42).toInt := congrArg Int32.toInt (f43.at 387 42 (by decide))
        have t47 : (σ43 387 11).toInt = (σ35 387 11).toInt := congrArg Int32.toInt (f43.at 387 11 (by decide))
        have hr48 := rg_12_38 hR (k := 387) (by decide) (by decide)
        have hr49 := rg_12_40 hR (k := 387) (by decide) (by decide)
        have gPV := gnPV
        refine lv_aload_n hx hb dX12_sentence_76 rfl (lv_at hl 0 rfl) ?_
        refine fg_12_40 (k := 387) hx hb hts in_X12_sentence_12 hown hK hP (by decide) (by decide) (hts _ lk_X12_sentence_434) dX12_sentence_77 ?_
        refine r_if_le (tgt := 96) hx hb dX12_sentence_80 (by decide) (fun c50 => ?_) (fun c50 => ?_)
        · refine r_iconst hx hb dX12_sentence_96 (by decide) (fun z51 ez51 => ?_)
          refine lv_istore_n (lv' := [(1, .int z51), (0, .ref (ad 387))]) hx hb dX12_sentence_97 rfl hl (by decide) rfl (fun ls hl => ?_)
          refine lv_goto (tgt := 48) hx hb dX12_sentence_98 (by decide) ?_
          have gPV : PV σ43 := by first | exact gPV | exact pvo.resolve_left (by omega)
          exact K48 σ43 τ H43 locs43 z51 ls hR hF hFL hP hS (by omega) (by omega) (by omega) (by omega) (by omega) (by omega) (by omega) gSI gPV (lv_sub hl [1, 0] rfl) (by omega)
        · refine lv_aload_n hx hb dX12_sentence_83 rfl (lv_at hl 0 rfl) ?_
          refine r_iconst hx hb dX12_sentence_84 (by decide) (fun z52 ez52 => ?_)
          refine r_cVi (k := 387) (As := [.int z52]) (rest := []) ⟨hx, hb, hml, hown, hts⟩ hK hP hN hS (c_X12_bad l D cA ad hI σ43 τ hR z52 (by omega)) (cwV 1 hts gX12_sentence_X12_bad rfl rfl rfl (by decide +kernel) ⟨by decide, by decide⟩) (rv_M hK hP (by decide) (by decide)) rfl hl.1 rfl (Nat.le_of_ble_eq_true rfl) dX12_sentence_85 (Nat.zero_le _) (Nat.zero_le _) (fun r53 u53 H53 locs53 hp53 hP hS => ?_)
          obtain ⟨σ53, τ53⟩ := u53
          obtain ⟨hR, f53, fL53, hq53⟩ : P_X12_bad σ43 τ z52 r53 σ53 τ53 := hp53
          have hP : va_P D vwCl (gw cA ad σ53 τ53) H53 := hP
          obtain rfl := FrL.nil fL53
          have hF := hF.step f53 (by decide)
          have gPV := PV.fr gPV hR f53 (by decide)
          have gSI := SI.fr gSI hR f53 (by decide)
          have t54 : (σ53 387 2).toInt = (σ43 387 2).toInt := congrArg Int32.toInt (f53.at 387 2 (by decide))
          have t55 : (σ53 387 39).toInt = (σ43 387 39).toInt := congrArg Int32.toInt (f53.at 387 39 (by decide))
          have t56 : (σ53 387 42).toInt = (σ43 387 42).toInt := congrArg Int32.toInt (f53.at 387 42 (by decide))
          have t57 : (σ53 387 11).toInt = (σ43 387 11).toInt := congrArg Int32.toInt (f53.at 387 11 (by decide))
          have t58 : (σ53 387 38).toInt = (σ43 387 38).toInt := congrArg Int32.toInt (f53.at 387 38 (by decide))
          have t59 : (σ53 387 40).toInt = (σ43 387 40).toInt := congrArg Int32.toInt (f53.at 387 40 (by decide))
          refine lv_pop hx hb dX12_sentence_88 rfl ?_
          refine r_iconst hx hb dX12_sentence_89 (by decide) (fun z60 ez60 => ?_)
          refine lv_aload_n hx hb dX12_sentence_90 rfl (lv_at hl 0 rfl) ?_
          refine fg_12_16 (k := 387) hx hb hts in_X12_sentence_12 hown hK hP (by decide) (by decide) (hts _ lk_X12_sentence_179) dX12_sentence_91 ?_
          have b62 := And.intro (ti_lo (σ53 387 16)) (ti_hi (σ53 387 16))
          refine r_isub hx hb dX12_sentence_94 (by omega) (fun z61 ez61 => ?_)
          exact r_iret hx hb hr hK hP hS hk dX12_sentence_95 (show P_X12_sentence σ0 τ0 z61 σ53 τ from ⟨hR, hF, hFL, by omega, gSI⟩)
set_option maxHeartbeats 4000000 in
theorem B_X12_sentence_146 (p : Program) (l : Launch) (e : Env) (s : State) (m : MethodId) (args : Array Value) (below : List Frame) (meth : Method) (c : Code) (D : va_G) (cA : Nat → ClassId) (ad : Nat → Nat) (σ0 : Nat → Nat → Int32) (τ0 : Nat → Nat → Int64)  (n : Nat) (C : Cy p s m args meth c cX12_sentence 3 wsX12_sentence RX12 D cA ad (some .int)) (gSI0 : SI σ0) (K48 : J_X12_sentence_48 p l e s m args below meth c D cA ad σ0 τ0 n) (K146 : J_X12_sentence_146 p l e s m args below meth c D cA ad σ0 τ0 n) : J_X12_sentence_146 p l e s m args below meth c D cA ad σ0 τ0 (n + 1) := by
  obtain ⟨hx, hb, hml, hown, hts, hK, hk, hr, hI, hN⟩ := C
  intro σ τ H locs x1 x2 ls hR hF hFL hP hS hc0 hc1 hc2 hc3 hc4 hc5 hc6 hc7 hi0 hi1 gPV hl hm
  refine lv_iload_n hx hb dX12_sentence_146 rfl (lv_at hl 2 rfl) ?_
  refine r_iconst hx hb dX12_sentence_147 (by decide) (fun z1 ez1 => ?_)
  refine lv_aload_n hx hb dX12_sentence_148 rfl (lv_at hl 0 rfl) ?_
  refine fg_12_38 (k := 387) hx hb hts in_X12_sentence_12 hown hK hP (by decide) (by decide) (hts _ lk_X12_sentence_431) dX12_sentence_149 ?_
  refine r_imulL (n := 3) hx hb dX12_sentence_152 (by omega) (by omega) (fun z2 ez2 => ?_)
  refine r_icmp_ge (tgt := 178) hx hb dX12_sentence_153 (by decide) (fun c3 => ?_) (fun c3 => ?_)
  · refine lv_aload_n hx hb dX12_sentence_178 rfl (lv_at hl 0 rfl) ?_
    refine fg_12_39 (k := 387) hx hb hts in_X12_sentence_12 hown hK hP (by decide) (by decide) (hts _ lk_X12_sentence_446) dX12_sentence_179 ?_
    exact r_iret hx hb hr hK hP hS hk dX12_sentence_182 (show P_X12_sentence σ0 τ0 (σ 387 39) σ τ from ⟨hR, hF, hFL, by omega, SI.sent gSI0 hF (by decide) hR gPV (by omega) (fun i hi => hi1 i (by omega))⟩)
  · refine lv_aload_n hx hb dX12_sentence_156 rfl (lv_at hl 0 rfl) ?_
    refine fg_12_6 (k := 387) hx hb hts in_X12_sentence_12 hown hK hP (by decide) (by decide) (hts _ lk_X12_sentence_33) dX12_sentence_157 ?_
    refine r_sipush hx hb dX12_sentence_160 (by decide) (fun z4 ez4 => ?_)
    refine lv_iload_n hx hb dX12_sentence_163 rfl (lv_at hl 2 rfl) ?_
    refine r_iadd hx hb dX12_sentence_164 (by omega) (fun z5 ez5 => ?_)
    refine lv_aload_n hx hb dX12_sentence_165 rfl (lv_at hl 0 rfl) ?_
    refine fg_12_8 (k := 387) hx hb hts in_X12_sentence_12 hown hK hP (by decide) (by decide) (hts _ lk_X12_sentence_40) dX12_sentence_166 ?_
    refine lv_iload_n hx hb dX12_sentence_169 rfl (lv_at hl 2 rfl) ?_
    obtain ⟨j6, ej6⟩ : ∃ j : Nat, x2.toInt = (j : Int) := ⟨_, ti_nat (by omega)⟩
    refine ad_mread (k := 391) (j := j6) hx hb hK hP (by decide) (by decide) ej6 (by omega) dX12_sentence_170 ?_
    obtain ⟨j7, ej7⟩ : ∃ j : Nat, z5.toInt = (j : Int) := ⟨_, ti_nat (by omega)⟩
    refine as_ms (k := 389) (j := j7) hx hb hK hP hI hR hS (by decide) (by decide) ej7 (by omega) (rx_ms_247 (by decide) (by decide) (by omega) (by omega)) dX12_sentence_171 (fun σ8 H8 locs8 u8 v8 hR hP hS => ?_)
    have uz := u8
    have vz := v8
    have hF := hF.puts u8 7 rfl (by decide) (by decide) (by omega) (by omega)
    have gPV := PV.putV gPV hR u8 (by intro q hq; simp only [Gd_PV, List.mem_cons, List.not_mem_nil, or_false] at hq; rcases hq with rfl | rfl | rfl | rfl | rfl <;> dsimp only [inRc] <;> omega)
    have t9 : (σ8 387 2).toInt = (σ 387 2).toInt := congrArg Int32.toInt (u8 387 2 (by omega))
    have t10 : (σ8 387 38).toInt = (σ 387 38).toInt := congrArg Int32.toInt (u8 387 38 (by omega))
    have t11 : (σ8 387 39).toInt = (σ 387 39).toInt := congrArg Int32.toInt (u8 387 39 (by omega))
    have t12 : (σ8 387 40).toInt = (σ 387 40).toInt := congrArg Int32.toInt (u8 387 40 (by omega))
    have t13 : (σ8 387 42).toInt = (σ 387 42).toInt := congrArg Int32.toInt (u8 387 42 (by omega))
    have t14 : (σ8 387 11).toInt = (σ 387 11).toInt := congrArg Int32.toInt (u8 387 11 (by omega))
    have t15 : (σ8 389 246).toInt = (σ 389 246).toInt := congrArg Int32.toInt (u8 389 246 (by omega))
    have t16 : (σ8 391 j6).toInt = (σ 391 j6).toInt := congrArg Int32.toInt (u8 391 j6 (by omega))
    refine r_iinc (k := 2) (lv1 := fun z17 => [(2, .int z17), (0, .ref (ad 387)), (1, .int x1)]) hx hb dX12_sentence_172 hl rfl (by decide) (fun _ => rfl) (by decide) (by omega) (fun z17 ls ez17 hl => ?_)
    refine lv_goto (tgt := 146) hx hb dX12_sentence_175 (by decide) ?_
    exact K146 σ8 τ H8 locs8 x1 z17 ls hR hF hFL hP hS (by omega) (by omega) (by omega) (by omega) (by omega) (by omega) (by omega) (by omega) (by omega) (by first | exact (fun i hi => absurd hi (by omega)) | exact (fun i hi => CPs uz vz (by omega) (fun k hk => hi1 k (by omega)) i (by omega))) gPV (lv_sub hl [1, 2, 0] rfl) (by omega)
theorem A_X12_sentence (p : Program) (l : Launch) (e : Env) (s : State) (m : MethodId) (args : Array Value) (below : List Frame) (meth : Method) (c : Code) (D : va_G) (cA : Nat → ClassId) (ad : Nat → Nat) (σ0 : Nat → Nat → Int32) (τ0 : Nat → Nat → Int64)  (C : Cy p s m args meth c cX12_sentence 3 wsX12_sentence RX12 D cA ad (some .int)) (gSI0 : SI σ0) : ∀ n : Nat, J_X12_sentence_48 p l e s m args below meth c D cA ad σ0 τ0 n ∧ J_X12_sentence_146 p l e s m args below meth c D cA ad σ0 τ0 n := by
  intro n
  induction n with
  | zero =>
    exact ⟨(by intro σ τ H locs x1 ls hR hF hFL hP hS hc0 hc1 hc2 hc3 hc4 hc5 hi0 gSI gPV hl hm; exfalso; omega), (by intro σ τ H locs x1 x2 ls hR hF hFL hP hS hc0 hc1 hc2 hc3 hc4 hc5 hc6 hc7 hi0 hi1 gPV hl hm; exfalso; omega)⟩
  | succ n ih =>
    exact ⟨B_X12_sentence_48 p l e s m args below meth c D cA ad σ0 τ0 n C gSI0 ih.1 ih.2, B_X12_sentence_146 p l e s m args below meth c D cA ad σ0 τ0 n C gSI0 ih.1 ih.2⟩
set_option maxHeartbeats 4000000 in
theorem c_X12_sentence (l : Launch) (D : va_G) (cA : Nat → ClassId) (ad : Nat → Nat) (hI : Inj ad) (σ0 : Nat → Nat → Int32) (τ0 : Nat → Nat → Int64) (hR : Rg σ0)  (gSI0 : SI σ0) : Met l yX12_sentence wsX12_sentence ({ frames := 3, cells := 0, slots := 0, locals := 69 } : Room) (WQc D cA ad [.ref (ad 387)] σ0 τ0) (va_Qi (fun (r : Int32) (u : SS) => P_X12_sentence σ0 τ0 r u.1 u.2) (WB D cA ad) (AA ad)) 0 0 (AA ad) := by
  refine Met.ofW (cc := cX12_sentence) (maxL := 3) (ret := (some .int)) (by decide) rfl ?_
  intro p e s m args below meth c s₁ B hml hv
  obtain ⟨rfl, hP, hK, hN⟩ := hv
  have C : Cy p s m _ meth c cX12_sentence 3 wsX12_sentence RX12 D cA ad (some .int) := ⟨B.exec, B.bytes, hml, findClass_of_methodNamed B.named, atoms_spec (ws := wsX12_sentence) B.pre, hK, B.notSynchronized, B.returns, hI, hN⟩
  have hl := lv_entry ([.ref (ad 387)]) (n := 3) (Nat.le_of_ble_eq_true rfl)
  rw [lg_entry_eq]
  generalize (lg_sl ([.ref (ad 387)]) ++ List.replicate (3 - (lg_sl ([.ref (ad 387)])).length) Slot.unset).toArray = ls at hl ⊢
  have hl : lv_has ls 3 [(0, .ref (ad 387))] := hl
  have hS : va_S (AA ad) s.heap s.heap [] := va_S.rf
  have hF : Fr L_X12_sentence σ0 σ0 := Fr.rf
  have hFL : FrL LL_X12_sentence τ0 τ0 := FrL.rf
  have gSI := gSI0
  have hA := A_X12_sentence p l e s m _ below meth c D cA ad σ0 τ0 C gSI0 1192437
  have K48 := hA.1
  have K146 := hA.2
  clear hA
  obtain ⟨hx, hb, _, hown, hts, _, hk, hr, _, _⟩ := C
  have hrt38 := rg_12_38 hR (k := 387) (by decide) (by decide)
  have hrt39 := rg_12_39 hR (k := 387) (by decide) (by decide)
  have hrt40 := rg_12_40 hR (k := 387) (by decide) (by decide)
  have hrt42 := rg_12_42 hR (k := 387) (by decide) (by decide)
  have hrt2 := rg_12_2 hR (k := 387) (by decide) (by decide)
  refine lv_aload_n hx hb dX12_sentence_0 rfl (lv_at hl 0 rfl) ?_
  refine r_iconst hx hb dX12_sentence_1 (by decide) (fun z1 ez1 => ?_)
  refine fp_12_0 (k := 387) hx hb hts in_X12_sentence_12 hown hK hP (by decide) (by decide) (hts _ lk_X12_sentence_1) hI hR hS (by omega) dX12_sentence_2 (fun σ2 H2 locs2 u2 v2 hR hP hS => ?_)
  have hF := hF.puts u2 0 rfl (by decide) (by decide) (by decide) (by decide)
  have gSI := SI.put gSI hR u2 (by decide)
  have t3 : (σ2 387 38).toInt = (σ0 387 38).toInt := congrArg Int32.toInt (u2 387 38 (by omega))
  have t4 : (σ2 387 39).toInt = (σ0 387 39).toInt := congrArg Int32.toInt (u2 387 39 (by omega))
  have t5 : (σ2 387 40).toInt = (σ0 387 40).toInt := congrArg Int32.toInt (u2 387 40 (by omega))
  have t6 : (σ2 387 42).toInt = (σ0 387 42).toInt := congrArg Int32.toInt (u2 387 42 (by omega))
  have t7 : (σ2 387 11).toInt = (σ0 387 11).toInt := congrArg Int32.toInt (u2 387 11 (by omega))
  have t8 : (σ2 387 2).toInt = (σ0 387 2).toInt := congrArg Int32.toInt (u2 387 2 (by omega))
  refine lv_aload_n hx hb dX12_sentence_5 rfl (lv_at hl 0 rfl) ?_
  refine r_sipush hx hb dX12_sentence_6 (by decide) (fun z9 ez9 => ?_)
  refine r_cVv (k := 387) (As := [.int z9]) (rest := []) ⟨hx, hb, hml, hown, hts⟩ hK hP hN hS (c_X12_taken l D cA ad hI σ2 τ0 hR z9 (by omega)) (cwV 1 hts gX12_sentence_X12_taken rfl rfl rfl (by decide +kernel) ⟨by decide, by decide⟩) (rv_M hK hP (by decide) (by decide)) rfl hl.1 rfl (Nat.le_of_ble_eq_true rfl) dX12_sentence_9 (Nat.zero_le _) (Nat.zero_le _) (fun u10 H10 locs10 hp10 hP hS => ?_)
  obtain ⟨σ10, τ10⟩ := u10
  obtain ⟨hR, f10, fL10, hp10_0, hp10_1, hp10_2, hp10_3⟩ : P_X12_taken σ2 τ0 z9 σ10 τ10 := hp10
  have hP : va_P D vwCl (gw cA ad σ10 τ10) H10 := hP
  obtain rfl := FrL.nil fL10
  have hF := hF.step f10 (by decide)
  have gSI := SI.fr gSI hR f10 (by decide)
  have t11 : (σ10 387 38).toInt = (σ2 387 38).toInt := congrArg Int32.toInt (f10.at 387 38 (by decide))
  have t12 : (σ10 387 39).toInt = (σ2 387 39).toInt := congrArg Int32.toInt (f10.at 387 39 (by decide))
  have t13 : (σ10 387 40).toInt = (σ2 387 40).toInt := congrArg Int32.toInt (f10.at 387 40 (by decide))
  have t14 : (σ10 387 42).toInt = (σ2 387 42).toInt := congrArg Int32.toInt (f10.at 387 42 (by decide))
  have t15 : (σ10 387 11).toInt = (σ2 387 11).toInt := congrArg Int32.toInt (f10.at 387 11 (by decide))
  have hr16 := rg_12_2 hR (k := 387) (by decide) (by decide)
  refine lv_aload_n hx hb dX12_sentence_12 rfl (lv_at hl 0 rfl) ?_
  refine r_iconst hx hb dX12_sentence_13 (by decide) (fun z17 ez17 => ?_)
  refine fp_12_15 (k := 387) hx hb hts in_X12_sentence_12 hown hK hP (by decide) (by decide) (hts _ lk_X12_sentence_176) hI hR hS dX12_sentence_14 (fun σ18 H18 locs18 u18 v18 hR hP hS => ?_)
  have hF := hF.puts u18 3 rfl (by decide) (by decide) (by decide) (by decide)
  have gSI := SI.put gSI hR u18 (by decide)
  have t19 : (σ18 387 38).toInt = (σ10 387 38).toInt := congrArg Int32.toInt (u18 387 38 (by omega))
  have t20 : (σ18 387 39).toInt = (σ10 387 39).toInt := congrArg Int32.toInt (u18 387 39 (by omega))
  have t21 : (σ18 387 40).toInt = (σ10 387 40).toInt := congrArg Int32.toInt (u18 387 40 (by omega))
  have t22 : (σ18 387 42).toInt = (σ10 387 42).toInt := congrArg Int32.toInt (u18 387 42 (by omega))
  have t23 : (σ18 387 11).toInt = (σ10 387 11).toInt := congrArg Int32.toInt (u18 387 11 (by omega))
  have t24 : (σ18 387 2).toInt = (σ10 387 2).toInt := congrArg Int32.toInt (u18 387 2 (by omega))
  refine lv_aload_n hx hb dX12_sentence_17 rfl (lv_at hl 0 rfl) ?_
  refine r_iconst hx hb dX12_sentence_18 (by decide) (fun z25 ez25 => ?_)
  refine fp_12_38 (k := 387) hx hb hts in_X12_sentence_12 hown hK hP (by decide) (by decide) (hts _ lk_X12_sentence_431) hI hR hS (by omega) dX12_sentence_19 (fun σ26 H26 locs26 u26 v26 hR hP hS => ?_)
  have hF := hF.puts u26 2 rfl (by decide) (by decide) (by decide) (by decide)
  have gSI := SI.put gSI hR u26 (by decide)
  have t27 : (σ26 387 39).toInt = (σ18 387 39).toInt := congrArg Int32.toInt (u26 387 39 (by omega))
  have t28 : (σ26 387 40).toInt = (σ18 387 40).toInt := congrArg Int32.toInt (u26 387 40 (by omega))
  have t29 : (σ26 387 42).toInt = (σ18 387 42).toInt := congrArg Int32.toInt (u26 387 42 (by omega))
  have t30 : (σ26 387 11).toInt = (σ18 387 11).toInt := congrArg Int32.toInt (u26 387 11 (by omega))
  have t31 : (σ26 387 2).toInt = (σ18 387 2).toInt := congrArg Int32.toInt (u26 387 2 (by omega))
  refine lv_aload_n hx hb dX12_sentence_22 rfl (lv_at hl 0 rfl) ?_
  refine r_iconst hx hb dX12_sentence_23 (by decide) (fun z32 ez32 => ?_)
  refine fp_12_39 (k := 387) hx hb hts in_X12_sentence_12 hown hK hP (by decide) (by decide) (hts _ lk_X12_sentence_446) hI hR hS (by omega) dX12_sentence_24 (fun σ33 H33 locs33 u33 v33 hR hP hS => ?_)
  have hF := hF.puts u33 2 rfl (by decide) (by decide) (by decide) (by decide)
  have gSI := SI.put gSI hR u33 (by decide)
  have t34 : (σ33 387 40).toInt = (σ26 387 40).toInt := congrArg Int32.toInt (u33 387 40 (by omega))
  have t35 : (σ33 387 42).toInt = (σ26 387 42).toInt := congrArg Int32.toInt (u33 387 42 (by omega))
  have t36 : (σ33 387 11).toInt = (σ26 387 11).toInt := congrArg Int32.toInt (u33 387 11 (by omega))
  have t37 : (σ33 387 2).toInt = (σ26 387 2).toInt := congrArg Int32.toInt (u33 387 2 (by omega))
  have t38 : (σ33 387 38).toInt = (σ26 387 38).toInt := congrArg Int32.toInt (u33 387 38 (by omega))
  refine lv_aload_n hx hb dX12_sentence_27 rfl (lv_at hl 0 rfl) ?_
  refine r_iconst hx hb dX12_sentence_28 (by decide) (fun z39 ez39 => ?_)
  refine fp_12_40 (k := 387) hx hb hts in_X12_sentence_12 hown hK hP (by decide) (by decide) (hts _ lk_X12_sentence_434) hI hR hS (by omega) dX12_sentence_29 (fun σ40 H40 locs40 u40 v40 hR hP hS => ?_)
  have hF := hF.puts u40 2 rfl (by decide) (by decide) (by decide) (by decide)
  have gSI := SI.put gSI hR u40 (by decide)
  have t41 : (σ40 387 42).toInt = (σ33 387 42).toInt := congrArg Int32.toInt (u40 387 42 (by omega))
  have t42 : (σ40 387 11).toInt = (σ33 387 11).toInt := congrArg Int32.toInt (u40 387 11 (by omega))
  have t43 : (σ40 387 2).toInt = (σ33 387 2).toInt := congrArg Int32.toInt (u40 387 2 (by omega))
  have t44 : (σ40 387 38).toInt = (σ33 387 38).toInt := congrArg Int32.toInt (u40 387 38 (by omega))
  have t45 : (σ40 387 39).toInt = (σ33 387 39).toInt := congrArg Int32.toInt (u40 387 39 (by omega))
  refine lv_aload_n hx hb dX12_sentence_32 rfl (lv_at hl 0 rfl) ?_
  refine r_iconst hx hb dX12_sentence_33 (by decide) (fun z46 ez46 => ?_)
  refine fp_12_41 (k := 387) hx hb hts in_X12_sentence_12 hown hK hP (by decide) (by decide) (hts _ lk_X12_sentence_440) hI hR hS dX12_sentence_34 (fun σ47 H47 locs47 u47 v47 hR hP hS => ?_)
  have hF := hF.puts u47 2 rfl (by decide) (by decide) (by decide) (by decide)
  have gSI := SI.put gSI hR u47 (by decide)
  have t48 : (σ47 387 42).toInt = (σ40 387 42).toInt := congrArg Int32.toInt (u47 387 42 (by omega))
  have t49 : (σ47 387 11).toInt = (σ40 387 11).toInt := congrArg Int32.toInt (u47 387 11 (by omega))
  have t50 : (σ47 387 2).toInt = (σ40 387 2).toInt := congrArg Int32.toInt (u47 387 2 (by omega))
  have t51 : (σ47 387 38).toInt = (σ40 387 38).toInt := congrArg Int32.toInt (u47 387 38 (by omega))
  have t52 : (σ47 387 39).toInt = (σ40 387 39).toInt := congrArg Int32.toInt (u47 387 39 (by omega))
  have t53 : (σ47 387 40).toInt = (σ40 387 40).toInt := congrArg Int32.toInt (u47 387 40 (by omega))
  refine lv_aload_n hx hb dX12_sentence_37 rfl (lv_at hl 0 rfl) ?_
  refine r_iconst hx hb dX12_sentence_38 (by decide) (fun z54 ez54 => ?_)
  refine fp_12_42 (k := 387) hx hb hts in_X12_sentence_12 hown hK hP (by decide) (by decide) (hts _ lk_X12_sentence_449) hI hR hS (by omega) dX12_sentence_39 (fun σ55 H55 locs55 u55 v55 hR hP hS => ?_)
  have hF := hF.puts u55 2 rfl (by decide) (by decide) (by decide) (by decide)
  have gSI := SI.put gSI hR u55 (by decide)
  have t56 : (σ55 387 11).toInt = (σ47 387 11).toInt := congrArg Int32.toInt (u55 387 11 (by omega))
  have t57 : (σ55 387 2).toInt = (σ47 387 2).toInt := congrArg Int32.toInt (u55 387 2 (by omega))
  have t58 : (σ55 387 38).toInt = (σ47 387 38).toInt := congrArg Int32.toInt (u55 387 38 (by omega))
  have t59 : (σ55 387 39).toInt = (σ47 387 39).toInt := congrArg Int32.toInt (u55 387 39 (by omega))
  have t60 : (σ55 387 40).toInt = (σ47 387 40).toInt := congrArg Int32.toInt (u55 387 40 (by omega))
  have gPV := PV.start (σ := σ55) (by omega) (by omega) (by omega)
  refine lv_aload_n hx hb dX12_sentence_42 rfl (lv_at hl 0 rfl) ?_
  refine r_cVv (k := 387) (As := []) (rest := []) ⟨hx, hb, hml, hown, hts⟩ hK hP hN hS (c_X12_next l D cA ad hI σ55 τ0 hR) (cwV 0 hts gX12_sentence_X12_next rfl rfl rfl (by decide +kernel) ⟨by decide, by decide⟩) (rv_M hK hP (by decide) (by decide)) rfl hl.1 rfl (Nat.le_of_ble_eq_true rfl) dX12_sentence_43 (Nat.zero_le _) (Nat.zero_le _) (fun u61 H61 locs61 hp61 hP hS => ?_)
  obtain ⟨σ61, τ61⟩ := u61
  obtain ⟨hR, f61, fL61, hp61_0, hp61_1, hp61_2⟩ : P_X12_next σ55 τ0 σ61 τ61 := hp61
  have hP : va_P D vwCl (gw cA ad σ61 τ61) H61 := hP
  have hFL := hFL.step fL61 (by decide)
  have hF := hF.step f61 (by decide)
  have gPV := PV.fr gPV hR f61 (by decide)
  have gSI := SI.fr gSI hR f61 (by decide)
  have t62 : (σ61 387 2).toInt = (σ55 387 2).toInt := congrArg Int32.toInt (f61.at 387 2 (by decide))
  have t63 : (σ61 387 38).toInt = (σ55 387 38).toInt := congrArg Int32.toInt (f61.at 387 38 (by decide))
  have t64 : (σ61 387 39).toInt = (σ55 387 39).toInt := congrArg Int32.toInt (f61.at 387 39 (by decide))
  have t65 : (σ61 387 40).toInt = (σ55 387 40).toInt := congrArg Int32.toInt (f61.at 387 40 (by decide))
  have t66 : (σ61 387 42).toInt = (σ55 387 42).toInt := congrArg Int32.toInt (f61.at 387 42 (by decide))
  refine r_iconst hx hb dX12_sentence_46 (by decide) (fun z67 ez67 => ?_)
  refine lv_istore_n (lv' := [(1, .int z67), (0, .ref (ad 387))]) hx hb dX12_sentence_47 rfl hl (by decide) rfl (fun ls hl => ?_)
  have gPV : PV σ61 := by first | exact gPV | exact pvo.resolve_left (by omega)
  exact K48 σ61 τ61 H61 locs61 z67 ls hR hF hFL hP hS (by omega) (by omega) (by omega) (by omega) (by omega) (by omega) (by omega) gSI gPV (lv_sub hl [1, 0] rfl) (by omega)
