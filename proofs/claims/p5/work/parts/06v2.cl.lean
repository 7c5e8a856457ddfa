theorem in_X11_roll_11 : ∀ w ∈ u_ws RX11 TX11 19, w ∈ wsX11_roll := by decide +kernel
theorem in_X11_roll_2 : ∀ w ∈ u_ws RX2 TX2 7, w ∈ wsX11_roll := by decide +kernel
theorem in_X11_roll_5 : ∀ w ∈ u_ws RX5 TX5 8, w ∈ wsX11_roll := by decide +kernel
theorem in_X11_roll_8 : ∀ w ∈ u_ws RX8 TX8 15, w ∈ wsX11_roll := by decide +kernel
theorem in_X11_roll_9 : ∀ w ∈ u_ws RX9 TX9 14, w ∈ wsX11_roll := by decide +kernel
theorem lk_X11_roll_10 : Cond.fieldLink RX11 10 "CuckooShares" "tape" "LCuckooShares$Tape;" ∈ wsX11_roll := by decide +kernel
theorem lk_X11_roll_112 : Cond.fieldLink RX11 112 "CuckooShares" "lastRoll" "[I" ∈ wsX11_roll := by decide +kernel
theorem lk_X11_roll_19 : Cond.fieldLink RX11 19 "CuckooShares" "valley" "LCuckooShares$Valley;" ∈ wsX11_roll := by decide +kernel
theorem lk_X11_roll_38 : Cond.fieldLink RX11 38 "CuckooShares" "days" "LCuckooShares$Days;" ∈ wsX11_roll := by decide +kernel
theorem lk_X11_roll_389 : Cond.fieldLink RX11 389 "CuckooShares" "rollTold" "Z" ∈ wsX11_roll := by decide +kernel
theorem lk_X11_roll_45 : Cond.fieldLink RX11 45 "CuckooShares" "trial" "LCuckooShares$Days;" ∈ wsX11_roll := by decide +kernel
theorem lk_X11_roll_51 : Cond.fieldLink RX11 51 "CuckooShares" "history" "LCuckooShares$History;" ∈ wsX11_roll := by decide +kernel
theorem lk_X11_roll_97 : Cond.fieldLink RX11 97 "CuckooShares" "roll" "LCuckooShares$Roll;" ∈ wsX11_roll := by decide +kernel
abbrev L_X11_roll : List Rc := [(36, 36, 0, 940), (37, 37, 0, 940), (38, 38, 0, 940), (1, 1, 5, 10), (28, 28, 6, 7), (34, 34, 0, 3), (0, 0, 17, 18), (20, 20, 1, 2), (1, 1, 12, 14), (368, 368, 0, 39), (369, 369, 0, 39), (370, 370, 0, 39), (7, 19, 0, 2), (308, 320, 0, 8), (321, 333, 0, 8), (334, 346, 0, 8), (347, 359, 0, 8), (360, 360, 0, 7), (361, 361, 0, 7), (362, 362, 0, 7), (365, 365, 0, 1), (366, 366, 0, 1), (367, 367, 0, 1)]
abbrev LL_X11_roll : List Rc := [(39, 39, 0, 940), (1, 1, 11, 11)]
def P_X11_roll (σ0 : Nat → Nat → Int32) (τ0 : Nat → Nat → Int64) (a1 : Int32) (b : Nat → Int) (N : Nat) (nm : Nat → Int) (hc : Nat) (mm : Nat → Int) (mc : Nat) (r : Int32) (σ : Nat → Nat → Int32) (τ : Nat → Nat → Int64) : Prop := Rg σ ∧ Fr L_X11_roll σ0 σ ∧ FrL LL_X11_roll τ0 τ ∧ (((a1.toInt = 0 ∨ a1.toInt = 1) ∧ (σ 1 5).toInt = 0) ∨ (a1.toInt ≠ 0 ∧ a1.toInt ≠ 1 ∧ (σ 1 5).toInt = (σ0 1 5).toInt)) ∧ ((a1.toInt ≠ 0 ∧ a1.toInt ≠ 1 ∧ (σ 0 18).toInt = (σ0 0 18).toInt) ∨ ((a1.toInt = 0 ∨ a1.toInt = 1) ∧ (σ 0 18).toInt = kndP (rolP b N 400 nm hc mm mc 42 0 (posq b N 400 0)))) ∧ RI σ ∧ WH σ τ nm hc ∧ WM σ τ mm mc
set_option maxHeartbeats 4000000 in
theorem c_X11_roll (l : Launch) (D : va_G) (cA : Nat → ClassId) (ad : Nat → Nat) (hI : Inj ad) (σ0 : Nat → Nat → Int32) (τ0 : Nat → Nat → Int64) (hR : Rg σ0) (a1 : Int32) (b : Nat → Int) (N : Nat) (nm : Nat → Int) (hc : Nat) (mm : Nat → Int) (mc : Nat) (gRI0 : RI σ0) (gBY0 : BY σ0 b N) (gWH0 : WH σ0 τ0 nm hc) (gWM0 : WM σ0 τ0 mm mc) : Met l yX11_roll wsX11_roll ({ frames := 9, cells := 0, slots := 0, locals := 210 } : Room) (WQc D cA ad [.ref (ad 0), .int a1] σ0 τ0) (va_Qi (fun (r : Int32) (u : SS) => P_X11_roll σ0 τ0 a1 b N nm hc mm mc r u.1 u.2) (WB D cA ad) (AA ad)) 0 0 (AA ad) := by
  refine Met.ofW (cc := cX11_roll) (maxL := 4) (ret := (some .int)) (by decide) rfl ?_
  intro p e s m args below meth c s₁ B hml hv
  obtain ⟨rfl, hP, hK, hN⟩ := hv
  have C : Cy p s m _ meth c cX11_roll 4 wsX11_roll RX11 D cA ad (some .int) := ⟨B.exec, B.bytes, hml, findClass_of_methodNamed B.named, atoms_spec (ws := wsX11_roll) B.pre, hK, B.notSynchronized, B.returns, hI, hN⟩
  have hl := lv_entry ([.ref (ad 0), .int a1]) (n := 4) (Nat.le_of_ble_eq_true rfl)
  rw [lg_entry_eq]
  generalize (lg_sl ([.ref (ad 0), .int a1]) ++ List.replicate (4 - (lg_sl ([.ref (ad 0), .int a1])).length) Slot.unset).toArray = ls at hl ⊢
  have hl : lv_has ls 4 [(0, .ref (ad 0)), (1, .int a1)] := hl
  have hS : va_S (AA ad) s.heap s.heap [] := va_S.rf
  have hF : Fr L_X11_roll σ0 σ0 := Fr.rf
  have hFL : FrL LL_X11_roll τ0 τ0 := FrL.rf
  have gRI := gRI0
  have gBY := gBY0
  have gWH := gWH0
  have gWM := gWM0
  obtain ⟨hx, hb, _, hown, hts, _, hk, hr, _, _⟩ := C
  refine lv_iload_n hx hb dX11_roll_0 rfl (lv_at hl 1 rfl) ?_
  refine r_if_eq (tgt := 13) hx hb dX11_roll_1 (by decide) (fun c1 => ?_) (fun c1 => ?_)
  · refine lv_aload_n hx hb dX11_roll_13 rfl (lv_at hl 0 rfl) ?_
    refine fg_11_0 (k := 0) hx hb hts in_X11_roll_11 hown hK hP (by decide) (by decide) (hts _ lk_X11_roll_10) dX11_roll_14 ?_
    refine r_sipush hx hb dX11_roll_17 (by decide) (fun z2 ez2 => ?_)
    have hbl := gBY.2.1
    refine r_cVv (k := 1) (As := [.int z2]) (rest := []) ⟨hx, hb, hml, hown, hts⟩ hK hP hN hS (c_X8_scan_v l D cA ad hI σ0 τ0 hR z2 b N 400 (by omega) (by omega) gBY) (cwV 1 hts gX11_roll_X8_scan rfl rfl rfl (by decide +kernel) ⟨by decide, by decide⟩) (rv_Tape hK hP (by decide) (by decide)) rfl hl.1 rfl (Nat.le_of_ble_eq_true rfl) dX11_roll_20 (Nat.zero_le _) (Nat.zero_le _) (fun u3 H3 locs3 hp3 hP hS => ?_)
    obtain ⟨σ3, τ3⟩ := u3
    obtain ⟨hR, f3, fL3, hp3_0, hp3_1, gnBY⟩ : P_X8_scan_v σ0 τ0 z2 b N 400 σ3 τ3 := hp3
    have hP : va_P D vwCl (gw cA ad σ3 τ3) H3 := hP
    have hFL := hFL.step fL3 (by decide)
    have gWH := gWH.agL (AgrL.fr fL3 (by decide))
    have gWM := gWM.agL (AgrL.fr fL3 (by decide))
    have hF := hF.step f3 (by decide)
    have gBY := gBY.ag (Agr.fr f3 (by decide))
    have gRI := RI.fr gRI f3 (by decide)
    have gWH := gWH.ag (Agr.fr f3 (by decide))
    have gWM := gWM.ag (Agr.fr f3 (by decide))
    have t4 : (σ3 0 18).toInt = (σ0 0 18).toInt := congrArg Int32.toInt (f3.at 0 18 (by decide))
    have gCT := hp3_0
    refine lv_aload_n hx hb dX11_roll_23 rfl (lv_at hl 0 rfl) ?_
    refine fg_11_13 (k := 0) hx hb hts in_X11_roll_11 hown hK hP (by decide) (by decide) (hts _ lk_X11_roll_97) dX11_roll_24 ?_
    refine r_cVi (k := 28) (As := []) (rest := []) ⟨hx, hb, hml, hown, hts⟩ hK hP hN hS (c_X5_read l D cA ad hI σ3 τ3 hR b N 400 nm hc mm mc gCT gRI gWH gWM) (cwV 0 hts gX11_roll_X5_read rfl rfl rfl (by decide +kernel) ⟨by decide, by decide⟩) (rv_Roll hK hP (by decide) (by decide)) rfl hl.1 rfl (Nat.le_of_ble_eq_true rfl) dX11_roll_27 (Nat.zero_le _) (Nat.zero_le _) (fun r5 u5 H5 locs5 hp5 hP hS => ?_)
    obtain ⟨σ5, τ5⟩ := u5
    obtain ⟨hR, f5, fL5, hq5, hp5_0, hp5_1, gnRI, gnWH, gnWM⟩ : P_X5_read σ3 τ3 b N 400 nm hc mm mc r5 σ5 τ5 := hp5
    have o1 := hp5_0
    have hP : va_P D vwCl (gw cA ad σ5 τ5) H5 := hP
    have hFL := hFL.step fL5 (by decide)
    have gWH := gWH.agL (AgrL.fr fL5 (by decide))
    have gWM := gWM.agL (AgrL.fr fL5 (by decide))
    have hF := hF.step f5 (by decide)
    have gBY := gBY.ag (Agr.fr f5 (by decide))
    have gWH := gWH.ag (Agr.fr f5 (by decide))
    have gWM := gWM.ag (Agr.fr f5 (by decide))
    have t6 : (σ5 0 18).toInt = (σ3 0 18).toInt := congrArg Int32.toInt (f5.at 0 18 (by decide))
    have gRI := gnRI
    refine lv_istore_n (lv' := [(2, .int r5), (0, .ref (ad 0)), (1, .int a1)]) hx hb dX11_roll_30 rfl hl (by decide) rfl (fun ls hl => ?_)
    refine lv_aload_n hx hb dX11_roll_31 rfl (lv_at hl 1 rfl) ?_
    refine r_cVv (k := 0) (As := []) (rest := []) ⟨hx, hb, hml, hown, hts⟩ hK hP hN hS (c_X11_emptyTape l D cA ad hI σ5 τ5 hR) (cwV 0 hts gX11_roll_X11_emptyTape rfl rfl rfl (by decide +kernel) ⟨by decide, by decide⟩) (rv_X hK hP (by decide) (by decide)) rfl hl.1 rfl (Nat.le_of_ble_eq_true rfl) dX11_roll_32 (Nat.zero_le _) (Nat.zero_le _) (fun u7 H7 locs7 hp7 hP hS => ?_)
    obtain ⟨σ7, τ7⟩ := u7
    obtain ⟨hR, f7, fL7, hp7_0, hp7_1⟩ : P_X11_emptyTape σ5 τ5 σ7 τ7 := hp7
    have e18 := hp7_1
    have hP : va_P D vwCl (gw cA ad σ7 τ7) H7 := hP
    obtain rfl := FrL.nil fL7
    have hF := hF.step f7 (by decide)
    have gRI := RI.fr gRI f7 (by decide)
    have gWH := gWH.ag (Agr.fr f7 (by decide))
    have gWM := gWM.ag (Agr.fr f7 (by decide))
    have t8 : (σ7 1 13).toInt = (σ5 1 13).toInt := congrArg Int32.toInt (f7.at 1 13 (by decide))
    refine lv_iload_n hx hb dX11_roll_35 rfl (lv_at hl 0 rfl) ?_
    refine r_if_ne (tgt := 50) hx hb dX11_roll_36 (by decide) (fun c9 => ?_) (fun c9 => ?_)
    · replace hp5_1 := hp5_1.resolve_left (by omega)
      refine lv_aload_n hx hb dX11_roll_50 rfl (lv_at hl 1 rfl) ?_
      refine fg_11_6 (k := 0) hx hb hts in_X11_roll_11 hown hK hP (by decide) (by decide) (hts _ lk_X11_roll_45) dX11_roll_51 ?_
      refine lv_aload_n hx hb dX11_roll_54 rfl (lv_at hl 1 rfl) ?_
      refine fg_11_4 (k := 0) hx hb hts in_X11_roll_11 hown hK hP (by decide) (by decide) (hts _ lk_X11_roll_38) dX11_roll_55 ?_
      refine r_cVv (k := 9) (As := [.ref (ad 7)]) (rest := []) ⟨hx, hb, hml, hown, hts⟩ hK hP hN hS (c_X2_copyFrom l D cA ad hI σ7 τ5 hR 9 7 ⟨by omega, by omega⟩ ⟨by omega, by omega⟩) (cwV 1 hts gX11_roll_X2_copyFrom rfl rfl rfl (by decide +kernel) ⟨by decide, by decide⟩) (rv_Days hK hP (by decide) (by decide)) rfl hl.1 rfl (Nat.le_of_ble_eq_true rfl) dX11_roll_58 (Nat.zero_le _) (Nat.zero_le _) (fun u10 H10 locs10 hp10 hP hS => ?_)
      obtain ⟨σ10, τ10⟩ := u10
      obtain ⟨hR, f10, fL10⟩ : P_X2_copyFrom σ7 τ5 9 7 σ10 τ10 := hp10
      have hP : va_P D vwCl (gw cA ad σ10 τ10) H10 := hP
      obtain rfl := FrL.nil fL10
      have hF := hF.step f10 (by decide)
      have gRI := RI.fr gRI f10 (by decide)
      have gWH := gWH.ag (Agr.fr f10 (by decide))
      have gWM := gWM.ag (Agr.fr f10 (by decide))
      have t11 : (σ10 1 13).toInt = (σ7 1 13).toInt := congrArg Int32.toInt (f10.at 1 13 (by decide))
      have t12 : (σ10 0 18).toInt = (σ7 0 18).toInt := congrArg Int32.toInt (f10.at 0 18 (by decide))
      have t13 : (σ10 1 5).toInt = (σ7 1 5).toInt := congrArg Int32.toInt (f10.at 1 5 (by decide))
      refine lv_aload_n hx hb dX11_roll_61 rfl (lv_at hl 1 rfl) ?_
      refine fg_11_13 (k := 0) hx hb hts in_X11_roll_11 hown hK hP (by decide) (by decide) (hts _ lk_X11_roll_97) dX11_roll_62 ?_
      refine lv_aload_n hx hb dX11_roll_65 rfl (lv_at hl 1 rfl) ?_
      refine fg_11_6 (k := 0) hx hb hts in_X11_roll_11 hown hK hP (by decide) (by decide) (hts _ lk_X11_roll_45) dX11_roll_66 ?_
      refine r_cVi (k := 28) (As := [.ref (ad 9)]) (rest := []) ⟨hx, hb, hml, hown, hts⟩ hK hP hN hS (c_X5_live l D cA ad hI σ10 τ5 hR gRI) (cwV 1 hts gX11_roll_X5_live rfl rfl rfl (by decide +kernel) ⟨by decide, by decide⟩) (rv_Roll hK hP (by decide) (by decide)) rfl hl.1 rfl (Nat.le_of_ble_eq_true rfl) dX11_roll_69 (Nat.zero_le _) (Nat.zero_le _) (fun r14 u14 H14 locs14 hp14 hP hS => ?_)
      obtain ⟨σ14, τ14⟩ := u14
      obtain ⟨hR, f14, fL14, hq14, gnRI⟩ : P_X5_live σ10 τ5 r14 σ14 τ14 := hp14
      have hP : va_P D vwCl (gw cA ad σ14 τ14) H14 := hP
      obtain rfl := FrL.nil fL14
      have hF := hF.step f14 (by decide)
      have gRI := RI.fr gRI f14 (by decide)
      have gWH := gWH.ag (Agr.fr f14 (by decide))
      have gWM := gWM.ag (Agr.fr f14 (by decide))
      have t15 : (σ14 1 13).toInt = (σ10 1 13).toInt := congrArg Int32.toInt (f14.at 1 13 (by decide))
      have t16 : (σ14 0 18).toInt = (σ10 0 18).toInt := congrArg Int32.toInt (f14.at 0 18 (by decide))
      have t17 : (σ14 1 5).toInt = (σ10 1 5).toInt := congrArg Int32.toInt (f14.at 1 5 (by decide))
      refine lv_istore_n (lv' := [(3, .int r14), (2, .int r5), (0, .ref (ad 0)), (1, .int a1)]) hx hb dX11_roll_72 rfl hl (by decide) rfl (fun ls hl => ?_)
      refine lv_aload_n hx hb dX11_roll_73 rfl (lv_at hl 2 rfl) ?_
      refine fg_11_16 (k := 0) hx hb hts in_X11_roll_11 hown hK hP (by decide) (by decide) (hts _ lk_X11_roll_112) dX11_roll_74 ?_
      refine r_iconst hx hb dX11_roll_77 (by decide) (fun z18 ez18 => ?_)
      refine lv_aload_n hx hb dX11_roll_78 rfl (lv_at hl 2 rfl) ?_
      refine fg_11_13 (k := 0) hx hb hts in_X11_roll_11 hown hK hP (by decide) (by decide) (hts _ lk_X11_roll_97) dX11_roll_79 ?_
      refine fgN_5_7 (k := 28) hx hb hts in_X11_roll_5 hown hK hP (by decide) (by decide) (hN.use nw_11_385) dX11_roll_82 ?_
      refine as_lastRoll (k := 34) (j := 0) hx hb hK hP hI hR hS (by decide) (by decide) (by omega) (by omega) dX11_roll_85 (fun σ19 H19 locs19 u19 v19 hR hP hS => ?_)
      have hF := hF.puts u19 5 rfl (by decide) (by decide) (by decide) (by decide)
      have gRI := RI.put gRI u19 (by decide)
      have gWH := gWH.ag (Agr.put u19 (by decide))
      have gWM := gWM.ag (Agr.put u19 (by decide))
      have t20 : (σ19 1 13).toInt = (σ14 1 13).toInt := congrArg Int32.toInt (u19 1 13 (by omega))
      have t21 : (σ19 0 18).toInt = (σ14 0 18).toInt := congrArg Int32.toInt (u19 0 18 (by omega))
      have t22 : (σ19 1 5).toInt = (σ14 1 5).toInt := congrArg Int32.toInt (u19 1 5 (by omega))
      refine lv_aload_n hx hb dX11_roll_86 rfl (lv_at hl 2 rfl) ?_
      refine fg_11_16 (k := 0) hx hb hts in_X11_roll_11 hown hK hP (by decide) (by decide) (hts _ lk_X11_roll_112) dX11_roll_87 ?_
      refine r_iconst hx hb dX11_roll_90 (by decide) (fun z23 ez23 => ?_)
      refine lv_iload_n hx hb dX11_roll_91 rfl (lv_at hl 0 rfl) ?_
      refine r_iconst hx hb dX11_roll_92 (by decide) (fun z24 ez24 => ?_)
      refine r_icmp_ne (tgt := 106) hx hb dX11_roll_93 (by decide) (fun c25 => ?_) (fun c25 => ?_)
      · refine lv_iload_n hx hb dX11_roll_106 rfl (lv_at hl 0 rfl) ?_
        refine as_lastRoll (k := 34) (j := 1) hx hb hK hP hI hR hS (by decide) (by decide) (by omega) (by omega) dX11_roll_107 (fun σ26 H26 locs26 u26 v26 hR hP hS => ?_)
        have hF := hF.puts u26 5 rfl (by decide) (by decide) (by decide) (by decide)
        have gRI := RI.put gRI u26 (by decide)
        have gWH := gWH.ag (Agr.put u26 (by decide))
        have gWM := gWM.ag (Agr.put u26 (by decide))
        have t27 : (σ26 1 13).toInt = (σ19 1 13).toInt := congrArg Int32.toInt (u26 1 13 (by omega))
        have t28 : (σ26 0 18).toInt = (σ19 0 18).toInt := congrArg Int32.toInt (u26 0 18 (by omega))
        have t29 : (σ26 1 5).toInt = (σ19 1 5).toInt := congrArg Int32.toInt (u26 1 5 (by omega))
        refine lv_aload_n hx hb dX11_roll_108 rfl (lv_at hl 2 rfl) ?_
        refine fg_11_16 (k := 0) hx hb hts in_X11_roll_11 hown hK hP (by decide) (by decide) (hts _ lk_X11_roll_112) dX11_roll_109 ?_
        refine r_iconst hx hb dX11_roll_112 (by decide) (fun z30 ez30 => ?_)
        refine lv_aload_n hx hb dX11_roll_113 rfl (lv_at hl 2 rfl) ?_
        refine fg_11_6 (k := 0) hx hb hts in_X11_roll_11 hown hK hP (by decide) (by decide) (hts _ lk_X11_roll_45) dX11_roll_114 ?_
        refine fgN_2_0 (k := 9) hx hb hts in_X11_roll_2 hown hK hP (by decide) (by decide) (hN.use nw_11_214) dX11_roll_117 ?_
        refine as_lastRoll (k := 34) (j := 2) hx hb hK hP hI hR hS (by decide) (by decide) (by omega) (by omega) dX11_roll_120 (fun σ31 H31 locs31 u31 v31 hR hP hS => ?_)
        have hF := hF.puts u31 5 rfl (by decide) (by decide) (by decide) (by decide)
        have gRI := RI.put gRI u31 (by decide)
        have gWH := gWH.ag (Agr.put u31 (by decide))
        have gWM := gWM.ag (Agr.put u31 (by decide))
        have t32 : (σ31 1 13).toInt = (σ26 1 13).toInt := congrArg Int32.toInt (u31 1 13 (by omega))
        have t33 : (σ31 0 18).toInt = (σ26 0 18).toInt := congrArg Int32.toInt (u31 0 18 (by omega))
        have t34 : (σ31 1 5).toInt = (σ26 1 5).toInt := congrArg Int32.toInt (u31 1 5 (by omega))
        refine lv_aload_n hx hb dX11_roll_121 rfl (lv_at hl 2 rfl) ?_
        refine fg_11_16 (k := 0) hx hb hts in_X11_roll_11 hown hK hP (by decide) (by decide) (hts _ lk_X11_roll_112) dX11_roll_122 ?_
        refine r_iconst hx hb dX11_roll_125 (by decide) (fun z35 ez35 => ?_)
        refine lv_aload_n hx hb dX11_roll_126 rfl (lv_at hl 2 rfl) ?_
        refine fg_11_6 (k := 0) hx hb hts in_X11_roll_11 hown hK hP (by decide) (by decide) (hts _ lk_X11_roll_45) dX11_roll_127 ?_
        refine lv_aload_n hx hb dX11_roll_130 rfl (lv_at hl 2 rfl) ?_
        refine fg_11_1 (k := 0) hx hb hts in_X11_roll_11 hown hK hP (by decide) (by decide) (hts _ lk_X11_roll_19) dX11_roll_131 ?_
        refine fgN_9_5 (k := 2) hx hb hts in_X11_roll_9 hown hK hP (by decide) (by decide) (hN.use nw_11_167) dX11_roll_134 ?_
        have hr36 := rg_9_5 hR (k := 2) (by decide) (by decide)
        refine r_cVi (k := 9) (As := [.int (σ31 2 5)]) (rest := [.int z35, .ref (ad 34)]) ⟨hx, hb, hml, hown, hts⟩ hK hP hN hS (c_X2_allStores l D cA ad hI σ31 τ5 hR 9 (σ31 2 5) ⟨by omega, by omega⟩ (by omega)) (cwV 1 hts gX11_roll_X2_allStores rfl rfl rfl (by decide +kernel) ⟨by decide, by decide⟩) (rv_Days hK hP (by decide) (by decide)) rfl hl.1 rfl (Nat.le_of_ble_eq_true rfl) dX11_roll_137 (Nat.zero_le _) (Nat.zero_le _) (fun r37 u37 H37 locs37 hp37 hP hS => ?_)
        obtain ⟨σ37, τ37⟩ := u37
        obtain ⟨hR, f37, fL37⟩ : P_X2_allStores σ31 τ5 9 (σ31 2 5) r37 σ37 τ37 := hp37
        have hP : va_P D vwCl (gw cA ad σ37 τ37) H37 := hP
        obtain rfl := FrL.nil fL37
        obtain rfl := Fr.nil f37
        refine lv_aload_n hx hb dX11_roll_140 rfl (lv_at hl 2 rfl) ?_
        refine fg_11_4 (k := 0) hx hb hts in_X11_roll_11 hown hK hP (by decide) (by decide) (hts _ lk_X11_roll_38) dX11_roll_141 ?_
        refine lv_aload_n hx hb dX11_roll_144 rfl (lv_at hl 2 rfl) ?_
        refine fg_11_1 (k := 0) hx hb hts in_X11_roll_11 hown hK hP (by decide) (by decide) (hts _ lk_X11_roll_19) dX11_roll_145 ?_
        refine fgN_9_5 (k := 2) hx hb hts in_X11_roll_9 hown hK hP (by decide) (by decide) (hN.use nw_11_167) dX11_roll_148 ?_
        refine r_cVi (k := 7) (As := [.int (σ31 2 5)]) (rest := [.int r37, .int z35, .ref (ad 34)]) ⟨hx, hb, hml, hown, hts⟩ hK hP hN hS (c_X2_allStores l D cA ad hI σ31 τ5 hR 7 (σ31 2 5) ⟨by omega, by omega⟩ (by omega)) (cwV 1 hts gX11_roll_X2_allStores rfl rfl rfl (by decide +kernel) ⟨by decide, by decide⟩) (rv_Days hK hP (by decide) (by decide)) rfl hl.1 rfl (Nat.le_of_ble_eq_true rfl) dX11_roll_151 (Nat.zero_le _) (Nat.zero_le _) (fun r38 u38 H38 locs38 hp38 hP hS => ?_)
        obtain ⟨σ38, τ38⟩ := u38
        obtain ⟨hR, f38, fL38⟩ : P_X2_allStores σ31 τ5 7 (σ31 2 5) r38 σ38 τ38 := hp38
        have hP : va_P D vwCl (gw cA ad σ38 τ38) H38 := hP
        obtain rfl := FrL.nil fL38
        obtain rfl := Fr.nil f38
        refine r_isubU hx hb dX11_roll_154 (fun z39 => ?_)
        refine as_lastRoll (k := 34) (j := 3) hx hb hK hP hI hR hS (by decide) (by decide) (by omega) (by omega) dX11_roll_155 (fun σ40 H40 locs40 u40 v40 hR hP hS => ?_)
        have hF := hF.puts u40 5 rfl (by decide) (by decide) (by decide) (by decide)
        have gRI := RI.put gRI u40 (by decide)
        have gWH := gWH.ag (Agr.put u40 (by decide))
        have gWM := gWM.ag (Agr.put u40 (by decide))
        have t41 : (σ40 1 13).toInt = (σ31 1 13).toInt := congrArg Int32.toInt (u40 1 13 (by omega))
        have t42 : (σ40 0 18).toInt = (σ31 0 18).toInt := congrArg Int32.toInt (u40 0 18 (by omega))
        have t43 : (σ40 1 5).toInt = (σ31 1 5).toInt := congrArg Int32.toInt (u40 1 5 (by omega))
        have t44 : (σ40 2 5).toInt = (σ31 2 5).toInt := congrArg Int32.toInt (u40 2 5 (by omega))
        refine lv_aload_n hx hb dX11_roll_156 rfl (lv_at hl 2 rfl) ?_
        refine r_iconst hx hb dX11_roll_157 (by decide) (fun z45 ez45 => ?_)
        refine fp_11_17 (k := 0) hx hb hts in_X11_roll_11 hown hK hP (by decide) (by decide) (hts _ lk_X11_roll_389) hI hR hS (by omega) dX11_roll_158 (fun σ46 H46 locs46 u46 v46 hR hP hS => ?_)
        have hF := hF.puts u46 6 rfl (by decide) (by decide) (by decide) (by decide)
        have gRI := RI.put gRI u46 (by decide)
        have gWH := gWH.ag (Agr.put u46 (by decide))
        have gWM := gWM.ag (Agr.put u46 (by decide))
        have t47 : (σ46 1 13).toInt = (σ40 1 13).toInt := congrArg Int32.toInt (u46 1 13 (by omega))
        have t48 : (σ46 0 18).toInt = (σ40 0 18).toInt := congrArg Int32.toInt (u46 0 18 (by omega))
        have t49 : (σ46 1 5).toInt = (σ40 1 5).toInt := congrArg Int32.toInt (u46 1 5 (by omega))
        have t50 : (σ46 2 5).toInt = (σ40 2 5).toInt := congrArg Int32.toInt (u46 2 5 (by omega))
        refine lv_iload_n hx hb dX11_roll_161 rfl (lv_at hl 3 rfl) ?_
        refine r_iconst hx hb dX11_roll_162 (by decide) (fun z51 ez51 => ?_)
        refine r_icmp_ne (tgt := 188) hx hb dX11_roll_163 (by decide) (fun c52 => ?_) (fun c52 => ?_)
        · refine lv_iload_n hx hb dX11_roll_188 rfl (lv_at hl 0 rfl) ?_
          exact r_iret hx hb hr hK hP hS hk dX11_roll_189 (show P_X11_roll σ0 τ0 a1 b N nm hc mm mc r14 σ46 τ5 from ⟨hR, hF, hFL, by omega, by first | exact Or.inl ⟨by omega, by omega, by omega⟩ | (obtain ⟨y, e1, y1⟩ := o1.ye (by omega); exact Or.inr ⟨by omega, by rw [kndP_r e1]; omega⟩) | (obtain ⟨f, e1, x1, x2⟩ := o1.no (by omega); exact Or.inr ⟨by omega, by rw [kndP_l e1]; omega⟩), gRI, gWH, gWM⟩)
        · exfalso; omega
      · refine lv_aload_n hx hb dX11_roll_96 rfl (lv_at hl 2 rfl) ?_
        refine fg_11_13 (k := 0) hx hb hts in_X11_roll_11 hown hK hP (by decide) (by decide) (hts _ lk_X11_roll_97) dX11_roll_97 ?_
        refine fgN_5_6 (k := 28) hx hb hts in_X11_roll_5 hown hK hP (by decide) (by decide) (hN.use nw_11_388) dX11_roll_100 ?_
        have hr53 := rg_5_6 hR (k := 28) (by decide) (by decide)
        refine lv_goto (tgt := 107) hx hb dX11_roll_103 (by decide) ?_
        refine as_lastRoll (k := 34) (j := 1) hx hb hK hP hI hR hS (by decide) (by decide) (by omega) (by omega) dX11_roll_107 (fun σ54 H54 locs54 u54 v54 hR hP hS => ?_)
        have hF := hF.puts u54 5 rfl (by decide) (by decide) (by decide) (by decide)
        have gRI := RI.put gRI u54 (by decide)
        have gWH := gWH.ag (Agr.put u54 (by decide))
        have gWM := gWM.ag (Agr.put u54 (by decide))
        have t55 : (σ54 1 13).toInt = (σ19 1 13).toInt := congrArg Int32.toInt (u54 1 13 (by omega))
        have t56 : (σ54 0 18).toInt = (σ19 0 18).toInt := congrArg Int32.toInt (u54 0 18 (by omega))
        have t57 : (σ54 1 5).toInt = (σ19 1 5).toInt := congrArg Int32.toInt (u54 1 5 (by omega))
        refine lv_aload_n hx hb dX11_roll_108 rfl (lv_at hl 2 rfl) ?_
        refine fg_11_16 (k := 0) hx hb hts in_X11_roll_11 hown hK hP (by decide) (by decide) (hts _ lk_X11_roll_112) dX11_roll_109 ?_
        refine r_iconst hx hb dX11_roll_112 (by decide) (fun z58 ez58 => ?_)
        refine lv_aload_n hx hb dX11_roll_113 rfl (lv_at hl 2 rfl) ?_
        refine fg_11_6 (k := 0) hx hb hts in_X11_roll_11 hown hK hP (by decide) (by decide) (hts _ lk_X11_roll_45) dX11_roll_114 ?_
        refine fgN_2_0 (k := 9) hx hb hts in_X11_roll_2 hown hK hP (by decide) (by decide) (hN.use nw_11_214) dX11_roll_117 ?_
        refine as_lastRoll (k := 34) (j := 2) hx hb hK hP hI hR hS (by decide) (by decide) (by omega) (by omega) dX11_roll_120 (fun σ59 H59 locs59 u59 v59 hR hP hS => ?_)
        have hF := hF.puts u59 5 rfl (by decide) (by decide) (by decide) (by decide)
        have gRI := RI.put gRI u59 (by decide)
        have gWH := gWH.ag (Agr.put u59 (by decide))
        have gWM := gWM.ag (Agr.put u59 (by decide))
        have t60 : (σ59 1 13).toInt = (σ54 1 13).toInt := congrArg Int32.toInt (u59 1 13 (by omega))
        have t61 : (σ59 0 18).toInt = (σ54 0 18).toInt := congrArg Int32.toInt (u59 0 18 (by omega))
        have t62 : (σ59 1 5).toInt = (σ54 1 5).toInt := congrArg Int32.toInt (u59 1 5 (by omega))
        refine lv_aload_n hx hb dX11_roll_121 rfl (lv_at hl 2 rfl) ?_
        refine fg_11_16 (k := 0) hx hb hts in_X11_roll_11 hown hK hP (by decide) (by decide) (hts _ lk_X11_roll_112) dX11_roll_122 ?_
        refine r_iconst hx hb dX11_roll_125 (by decide) (fun z63 ez63 => ?_)
        refine lv_aload_n hx hb dX11_roll_126 rfl (lv_at hl 2 rfl) ?_
        refine fg_11_6 (k := 0) hx hb hts in_X11_roll_11 hown hK hP (by decide) (by decide) (hts _ lk_X11_roll_45) dX11_roll_127 ?_
        refine lv_aload_n hx hb dX11_roll_130 rfl (lv_at hl 2 rfl) ?_
        refine fg_11_1 (k := 0) hx hb hts in_X11_roll_11 hown hK hP (by decide) (by decide) (hts _ lk_X11_roll_19) dX11_roll_131 ?_
        refine fgN_9_5 (k := 2) hx hb hts in_X11_roll_9 hown hK hP (by decide) (by decide) (hN.use nw_11_167) dX11_roll_134 ?_
        have hr64 := rg_9_5 hR (k := 2) (by decide) (by decide)
        refine r_cVi (k := 9) (As := [.int (σ59 2 5)]) (rest := [.int z63, .ref (ad 34)]) ⟨hx, hb, hml, hown, hts⟩ hK hP hN hS (c_X2_allStores l D cA ad hI σ59 τ5 hR 9 (σ59 2 5) ⟨by omega, by omega⟩ (by omega)) (cwV 1 hts gX11_roll_X2_allStores rfl rfl rfl (by decide +kernel) ⟨by decide, by decide⟩) (rv_Days hK hP (by decide) (by decide)) rfl hl.1 rfl (Nat.le_of_ble_eq_true rfl) dX11_roll_137 (Nat.zero_le _) (Nat.zero_le _) (fun r65 u65 H65 locs65 hp65 hP hS => ?_)
        obtain ⟨σ65, τ65⟩ := u65
        obtain ⟨hR, f65, fL65⟩ : P_X2_allStores σ59 τ5 9 (σ59 2 5) r65 σ65 τ65 := hp65
        have hP : va_P D vwCl (gw cA ad σ65 τ65) H65 := hP
        obtain rfl := FrL.nil fL65
        obtain rfl := Fr.nil f65
        refine lv_aload_n hx hb dX11_roll_140 rfl (lv_at hl 2 rfl) ?_
        refine fg_11_4 (k := 0) hx hb hts in_X11_roll_11 hown hK hP (by decide) (by decide) (hts _ lk_X11_roll_38) dX11_roll_141 ?_
        refine lv_aload_n hx hb dX11_roll_144 rfl (lv_at hl 2 rfl) ?_
        refine fg_11_1 (k := 0) hx hb hts in_X11_roll_11 hown hK hP (by decide) (by decide) (hts _ lk_X11_roll_19) dX11_roll_145 ?_
        refine fgN_9_5 (k := 2) hx hb hts in_X11_roll_9 hown hK hP (by decide) (by decide) (hN.use nw_11_167) dX11_roll_148 ?_
        refine r_cVi (k := 7) (As := [.int (σ59 2 5)]) (rest := [.int r65, .int z63, .ref (ad 34)]) ⟨hx, hb, hml, hown, hts⟩ hK hP hN hS (c_X2_allStores l D cA ad hI σ59 τ5 hR 7 (σ59 2 5) ⟨by omega, by omega⟩ (by omega)) (cwV 1 hts gX11_roll_X2_allStores rfl rfl rfl (by decide +kernel) ⟨by decide, by decide⟩) (rv_Days hK hP (by decide) (by decide)) rfl hl.1 rfl (Nat.le_of_ble_eq_true rfl) dX11_roll_151 (Nat.zero_le _) (Nat.zero_le _) (fun r66 u66 H66 locs66 hp66 hP hS => ?_)
        obtain ⟨σ66, τ66⟩ := u66
        obtain ⟨hR, f66, fL66⟩ : P_X2_allStores σ59 τ5 7 (σ59 2 5) r66 σ66 τ66 := hp66
        have hP : va_P D vwCl (gw cA ad σ66 τ66) H66 := hP
        obtain rfl := FrL.nil fL66
        obtain rfl := Fr.nil f66
        refine r_isubU hx hb dX11_roll_154 (fun z67 => ?_)
        refine as_lastRoll (k := 34) (j := 3) hx hb hK hP hI hR hS (by decide) (by decide) (by omega) (by omega) dX11_roll_155 (fun σ68 H68 locs68 u68 v68 hR hP hS => ?_)
        have hF := hF.puts u68 5 rfl (by decide) (by decide) (by decide) (by decide)
        have gRI := RI.put gRI u68 (by decide)
        have gWH := gWH.ag (Agr.put u68 (by decide))
        have gWM := gWM.ag (Agr.put u68 (by decide))
        have t69 : (σ68 1 13).toInt = (σ59 1 13).toInt := congrArg Int32.toInt (u68 1 13 (by omega))
        have t70 : (σ68 0 18).toInt = (σ59 0 18).toInt := congrArg Int32.toInt (u68 0 18 (by omega))
        have t71 : (σ68 1 5).toInt = (σ59 1 5).toInt := congrArg Int32.toInt (u68 1 5 (by omega))
        have t72 : (σ68 2 5).toInt = (σ59 2 5).toInt := congrArg Int32.toInt (u68 2 5 (by omega))
        refine lv_aload_n hx hb dX11_roll_156 rfl (lv_at hl 2 rfl) ?_
        refine r_iconst hx hb dX11_roll_157 (by decide) (fun z73 ez73 => ?_)
        refine fp_11_17 (k := 0) hx hb hts in_X11_roll_11 hown hK hP (by decide) (by decide) (hts _ lk_X11_roll_389) hI hR hS (by omega) dX11_roll_158 (fun σ74 H74 locs74 u74 v74 hR hP hS => ?_)
        have hF := hF.puts u74 6 rfl (by decide) (by decide) (by decide) (by decide)
        have gRI := RI.put gRI u74 (by decide)
        have gWH := gWH.ag (Agr.put u74 (by decide))
        have gWM := gWM.ag (Agr.put u74 (by decide))
        have t75 : (σ74 1 13).toInt = (σ68 1 13).toInt := congrArg Int32.toInt (u74 1 13 (by omega))
        have t76 : (σ74 0 18).toInt = (σ68 0 18).toInt := congrArg Int32.toInt (u74 0 18 (by omega))
        have t77 : (σ74 1 5).toInt = (σ68 1 5).toInt := congrArg Int32.toInt (u74 1 5 (by omega))
        have t78 : (σ74 2 5).toInt = (σ68 2 5).toInt := congrArg Int32.toInt (u74 2 5 (by omega))
        refine lv_iload_n hx hb dX11_roll_161 rfl (lv_at hl 3 rfl) ?_
        refine r_iconst hx hb dX11_roll_162 (by decide) (fun z79 ez79 => ?_)
        refine r_icmp_ne (tgt := 188) hx hb dX11_roll_163 (by decide) (fun c80 => ?_) (fun c80 => ?_)
        · refine lv_iload_n hx hb dX11_roll_188 rfl (lv_at hl 0 rfl) ?_
          exact r_iret hx hb hr hK hP hS hk dX11_roll_189 (show P_X11_roll σ0 τ0 a1 b N nm hc mm mc r14 σ74 τ5 from ⟨hR, hF, hFL, by omega, by first | exact Or.inl ⟨by omega, by omega, by omega⟩ | (obtain ⟨y, e1, y1⟩ := o1.ye (by omega); exact Or.inr ⟨by omega, by rw [kndP_r e1]; omega⟩) | (obtain ⟨f, e1, x1, x2⟩ := o1.no (by omega); exact Or.inr ⟨by omega, by rw [kndP_l e1]; omega⟩), gRI, gWH, gWM⟩)
        · exfalso; omega
    · clear hp5_1
      refine r_bipush hx hb dX11_roll_39 (by decide) (fun z81 ez81 => ?_)
      refine lv_aload_n hx hb dX11_roll_41 rfl (lv_at hl 1 rfl) ?_
      refine fg_11_0 (k := 0) hx hb hts in_X11_roll_11 hown hK hP (by decide) (by decide) (hts _ lk_X11_roll_10) dX11_roll_42 ?_
      refine fgN_8_14 (k := 1) hx hb hts in_X11_roll_8 hown hK hP (by decide) (by decide) (hN.use nw_11_133) dX11_roll_45 ?_
      refine r_isubU hx hb dX11_roll_48 (fun z82 => ?_)
      exact r_iret hx hb hr hK hP hS hk dX11_roll_49 (show P_X11_roll σ0 τ0 a1 b N nm hc mm mc z82 σ7 τ5 from ⟨hR, hF, hFL, by omega, by first | exact Or.inl ⟨by omega, by omega, by omega⟩ | (obtain ⟨y, e1, y1⟩ := o1.ye (by omega); exact Or.inr ⟨by omega, by rw [kndP_r e1]; omega⟩) | (obtain ⟨f, e1, x1, x2⟩ := o1.no (by omega); exact Or.inr ⟨by omega, by rw [kndP_l e1]; omega⟩), gRI, gWH, gWM⟩)
  · refine lv_iload_n hx hb dX11_roll_4 rfl (lv_at hl 1 rfl) ?_
    refine r_iconst hx hb dX11_roll_5 (by decide) (fun z83 ez83 => ?_)
    refine r_icmp_eq (tgt := 13) hx hb dX11_roll_6 (by decide) (fun c84 => ?_) (fun c84 => ?_)
    · refine lv_aload_n hx hb dX11_roll_13 rfl (lv_at hl 0 rfl) ?_
      refine fg_11_0 (k := 0) hx hb hts in_X11_roll_11 hown hK hP (by decide) (by decide) (hts _ lk_X11_roll_10) dX11_roll_14 ?_
      refine r_sipush hx hb dX11_roll_17 (by decide) (fun z85 ez85 => ?_)
      have hbl := gBY.2.1
      refine r_cVv (k := 1) (As := [.int z85]) (rest := []) ⟨hx, hb, hml, hown, hts⟩ hK hP hN hS (c_X8_scan_v l D cA ad hI σ0 τ0 hR z85 b N 400 (by omega) (by omega) gBY) (cwV 1 hts gX11_roll_X8_scan rfl rfl rfl (by decide +kernel) ⟨by decide, by decide⟩) (rv_Tape hK hP (by decide) (by decide)) rfl hl.1 rfl (Nat.le_of_ble_eq_true rfl) dX11_roll_20 (Nat.zero_le _) (Nat.zero_le _) (fun u86 H86 locs86 hp86 hP hS => ?_)
      obtain ⟨σ86, τ86⟩ := u86
      obtain ⟨hR, f86, fL86, hp86_0, hp86_1, gnBY⟩ : P_X8_scan_v σ0 τ0 z85 b N 400 σ86 τ86 := hp86
      have hP : va_P D vwCl (gw cA ad σ86 τ86) H86 := hP
      have hFL := hFL.step fL86 (by decide)
      have gWH := gWH.agL (AgrL.fr fL86 (by decide))
      have gWM := gWM.agL (AgrL.fr fL86 (by decide))
      have hF := hF.step f86 (by decide)
      have gBY := gBY.ag (Agr.fr f86 (by decide))
      have gRI := RI.fr gRI f86 (by decide)
      have gWH := gWH.ag (Agr.fr f86 (by decide))
      have gWM := gWM.ag (Agr.fr f86 (by decide))
      have t87 : (σ86 0 18).toInt = (σ0 0 18).toInt := congrArg Int32.toInt (f86.at 0 18 (by decide))
      have gCT := hp86_0
      refine lv_aload_n hx hb dX11_roll_23 rfl (lv_at hl 0 rfl) ?_
      refine fg_11_13 (k := 0) hx hb hts in_X11_roll_11 hown hK hP (by decide) (by decide) (hts _ lk_X11_roll_97) dX11_roll_24 ?_
      refine r_cVi (k := 28) (As := []) (rest := []) ⟨hx, hb, hml, hown, hts⟩ hK hP hN hS (c_X5_read l D cA ad hI σ86 τ86 hR b N 400 nm hc mm mc gCT gRI gWH gWM) (cwV 0 hts gX11_roll_X5_read rfl rfl rfl (by decide +kernel) ⟨by decide, by decide⟩) (rv_Roll hK hP (by decide) (by decide)) rfl hl.1 rfl (Nat.le_of_ble_eq_true rfl) dX11_roll_27 (Nat.zero_le _) (Nat.zero_le _) (fun r88 u88 H88 locs88 hp88 hP hS => ?_)
      obtain ⟨σ88, τ88⟩ := u88
      obtain ⟨hR, f88, fL88, hq88, hp88_0, hp88_1, gnRI, gnWH, gnWM⟩ : P_X5_read σ86 τ86 b N 400 nm hc mm mc r88 σ88 τ88 := hp88
      have o1 := hp88_0
      have hP : va_P D vwCl (gw cA ad σ88 τ88) H88 := hP
      have hFL := hFL.step fL88 (by decide)
      have gWH := gWH.agL (AgrL.fr fL88 (by decide))
      have gWM := gWM.agL (AgrL.fr fL88 (by decide))
      have hF := hF.step f88 (by decide)
      have gBY := gBY.ag (Agr.fr f88 (by decide))
      have gWH := gWH.ag (Agr.fr f88 (by decide))
      have gWM := gWM.ag (Agr.fr f88 (by decide))
      have t89 : (σ88 0 18).toInt = (σ86 0 18).toInt := congrArg Int32.toInt (f88.at 0 18 (by decide))
      have gRI := gnRI
      refine lv_istore_n (lv' := [(2, .int r88), (0, .ref (ad 0)), (1, .int a1)]) hx hb dX11_roll_30 rfl hl (by decide) rfl (fun ls hl => ?_)
      refine lv_aload_n hx hb dX11_roll_31 rfl (lv_at hl 1 rfl) ?_
      refine r_cVv (k := 0) (As := []) (rest := []) ⟨hx, hb, hml, hown, hts⟩ hK hP hN hS (c_X11_emptyTape l D cA ad hI σ88 τ88 hR) (cwV 0 hts gX11_roll_X11_emptyTape rfl rfl rfl (by decide +kernel) ⟨by decide, by decide⟩) (rv_X hK hP (by decide) (by decide)) rfl hl.1 rfl (Nat.le_of_ble_eq_true rfl) dX11_roll_32 (Nat.zero_le _) (Nat.zero_le _) (fun u90 H90 locs90 hp90 hP hS => ?_)
      obtain ⟨σ90, τ90⟩ := u90
      obtain ⟨hR, f90, fL90, hp90_0, hp90_1⟩ : P_X11_emptyTape σ88 τ88 σ90 τ90 := hp90
      have e18 := hp90_1
      have hP : va_P D vwCl (gw cA ad σ90 τ90) H90 := hP
      obtain rfl := FrL.nil fL90
      have hF := hF.step f90 (by decide)
      have gRI := RI.fr gRI f90 (by decide)
      have gWH := gWH.ag (Agr.fr f90 (by decide))
      have gWM := gWM.ag (Agr.fr f90 (by decide))
      have t91 : (σ90 1 13).toInt = (σ88 1 13).toInt := congrArg Int32.toInt (f90.at 1 13 (by decide))
      refine lv_iload_n hx hb dX11_roll_35 rfl (lv_at hl 0 rfl) ?_
      refine r_if_ne (tgt := 50) hx hb dX11_roll_36 (by decide) (fun c92 => ?_) (fun c92 => ?_)
      · replace hp88_1 := hp88_1.resolve_left (by omega)
        refine lv_aload_n hx hb dX11_roll_50 rfl (lv_at hl 1 rfl) ?_
        refine fg_11_6 (k := 0) hx hb hts in_X11_roll_11 hown hK hP (by decide) (by decide) (hts _ lk_X11_roll_45) dX11_roll_51 ?_
        refine lv_aload_n hx hb dX11_roll_54 rfl (lv_at hl 1 rfl) ?_
        refine fg_11_4 (k := 0) hx hb hts in_X11_roll_11 hown hK hP (by decide) (by decide) (hts _ lk_X11_roll_38) dX11_roll_55 ?_
        refine r_cVv (k := 9) (As := [.ref (ad 7)]) (rest := []) ⟨hx, hb, hml, hown, hts⟩ hK hP hN hS (c_X2_copyFrom l D cA ad hI σ90 τ88 hR 9 7 ⟨by omega, by omega⟩ ⟨by omega, by omega⟩) (cwV 1 hts gX11_roll_X2_copyFrom rfl rfl rfl (by decide +kernel) ⟨by decide, by decide⟩) (rv_Days hK hP (by decide) (by decide)) rfl hl.1 rfl (Nat.le_of_ble_eq_true rfl) dX11_roll_58 (Nat.zero_le _) (Nat.zero_le _) (fun u93 H93 locs93 hp93 hP hS => ?_)
        obtain ⟨σ93, τ93⟩ := u93
        obtain ⟨hR, f93, fL93⟩ : P_X2_copyFrom σ90 τ88 9 7 σ93 τ93 := hp93
        have hP : va_P D vwCl (gw cA ad σ93 τ93) H93 := hP
        obtain rfl := FrL.nil fL93
        have hF := hF.step f93 (by decide)
        have gRI := RI.fr gRI f93 (by decide)
        have gWH := gWH.ag (Agr.fr f93 (by decide))
        have gWM := gWM.ag (Agr.fr f93 (by decide))
        have t94 : (σ93 1 13).toInt = (σ90 1 13).toInt := congrArg Int32.toInt (f93.at 1 13 (by decide))
        have t95 : (σ93 0 18).toInt = (σ90 0 18).toInt := congrArg Int32.toInt (f93.at 0 18 (by decide))
        have t96 : (σ93 1 5).toInt = (σ90 1 5).toInt := congrArg Int32.toInt (f93.at 1 5 (by decide))
        refine lv_aload_n hx hb dX11_roll_61 rfl (lv_at hl 1 rfl) ?_
        refine fg_11_13 (k := 0) hx hb hts in_X11_roll_11 hown hK hP (by decide) (by decide) (hts _ lk_X11_roll_97) dX11_roll_62 ?_
        refine lv_aload_n hx hb dX11_roll_65 rfl (lv_at hl 1 rfl) ?_
        refine fg_11_6 (k := 0) hx hb hts in_X11_roll_11 hown hK hP (by decide) (by decide) (hts _ lk_X11_roll_45) dX11_roll_66 ?_
        refine r_cVi (k := 28) (As := [.ref (ad 9)]) (rest := []) ⟨hx, hb, hml, hown, hts⟩ hK hP hN hS (c_X5_live l D cA ad hI σ93 τ88 hR gRI) (cwV 1 hts gX11_roll_X5_live rfl rfl rfl (by decide +kernel) ⟨by decide, by decide⟩) (rv_Roll hK hP (by decide) (by decide)) rfl hl.1 rfl (Nat.le_of_ble_eq_true rfl) dX11_roll_69 (Nat.zero_le _) (Nat.zero_le _) (fun r97 u97 H97 locs97 hp97 hP hS => ?_)
        obtain ⟨σ97, τ97⟩ := u97
        obtain ⟨hR, f97, fL97, hq97, gnRI⟩ : P_X5_live σ93 τ88 r97 σ97 τ97 := hp97
        have hP : va_P D vwCl (gw cA ad σ97 τ97) H97 := hP
        obtain rfl := FrL.nil fL97
        have hF := hF.step f97 (by decide)
        have gRI := RI.fr gRI f97 (by decide)
        have gWH := gWH.ag (Agr.fr f97 (by decide))
        have gWM := gWM.ag (Agr.fr f97 (by decide))
        have t98 : (σ97 1 13).toInt = (σ93 1 13).toInt := congrArg Int32.toInt (f97.at 1 13 (by decide))
        have t99 : (σ97 0 18).toInt = (σ93 0 18).toInt := congrArg Int32.toInt (f97.at 0 18 (by decide))
        have t100 : (σ97 1 5).toInt = (σ93 1 5).toInt := congrArg Int32.toInt (f97.at 1 5 (by decide))
        refine lv_istore_n (lv' := [(3, .int r97), (2, .int r88), (0, .ref (ad 0)), (1, .int a1)]) hx hb dX11_roll_72 rfl hl (by decide) rfl (fun ls hl => ?_)
        refine lv_aload_n hx hb dX11_roll_73 rfl (lv_at hl 2 rfl) ?_
        refine fg_11_16 (k := 0) hx hb hts in_X11_roll_11 hown hK hP (by decide) (by decide) (hts _ lk_X11_roll_112) dX11_roll_74 ?_
        refine r_iconst hx hb dX11_roll_77 (by decide) (fun z101 ez101 => ?_)
        refine lv_aload_n hx hb dX11_roll_78 rfl (lv_at hl 2 rfl) ?_
        refine fg_11_13 (k := 0) hx hb hts in_X11_roll_11 hown hK hP (by decide) (by decide) (hts _ lk_X11_roll_97) dX11_roll_79 ?_
        refine fgN_5_7 (k := 28) hx hb hts in_X11_roll_5 hown hK hP (by decide) (by decide) (hN.use nw_11_385) dX11_roll_82 ?_
        refine as_lastRoll (k := 34) (j := 0) hx hb hK hP hI hR hS (by decide) (by decide) (by omega) (by omega) dX11_roll_85 (fun σ102 H102 locs102 u102 v102 hR hP hS => ?_)
        have hF := hF.puts u102 5 rfl (by decide) (by decide) (by decide) (by decide)
        have gRI := RI.put gRI u102 (by decide)
        have gWH := gWH.ag (Agr.put u102 (by decide))
        have gWM := gWM.ag (Agr.put u102 (by decide))
        have t103 : (σ102 1 13).toInt = (σ97 1 13).toInt := congrArg Int32.toInt (u102 1 13 (by omega))
        have t104 : (σ102 0 18).toInt = (σ97 0 18).toInt := congrArg Int32.toInt (u102 0 18 (by omega))
        have t105 : (σ102 1 5).toInt = (σ97 1 5).toInt := congrArg Int32.toInt (u102 1 5 (by omega))
        refine lv_aload_n hx hb dX11_roll_86 rfl (lv_at hl 2 rfl) ?_
        refine fg_11_16 (k := 0) hx hb hts in_X11_roll_11 hown hK hP (by decide) (by decide) (hts _ lk_X11_roll_112) dX11_roll_87 ?_
        refine r_iconst hx hb dX11_roll_90 (by decide) (fun z106 ez106 => ?_)
        refine lv_iload_n hx hb dX11_roll_91 rfl (lv_at hl 0 rfl) ?_
        refine r_iconst hx hb dX11_roll_92 (by decide) (fun z107 ez107 => ?_)
        refine r_icmp_ne (tgt := 106) hx hb dX11_roll_93 (by decide) (fun c108 => ?_) (fun c108 => ?_)
        · refine lv_iload_n hx hb dX11_roll_106 rfl (lv_at hl 0 rfl) ?_
          refine as_lastRoll (k := 34) (j := 1) hx hb hK hP hI hR hS (by decide) (by decide) (by omega) (by omega) dX11_roll_107 (fun σ109 H109 locs109 u109 v109 hR hP hS => ?_)
          have hF := hF.puts u109 5 rfl (by decide) (by decide) (by decide) (by decide)
          have gRI := RI.put gRI u109 (by decide)
          have gWH := gWH.ag (Agr.put u109 (by decide))
          have gWM := gWM.ag (Agr.put u109 (by decide))
          have t110 : (σ109 1 13).toInt = (σ102 1 13).toInt := congrArg Int32.toInt (u109 1 13 (by omega))
          have t111 : (σ109 0 18).toInt = (σ102 0 18).toInt := congrArg Int32.toInt (u109 0 18 (by omega))
          have t112 : (σ109 1 5).toInt = (σ102 1 5).toInt := congrArg Int32.toInt (u109 1 5 (by omega))
          refine lv_aload_n hx hb dX11_roll_108 rfl (lv_at hl 2 rfl) ?_
          refine fg_11_16 (k := 0) hx hb hts in_X11_roll_11 hown hK hP (by decide) (by decide) (hts _ lk_X11_roll_112) dX11_roll_109 ?_
          refine r_iconst hx hb dX11_roll_112 (by decide) (fun z113 ez113 => ?_)
          refine lv_aload_n hx hb dX11_roll_113 rfl (lv_at hl 2 rfl) ?_
          refine fg_11_6 (k := 0) hx hb hts in_X11_roll_11 hown hK hP (by decide) (by decide) (hts _ lk_X11_roll_45) dX11_roll_114 ?_
          refine fgN_2_0 (k := 9) hx hb hts in_X11_roll_2 hown hK hP (by decide) (by decide) (hN.use nw_11_214) dX11_roll_117 ?_
          refine as_lastRoll (k := 34) (j := 2) hx hb hK hP hI hR hS (by decide) (by decide) (by omega) (by omega) dX11_roll_120 (fun σ114 H114 locs114 u114 v114 hR hP hS => ?_)
          have hF := hF.puts u114 5 rfl (by decide) (by decide) (by decide) (by decide)
          have gRI := RI.put gRI u114 (by decide)
          have gWH := gWH.ag (Agr.put u114 (by decide))
          have gWM := gWM.ag (Agr.put u114 (by decide))
          have t115 : (σ114 1 13).toInt = (σ109 1 13).toInt := congrArg Int32.toInt (u114 1 13 (by omega))
          have t116 : (σ114 0 18).toInt = (σ109 0 18).toInt := congrArg Int32.toInt (u114 0 18 (by omega))
          have t117 : (σ114 1 5).toInt = (σ109 1 5).toInt := congrArg Int32.toInt (u114 1 5 (by omega))
          refine lv_aload_n hx hb dX11_roll_121 rfl (lv_at hl 2 rfl) ?_
          refine fg_11_16 (k := 0) hx hb hts in_X11_roll_11 hown hK hP (by decide) (by decide) (hts _ lk_X11_roll_112) dX11_roll_122 ?_
          refine r_iconst hx hb dX11_roll_125 (by decide) (fun z118 ez118 => ?_)
          refine lv_aload_n hx hb dX11_roll_126 rfl (lv_at hl 2 rfl) ?_
          refine fg_11_6 (k := 0) hx hb hts in_X11_roll_11 hown hK hP (by decide) (by decide) (hts _ lk_X11_roll_45) dX11_roll_127 ?_
          refine lv_aload_n hx hb dX11_roll_130 rfl (lv_at hl 2 rfl) ?_
          refine fg_11_1 (k := 0) hx hb hts in_X11_roll_11 hown hK hP (by decide) (by decide) (hts _ lk_X11_roll_19) dX11_roll_131 ?_
          refine fgN_9_5 (k := 2) hx hb hts in_X11_roll_9 hown hK hP (by decide) (by decide) (hN.use nw_11_167) dX11_roll_134 ?_
          have hr119 := rg_9_5 hR (k := 2) (by decide) (by decide)
          refine r_cVi (k := 9) (As := [.int (σ114 2 5)]) (rest := [.int z118, .ref (ad 34)]) ⟨hx, hb, hml, hown, hts⟩ hK hP hN hS (c_X2_allStores l D cA ad hI σ114 τ88 hR 9 (σ114 2 5) ⟨by omega, by omega⟩ (by omega)) (cwV 1 hts gX11_roll_X2_allStores rfl rfl rfl (by decide +kernel) ⟨by decide, by decide⟩) (rv_Days hK hP (by decide) (by decide)) rfl hl.1 rfl (Nat.le_of_ble_eq_true rfl) dX11_roll_137 (Nat.zero_le _) (Nat.zero_le _) (fun r120 u120 H120 locs120 hp120 hP hS => ?_)
          obtain ⟨σ120, τ120⟩ := u120
          obtain ⟨hR, f120, fL120⟩ : P_X2_allStores σ114 τ88 9 (σ114 2 5) r120 σ120 τ120 := hp120
          have hP : va_P D vwCl (gw cA ad σ120 τ120) H120 := hP
          obtain rfl := FrL.nil fL120
          obtain rfl := Fr.nil f120
          refine lv_aload_n hx hb dX11_roll_140 rfl (lv_at hl 2 rfl) ?_
          refine fg_11_4 (k := 0) hx hb hts in_X11_roll_11 hown hK hP (by decide) (by decide) (hts _ lk_X11_roll_38) dX11_roll_141 ?_
          refine lv_aload_n hx hb dX11_roll_144 rfl (lv_at hl 2 rfl) ?_
          refine fg_11_1 (k := 0) hx hb hts in_X11_roll_11 hown hK hP (by decide) (by decide) (hts _ lk_X11_roll_19) dX11_roll_145 ?_
          refine fgN_9_5 (k := 2) hx hb hts in_X11_roll_9 hown hK hP (by decide) (by decide) (hN.use nw_11_167) dX11_roll_148 ?_
          refine r_cVi (k := 7) (As := [.int (σ114 2 5)]) (rest := [.int r120, .int z118, .ref (ad 34)]) ⟨hx, hb, hml, hown, hts⟩ hK hP hN hS (c_X2_allStores l D cA ad hI σ114 τ88 hR 7 (σ114 2 5) ⟨by omega, by omega⟩ (by omega)) (cwV 1 hts gX11_roll_X2_allStores rfl rfl rfl (by decide +kernel) ⟨by decide, by decide⟩) (rv_Days hK hP (by decide) (by decide)) rfl hl.1 rfl (Nat.le_of_ble_eq_true rfl) dX11_roll_151 (Nat.zero_le _) (Nat.zero_le _) (fun r121 u121 H121 locs121 hp121 hP hS => ?_)
          obtain ⟨σ121, τ121⟩ := u121
          obtain ⟨hR, f121, fL121⟩ : P_X2_allStores σ114 τ88 7 (σ114 2 5) r121 σ121 τ121 := hp121
          have hP : va_P D vwCl (gw cA ad σ121 τ121) H121 := hP
          obtain rfl := FrL.nil fL121
          obtain rfl := Fr.nil f121
          refine r_isubU hx hb dX11_roll_154 (fun z122 => ?_)
          refine as_lastRoll (k := 34) (j := 3) hx hb hK hP hI hR hS (by decide) (by decide) (by omega) (by omega) dX11_roll_155 (fun σ123 H123 locs123 u123 v123 hR hP hS => ?_)
          have hF := hF.puts u123 5 rfl (by decide) (by decide) (by decide) (by decide)
          have gRI := RI.put gRI u123 (by decide)
          have gWH := gWH.ag (Agr.put u123 (by decide))
          have gWM := gWM.ag (Agr.put u123 (by decide))
          have t124 : (σ123 1 13).toInt = (σ114 1 13).toInt := congrArg Int32.toInt (u123 1 13 (by omega))
          have t125 : (σ123 0 18).toInt = (σ114 0 18).toInt := congrArg Int32.toInt (u123 0 18 (by omega))
          have t126 : (σ123 1 5).toInt = (σ114 1 5).toInt := congrArg Int32.toInt (u123 1 5 (by omega))
          have t127 : (σ123 2 5).toInt = (σ114 2 5).toInt := congrArg Int32.toInt (u123 2 5 (by omega))
          refine lv_aload_n hx hb dX11_roll_156 rfl (lv_at hl 2 rfl) ?_
          refine r_iconst hx hb dX11_roll_157 (by decide) (fun z128 ez128 => ?_)
          refine fp_11_17 (k := 0) hx hb hts in_X11_roll_11 hown hK hP (by decide) (by decide) (hts _ lk_X11_roll_389) hI hR hS (by omega) dX11_roll_158 (fun σ129 H129 locs129 u129 v129 hR hP hS => ?_)
          have hF := hF.puts u129 6 rfl (by decide) (by decide) (by decide) (by decide)
          have gRI := RI.put gRI u129 (by decide)
          have gWH := gWH.ag (Agr.put u129 (by decide))
          have gWM := gWM.ag (Agr.put u129 (by decide))
          have t130 : (σ129 1 13).toInt = (σ123 1 13).toInt := congrArg Int32.toInt (u129 1 13 (by omega))
          have t131 : (σ129 0 18).toInt = (σ123 0 18).toInt := congrArg Int32.toInt (u129 0 18 (by omega))
          have t132 : (σ129 1 5).toInt = (σ123 1 5).toInt := congrArg Int32.toInt (u129 1 5 (by omega))
          have t133 : (σ129 2 5).toInt = (σ123 2 5).toInt := congrArg Int32.toInt (u129 2 5 (by omega))
          refine lv_iload_n hx hb dX11_roll_161 rfl (lv_at hl 3 rfl) ?_
          refine r_iconst hx hb dX11_roll_162 (by decide) (fun z134 ez134 => ?_)
          refine r_icmp_ne (tgt := 188) hx hb dX11_roll_163 (by decide) (fun c135 => ?_) (fun c135 => ?_)
          · exfalso; omega
          · refine lv_aload_n hx hb dX11_roll_166 rfl (lv_at hl 2 rfl) ?_
            refine fg_11_7 (k := 0) hx hb hts in_X11_roll_11 hown hK hP (by decide) (by decide) (hts _ lk_X11_roll_51) dX11_roll_167 ?_
            refine lv_aload_n hx hb dX11_roll_170 rfl (lv_at hl 2 rfl) ?_
            refine fg_11_4 (k := 0) hx hb hts in_X11_roll_11 hown hK hP (by decide) (by decide) (hts _ lk_X11_roll_38) dX11_roll_171 ?_
            refine r_cVv (k := 20) (As := [.ref (ad 7)]) (rest := []) ⟨hx, hb, hml, hown, hts⟩ hK hP hN hS (c_X3_push l D cA ad hI σ129 τ88 hR 7 ⟨by omega, by omega⟩) (cwV 1 hts gX11_roll_X3_push rfl rfl rfl (by decide +kernel) ⟨by decide, by decide⟩) (rv_Hist hK hP (by decide) (by decide)) rfl hl.1 rfl (Nat.le_of_ble_eq_true rfl) dX11_roll_174 (Nat.zero_le _) (Nat.zero_le _) (fun u136 H136 locs136 hp136 hP hS => ?_)
            obtain ⟨σ136, τ136⟩ := u136
            obtain ⟨hR, f136, fL136⟩ : P_X3_push σ129 τ88 7 σ136 τ136 := hp136
            have hP : va_P D vwCl (gw cA ad σ136 τ136) H136 := hP
            obtain rfl := FrL.nil fL136
            have hF := hF.step f136 (by decide)
            have gRI := RI.fr gRI f136 (by decide)
            have gWH := gWH.ag (Agr.fr f136 (by decide))
            have gWM := gWM.ag (Agr.fr f136 (by decide))
            have t137 : (σ136 1 13).toInt = (σ129 1 13).toInt := congrArg Int32.toInt (f136.at 1 13 (by decide))
            have t138 : (σ136 0 18).toInt = (σ129 0 18).toInt := congrArg Int32.toInt (f136.at 0 18 (by decide))
            have t139 : (σ136 1 5).toInt = (σ129 1 5).toInt := congrArg Int32.toInt (f136.at 1 5 (by decide))
            have t140 : (σ136 2 5).toInt = (σ129 2 5).toInt := congrArg Int32.toInt (f136.at 2 5 (by decide))
            refine lv_aload_n hx hb dX11_roll_177 rfl (lv_at hl 2 rfl) ?_
            refine fg_11_4 (k := 0) hx hb hts in_X11_roll_11 hown hK hP (by decide) (by decide) (hts _ lk_X11_roll_38) dX11_roll_178 ?_
            refine lv_aload_n hx hb dX11_roll_181 rfl (lv_at hl 2 rfl) ?_
            refine fg_11_6 (k := 0) hx hb hts in_X11_roll_11 hown hK hP (by decide) (by decide) (hts _ lk_X11_roll_45) dX11_roll_182 ?_
            refine r_cVv (k := 7) (As := [.ref (ad 9)]) (rest := []) ⟨hx, hb, hml, hown, hts⟩ hK hP hN hS (c_X2_copyFrom l D cA ad hI σ136 τ88 hR 7 9 ⟨by omega, by omega⟩ ⟨by omega, by omega⟩) (cwV 1 hts gX11_roll_X2_copyFrom rfl rfl rfl (by decide +kernel) ⟨by decide, by decide⟩) (rv_Days hK hP (by decide) (by decide)) rfl hl.1 rfl (Nat.le_of_ble_eq_true rfl) dX11_roll_185 (Nat.zero_le _) (Nat.zero_le _) (fun u141 H141 locs141 hp141 hP hS => ?_)
            obtain ⟨σ141, τ141⟩ := u141
            obtain ⟨hR, f141, fL141⟩ : P_X2_copyFrom σ136 τ88 7 9 σ141 τ141 := hp141
            have hP : va_P D vwCl (gw cA ad σ141 τ141) H141 := hP
            obtain rfl := FrL.nil fL141
            have hF := hF.step f141 (by decide)
            have gRI := RI.fr gRI f141 (by decide)
            have gWH := gWH.ag (Agr.fr f141 (by decide))
            have gWM := gWM.ag (Agr.fr f141 (by decide))
            have t142 : (σ141 1 13).toInt = (σ136 1 13).toInt := congrArg Int32.toInt (f141.at 1 13 (by decide))
            have t143 : (σ141 0 18).toInt = (σ136 0 18).toInt := congrArg Int32.toInt (f141.at 0 18 (by decide))
            have t144 : (σ141 1 5).toInt = (σ136 1 5).toInt := congrArg Int32.toInt (f141.at 1 5 (by decide))
            have t145 : (σ141 2 5).toInt = (σ136 2 5).toInt := congrArg Int32.toInt (f141.at 2 5 (by decide))
            refine lv_iload_n hx hb dX11_roll_188 rfl (lv_at hl 0 rfl) ?_
            exact r_iret hx hb hr hK hP hS hk dX11_roll_189 (show P_X11_roll σ0 τ0 a1 b N nm hc mm mc r97 σ141 τ88 from ⟨hR, hF, hFL, by omega, by first | exact Or.inl ⟨by omega, by omega, by omega⟩ | (obtain ⟨y, e1, y1⟩ := o1.ye (by omega); exact Or.inr ⟨by omega, by rw [kndP_r e1]; omega⟩) | (obtain ⟨f, e1, x1, x2⟩ := o1.no (by omega); exact Or.inr ⟨by omega, by rw [kndP_l e1]; omega⟩), gRI, gWH, gWM⟩)
        · refine lv_aload_n hx hb dX11_roll_96 rfl (lv_at hl 2 rfl) ?_
          refine fg_11_13 (k := 0) hx hb hts in_X11_roll_11 hown hK hP (by decide) (by decide) (hts _ lk_X11_roll_97) dX11_roll_97 ?_
          refine fgN_5_6 (k := 28) hx hb hts in_X11_roll_5 hown hK hP (by decide) (by decide) (hN.use nw_11_388) dX11_roll_100 ?_
          have hr146 := rg_5_6 hR (k := 28) (by decide) (by decide)
          refine lv_goto (tgt := 107) hx hb dX11_roll_103 (by decide) ?_
          refine as_lastRoll (k := 34) (j := 1) hx hb hK hP hI hR hS (by decide) (by decide) (by omega) (by omega) dX11_roll_107 (fun σ147 H147 locs147 u147 v147 hR hP hS => ?_)
          have hF := hF.puts u147 5 rfl (by decide) (by decide) (by decide) (by decide)
          have gRI := RI.put gRI u147 (by decide)
          have gWH := gWH.ag (Agr.put u147 (by decide))
          have gWM := gWM.ag (Agr.put u147 (by decide))
          have t148 : (σ147 1 13).toInt = (σ102 1 13).toInt := congrArg Int32.toInt (u147 1 13 (by omega))
          have t149 : (σ147 0 18).toInt = (σ102 0 18).toInt := congrArg Int32.toInt (u147 0 18 (by omega))
          have t150 : (σ147 1 5).toInt = (σ102 1 5).toInt := congrArg Int32.toInt (u147 1 5 (by omega))
          refine lv_aload_n hx hb dX11_roll_108 rfl (lv_at hl 2 rfl) ?_
          refine fg_11_16 (k := 0) hx hb hts in_X11_roll_11 hown hK hP (by decide) (by decide) (hts _ lk_X11_roll_112) dX11_roll_109 ?_
          refine r_iconst hx hb dX11_roll_112 (by decide) (fun z151 ez151 => ?_)
          refine lv_aload_n hx hb dX11_roll_113 rfl (lv_at hl 2 rfl) ?_
          refine fg_11_6 (k := 0) hx hb hts in_X11_roll_11 hown hK hP (by decide) (by decide) (hts _ lk_X11_roll_45) dX11_roll_114 ?_
          refine fgN_2_0 (k := 9) hx hb hts in_X11_roll_2 hown hK hP (by decide) (by decide) (hN.use nw_11_214) dX11_roll_117 ?_
          refine as_lastRoll (k := 34) (j := 2) hx hb hK hP hI hR hS (by decide) (by decide) (by omega) (by omega) dX11_roll_120 (fun σ152 H152 locs152 u152 v152 hR hP hS => ?_)
          have hF := hF.puts u152 5 rfl (by decide) (by decide) (by decide) (by decide)
          have gRI := RI.put gRI u152 (by decide)
          have gWH := gWH.ag (Agr.put u152 (by decide))
          have gWM := gWM.ag (Agr.put u152 (by decide))
          have t153 : (σ152 1 13).toInt = (σ147 1 13).toInt := congrArg Int32.toInt (u152 1 13 (by omega))
          have t154 : (σ152 0 18).toInt = (σ147 0 18).toInt := congrArg Int32.toInt (u152 0 18 (by omega))
          have t155 : (σ152 1 5).toInt = (σ147 1 5).toInt := congrArg Int32.toInt (u152 1 5 (by omega))
          refine lv_aload_n hx hb dX11_roll_121 rfl (lv_at hl 2 rfl) ?_
          refine fg_11_16 (k := 0) hx hb hts in_X11_roll_11 hown hK hP (by decide) (by decide) (hts _ lk_X11_roll_112) dX11_roll_122 ?_
          refine r_iconst hx hb dX11_roll_125 (by decide) (fun z156 ez156 => ?_)
          refine lv_aload_n hx hb dX11_roll_126 rfl (lv_at hl 2 rfl) ?_
          refine fg_11_6 (k := 0) hx hb hts in_X11_roll_11 hown hK hP (by decide) (by decide) (hts _ lk_X11_roll_45) dX11_roll_127 ?_
          refine lv_aload_n hx hb dX11_roll_130 rfl (lv_at hl 2 rfl) ?_
          refine fg_11_1 (k := 0) hx hb hts in_X11_roll_11 hown hK hP (by decide) (by decide) (hts _ lk_X11_roll_19) dX11_roll_131 ?_
          refine fgN_9_5 (k := 2) hx hb hts in_X11_roll_9 hown hK hP (by decide) (by decide) (hN.use nw_11_167) dX11_roll_134 ?_
          have hr157 := rg_9_5 hR (k := 2) (by decide) (by decide)
          refine r_cVi (k := 9) (As := [.int (σ152 2 5)]) (rest := [.int z156, .ref (ad 34)]) ⟨hx, hb, hml, hown, hts⟩ hK hP hN hS (c_X2_allStores l D cA ad hI σ152 τ88 hR 9 (σ152 2 5) ⟨by omega, by omega⟩ (by omega)) (cwV 1 hts gX11_roll_X2_allStores rfl rfl rfl (by decide +kernel) ⟨by decide, by decide⟩) (rv_Days hK hP (by decide) (by decide)) rfl hl.1 rfl (Nat.le_of_ble_eq_true rfl) dX11_roll_137 (Nat.zero_le _) (Nat.zero_le _) (fun r158 u158 H158 locs158 hp158 hP hS => ?_)
          obtain ⟨σ158, τ158⟩ := u158
          obtain ⟨hR, f158, fL158⟩ : P_X2_allStores σ152 τ88 9 (σ152 2 5) r158 σ158 τ158 := hp158
          have hP : va_P D vwCl (gw cA ad σ158 τ158) H158 := hP
          obtain rfl := FrL.nil fL158
          obtain rfl := Fr.nil f158
          refine lv_aload_n hx hb dX11_roll_140 rfl (lv_at hl 2 rfl) ?_
          refine fg_11_4 (k := 0) hx hb hts in_X11_roll_11 hown hK hP (by decide) (by decide) (hts _ lk_X11_roll_38) dX11_roll_141 ?_
          refine lv_aload_n hx hb dX11_roll_144 rfl (lv_at hl 2 rfl) ?_
          refine fg_11_1 (k := 0) hx hb hts in_X11_roll_11 hown hK hP (by decide) (by decide) (hts _ lk_X11_roll_19) dX11_roll_145 ?_
          refine fgN_9_5 (k := 2) hx hb hts in_X11_roll_9 hown hK hP (by decide) (by decide) (hN.use nw_11_167) dX11_roll_148 ?_
          refine r_cVi (k := 7) (As := [.int (σ152 2 5)]) (rest := [.int r158, .int z156, .ref (ad 34)]) ⟨hx, hb, hml, hown, hts⟩ hK hP hN hS (c_X2_allStores l D cA ad hI σ152 τ88 hR 7 (σ152 2 5) ⟨by omega, by omega⟩ (by omega)) (cwV 1 hts gX11_roll_X2_allStores rfl rfl rfl (by decide +kernel) ⟨by decide, by decide⟩) (rv_Days hK hP (by decide) (by decide)) rfl hl.1 rfl (Nat.le_of_ble_eq_true rfl) dX11_roll_151 (Nat.zero_le _) (Nat.zero_le _) (fun r159 u159 H159 locs159 hp159 hP hS => ?_)
          obtain ⟨σ159, τ159⟩ := u159
          obtain ⟨hR, f159, fL159⟩ : P_X2_allStores σ152 τ88 7 (σ152 2 5) r159 σ159 τ159 := hp159
          have hP : va_P D vwCl (gw cA ad σ159 τ159) H159 := hP
          obtain rfl := FrL.nil fL159
          obtain rfl := Fr.nil f159
          refine r_isubU hx hb dX11_roll_154 (fun z160 => ?_)
          refine as_lastRoll (k := 34) (j := 3) hx hb hK hP hI hR hS (by decide) (by decide) (by omega) (by omega) dX11_roll_155 (fun σ161 H161 locs161 u161 v161 hR hP hS => ?_)
          have hF := hF.puts u161 5 rfl (by decide) (by decide) (by decide) (by decide)
          have gRI := RI.put gRI u161 (by decide)
          have gWH := gWH.ag (Agr.put u161 (by decide))
          have gWM := gWM.ag (Agr.put u161 (by decide))
          have t162 : (σ161 1 13).toInt = (σ152 1 13).toInt := congrArg Int32.toInt (u161 1 13 (by omega))
          have t163 : (σ161 0 18).toInt = (σ152 0 18).toInt := congrArg Int32.toInt (u161 0 18 (by omega))
          have t164 : (σ161 1 5).toInt = (σ152 1 5).toInt := congrArg Int32.toInt (u161 1 5 (by omega))
          have t165 : (σ161 2 5).toInt = (σ152 2 5).toInt := congrArg Int32.toInt (u161 2 5 (by omega))
          refine lv_aload_n hx hb dX11_roll_156 rfl (lv_at hl 2 rfl) ?_
          refine r_iconst hx hb dX11_roll_157 (by decide) (fun z166 ez166 => ?_)
          refine fp_11_17 (k := 0) hx hb hts in_X11_roll_11 hown hK hP (by decide) (by decide) (hts _ lk_X11_roll_389) hI hR hS (by omega) dX11_roll_158 (fun σ167 H167 locs167 u167 v167 hR hP hS => ?_)
          have hF := hF.puts u167 6 rfl (by decide) (by decide) (by decide) (by decide)
          have gRI := RI.put gRI u167 (by decide)
          have gWH := gWH.ag (Agr.put u167 (by decide))
          have gWM := gWM.ag (Agr.put u167 (by decide))
          have t168 : (σ167 1 13).toInt = (σ161 1 13).toInt := congrArg Int32.toInt (u167 1 13 (by omega))
          have t169 : (σ167 0 18).toInt = (σ161 0 18).toInt := congrArg Int32.toInt (u167 0 18 (by omega))
          have t170 : (σ167 1 5).toInt = (σ161 1 5).toInt := congrArg Int32.toInt (u167 1 5 (by omega))
          have t171 : (σ167 2 5).toInt = (σ161 2 5).toInt := congrArg Int32.toInt (u167 2 5 (by omega))
          refine lv_iload_n hx hb dX11_roll_161 rfl (lv_at hl 3 rfl) ?_
          refine r_iconst hx hb dX11_roll_162 (by decide) (fun z172 ez172 => ?_)
          refine r_icmp_ne (tgt := 188) hx hb dX11_roll_163 (by decide) (fun c173 => ?_) (fun c173 => ?_)
          · exfalso; omega
          · refine lv_aload_n hx hb dX11_roll_166 rfl (lv_at hl 2 rfl) ?_
            refine fg_11_7 (k := 0) hx hb hts in_X11_roll_11 hown hK hP (by decide) (by decide) (hts _ lk_X11_roll_51) dX11_roll_167 ?_
            refine lv_aload_n hx hb dX11_roll_170 rfl (lv_at hl 2 rfl) ?_
            refine fg_11_4 (k := 0) hx hb hts in_X11_roll_11 hown hK hP (by decide) (by decide) (hts _ lk_X11_roll_38) dX11_roll_171 ?_
            refine r_cVv (k := 20) (As := [.ref (ad 7)]) (rest := []) ⟨hx, hb, hml, hown, hts⟩ hK hP hN hS (c_X3_push l D cA ad hI σ167 τ88 hR 7 ⟨by omega, by omega⟩) (cwV 1 hts gX11_roll_X3_push rfl rfl rfl (by decide +kernel) ⟨by decide, by decide⟩) (rv_Hist hK hP (by decide) (by decide)) rfl hl.1 rfl (Nat.le_of_ble_eq_true rfl) dX11_roll_174 (Nat.zero_le _) (Nat.zero_le _) (fun u174 H174 locs174 hp174 hP hS => ?_)
            obtain ⟨σ174, τ174⟩ := u174
            obtain ⟨hR, f174, fL174⟩ : P_X3_push σ167 τ88 7 σ174 τ174 := hp174
            have hP : va_P D vwCl (gw cA ad σ174 τ174) H174 := hP
            obtain rfl := FrL.nil fL174
            have hF := hF.step f174 (by decide)
            have gRI := RI.fr gRI f174 (by decide)
            have gWH := gWH.ag (Agr.fr f174 (by decide))
            have gWM := gWM.ag (Agr.fr f174 (by decide))
            have t175 : (σ174 1 13).toInt = (σ167 1 13).toInt := congrArg Int32.toInt (f174.at 1 13 (by decide))
            have t176 : (σ174 0 18).toInt = (σ167 0 18).toInt := congrArg Int32.toInt (f174.at 0 18 (by decide))
            have t177 : (σ174 1 5).toInt = (σ167 1 5).toInt := congrArg Int32.toInt (f174.at 1 5 (by decide))
            have t178 : (σ174 2 5).toInt = (σ167 2 5).toInt := congrArg Int32.toInt (f174.at 2 5 (by decide))
            refine lv_aload_n hx hb dX11_roll_177 rfl (lv_at hl 2 rfl) ?_
            refine fg_11_4 (k := 0) hx hb hts in_X11_roll_11 hown hK hP (by decide) (by decide) (hts _ lk_X11_roll_38) dX11_roll_178 ?_
            refine lv_aload_n hx hb dX11_roll_181 rfl (lv_at hl 2 rfl) ?_
            refine fg_11_6 (k := 0) hx hb hts in_X11_roll_11 hown hK hP (by decide) (by decide) (hts _ lk_X11_roll_45) dX11_roll_182 ?_
            refine r_cVv (k := 7) (As := [.ref (ad 9)]) (rest := []) ⟨hx, hb, hml, hown, hts⟩ hK hP hN hS (c_X2_copyFrom l D cA ad hI σ174 τ88 hR 7 9 ⟨by omega, by omega⟩ ⟨by omega, by omega⟩) (cwV 1 hts gX11_roll_X2_copyFrom rfl rfl rfl (by decide +kernel) ⟨by decide, by decide⟩) (rv_Days hK hP (by decide) (by decide)) rfl hl.1 rfl (Nat.le_of_ble_eq_true rfl) dX11_roll_185 (Nat.zero_le _) (Nat.zero_le _) (fun u179 H179 locs179 hp179 hP hS => ?_)
            obtain ⟨σ179, τ179⟩ := u179
            obtain ⟨hR, f179, fL179⟩ : P_X2_copyFrom σ174 τ88 7 9 σ179 τ179 := hp179
            have hP : va_P D vwCl (gw cA ad σ179 τ179) H179 := hP
            obtain rfl := FrL.nil fL179
            have hF := hF.step f179 (by decide)
            have gRI := RI.fr gRI f179 (by decide)
            have gWH := gWH.ag (Agr.fr f179 (by decide))
            have gWM := gWM.ag (Agr.fr f179 (by decide))
            have t180 : (σ179 1 13).toInt = (σ174 1 13).toInt := congrArg Int32.toInt (f179.at 1 13 (by decide))
            have t181 : (σ179 0 18).toInt = (σ174 0 18).toInt := congrArg Int32.toInt (f179.at 0 18 (by decide))
            have t182 : (σ179 1 5).toInt = (σ174 1 5).toInt := congrArg Int32.toInt (f179.at 1 5 (by decide))
            have t183 : (σ179 2 5).toInt = (σ174 2 5).toInt := congrArg Int32.toInt (f179.at 2 5 (by decide))
            refine lv_iload_n hx hb dX11_roll_188 rfl (lv_at hl 0 rfl) ?_
            exact r_iret hx hb hr hK hP hS hk dX11_roll_189 (show P_X11_roll σ0 τ0 a1 b N nm hc mm mc r97 σ179 τ88 from ⟨hR, hF, hFL, by omega, by first | exact Or.inl ⟨by omega, by omega, by omega⟩ | (obtain ⟨y, e1, y1⟩ := o1.ye (by omega); exact Or.inr ⟨by omega, by rw [kndP_r e1]; omega⟩) | (obtain ⟨f, e1, x1, x2⟩ := o1.no (by omega); exact Or.inr ⟨by omega, by rw [kndP_l e1]; omega⟩), gRI, gWH, gWM⟩)
      · clear hp88_1
        refine r_bipush hx hb dX11_roll_39 (by decide) (fun z184 ez184 => ?_)
        refine lv_aload_n hx hb dX11_roll_41 rfl (lv_at hl 1 rfl) ?_
        refine fg_11_0 (k := 0) hx hb hts in_X11_roll_11 hown hK hP (by decide) (by decide) (hts _ lk_X11_roll_10) dX11_roll_42 ?_
        refine fgN_8_14 (k := 1) hx hb hts in_X11_roll_8 hown hK hP (by decide) (by decide) (hN.use nw_11_133) dX11_roll_45 ?_
        refine r_isubU hx hb dX11_roll_48 (fun z185 => ?_)
        exact r_iret hx hb hr hK hP hS hk dX11_roll_49 (show P_X11_roll σ0 τ0 a1 b N nm hc mm mc z185 σ90 τ88 from ⟨hR, hF, hFL, by omega, by first | exact Or.inl ⟨by omega, by omega, by omega⟩ | (obtain ⟨y, e1, y1⟩ := o1.ye (by omega); exact Or.inr ⟨by omega, by rw [kndP_r e1]; omega⟩) | (obtain ⟨f, e1, x1, x2⟩ := o1.no (by omega); exact Or.inr ⟨by omega, by rw [kndP_l e1]; omega⟩), gRI, gWH, gWM⟩)
    · refine r_sipush hx hb dX11_roll_9 (by decide) (fun z186 ez186 => ?_)
      exact r_iret hx hb hr hK hP hS hk dX11_roll_12 (show P_X11_roll σ0 τ0 a1 b N nm hc mm mc z186 σ0 τ0 from ⟨hR, hF, hFL, by omega, by first | exact Or.inl ⟨by omega, by omega, by omega⟩ | (obtain ⟨y, e1, y1⟩ := o1.ye (by omega); exact Or.inr ⟨by omega, by rw [kndP_r e1]; omega⟩) | (obtain ⟨f, e1, x1, x2⟩ := o1.no (by omega); exact Or.inr ⟨by omega, by rw [kndP_l e1]; omega⟩), gRI, gWH, gWM⟩)
theorem in_X11_rolled_11 : ∀ w ∈ u_ws RX11 TX11 19, w ∈ wsX11_rolled := by decide +kernel
theorem lk_X11_rolled_112 : Cond.fieldLink RX11 112 "CuckooShares" "lastRoll" "[I" ∈ wsX11_rolled := by decide +kernel
theorem lk_X11_rolled_389 : Cond.fieldLink RX11 389 "CuckooShares" "rollTold" "Z" ∈ wsX11_rolled := by decide +kernel
abbrev L_X11_rolled : List Rc := []
abbrev LL_X11_rolled : List Rc := []
def P_X11_rolled (σ0 : Nat → Nat → Int32) (τ0 : Nat → Nat → Int64) (a1 : Int32) (r : Int32) (σ : Nat → Nat → Int32) (τ : Nat → Nat → Int64) : Prop := Rg σ ∧ Fr L_X11_rolled σ0 σ ∧ FrL LL_X11_rolled τ0 τ
set_option maxHeartbeats 4000000 in
theorem c_X11_rolled (l : Launch) (D : va_G) (cA : Nat → ClassId) (ad : Nat → Nat) (hI : Inj ad) (σ0 : Nat → Nat → Int32) (τ0 : Nat → Nat → Int64) (hR : Rg σ0) (a1 : Int32)  : Met l yX11_rolled wsX11_rolled ({ frames := 0, cells := 0, slots := 0, locals := 0 } : Room) (WQc D cA ad [.ref (ad 0), .int a1] σ0 τ0) (va_Qi (fun (r : Int32) (u : SS) => P_X11_rolled σ0 τ0 a1 r u.1 u.2) (WB D cA ad) (AA ad)) 0 0 (AA ad) := by
  refine Met.ofW (cc := cX11_rolled) (maxL := 2) (ret := (some .int)) (by decide) rfl ?_
  intro p e s m args below meth c s₁ B hml hv
  obtain ⟨rfl, hP, hK, hN⟩ := hv
  have C : Cy p s m _ meth c cX11_rolled 2 wsX11_rolled RX11 D cA ad (some .int) := ⟨B.exec, B.bytes, hml, findClass_of_methodNamed B.named, atoms_spec (ws := wsX11_rolled) B.pre, hK, B.notSynchronized, B.returns, hI, hN⟩
  have hl := lv_entry ([.ref (ad 0), .int a1]) (n := 2) (Nat.le_of_ble_eq_true rfl)
  rw [lg_entry_eq]
  generalize (lg_sl ([.ref (ad 0), .int a1]) ++ List.replicate (2 - (lg_sl ([.ref (ad 0), .int a1])).length) Slot.unset).toArray = ls at hl ⊢
  have hl : lv_has ls 2 [(0, .ref (ad 0)), (1, .int a1)] := hl
  have hS : va_S (AA ad) s.heap s.heap [] := va_S.rf
  have hF : Fr L_X11_rolled σ0 σ0 := Fr.rf
  have hFL : FrL LL_X11_rolled τ0 τ0 := FrL.rf
  obtain ⟨hx, hb, _, hown, hts, _, hk, hr, _, _⟩ := C
  refine lv_aload_n hx hb dX11_rolled_0 rfl (lv_at hl 0 rfl) ?_
  refine fg_11_17 (k := 0) hx hb hts in_X11_rolled_11 hown hK hP (by decide) (by decide) (hts _ lk_X11_rolled_389) dX11_rolled_1 ?_
  have hr1 := rg_11_17 hR (k := 0) (by decide) (by decide)
  refine r_if_eq (tgt := 20) hx hb dX11_rolled_4 (by decide) (fun c2 => ?_) (fun c2 => ?_)
  · refine r_iconst hx hb dX11_rolled_20 (by decide) (fun z3 ez3 => ?_)
    exact r_iret hx hb hr hK hP hS hk dX11_rolled_21 (show P_X11_rolled σ0 τ0 a1 z3 σ0 τ0 from ⟨hR, hF, hFL⟩)
  · refine lv_iload_n hx hb dX11_rolled_7 rfl (lv_at hl 1 rfl) ?_
    refine r_if_lt (tgt := 20) hx hb dX11_rolled_8 (by decide) (fun c4 => ?_) (fun c4 => ?_)
    · refine r_iconst hx hb dX11_rolled_20 (by decide) (fun z5 ez5 => ?_)
      exact r_iret hx hb hr hK hP hS hk dX11_rolled_21 (show P_X11_rolled σ0 τ0 a1 z5 σ0 τ0 from ⟨hR, hF, hFL⟩)
    · refine lv_iload_n hx hb dX11_rolled_11 rfl (lv_at hl 1 rfl) ?_
      refine lv_aload_n hx hb dX11_rolled_12 rfl (lv_at hl 0 rfl) ?_
      refine fg_11_16 (k := 0) hx hb hts in_X11_rolled_11 hown hK hP (by decide) (by decide) (hts _ lk_X11_rolled_112) dX11_rolled_13 ?_
      refine al_lastRoll (k := 34) hx hb hK hP (by decide) (by decide) dX11_rolled_16 (fun z6 ez6 => ?_)
      refine r_icmp_lt (tgt := 22) hx hb dX11_rolled_17 (by decide) (fun c7 => ?_) (fun c7 => ?_)
      · refine lv_aload_n hx hb dX11_rolled_22 rfl (lv_at hl 0 rfl) ?_
        refine fg_11_16 (k := 0) hx hb hts in_X11_rolled_11 hown hK hP (by decide) (by decide) (hts _ lk_X11_rolled_112) dX11_rolled_23 ?_
        refine lv_iload_n hx hb dX11_rolled_26 rfl (lv_at hl 1 rfl) ?_
        obtain ⟨j8, ej8⟩ : ∃ j : Nat, a1.toInt = (j : Int) := ⟨_, ti_nat (by omega)⟩
        refine ad_lastRoll (k := 34) (j := j8) hx hb hK hP (by decide) (by decide) ej8 (by omega) dX11_rolled_27 ?_
        exact r_iret hx hb hr hK hP hS hk dX11_rolled_28 (show P_X11_rolled σ0 τ0 a1 (σ0 34 j8) σ0 τ0 from ⟨hR, hF, hFL⟩)
      · refine r_iconst hx hb dX11_rolled_20 (by decide) (fun z9 ez9 => ?_)
        exact r_iret hx hb hr hK hP hS hk dX11_rolled_21 (show P_X11_rolled σ0 τ0 a1 z9 σ0 τ0 from ⟨hR, hF, hFL⟩)
theorem in_X11_sentence_11 : ∀ w ∈ u_ws RX11 TX11 19, w ∈ wsX11_sentence := by decide +kernel
theorem in_X11_sentence_6 : ∀ w ∈ u_ws RX6 TX6 7, w ∈ wsX11_sentence := by decide +kernel
theorem in_X11_sentence_8 : ∀ w ∈ u_ws RX8 TX8 15, w ∈ wsX11_sentence := by decide +kernel
theorem lk_X11_sentence_10 : Cond.fieldLink RX11 10 "CuckooShares" "tape" "LCuckooShares$Tape;" ∈ wsX11_sentence := by decide +kernel
theorem lk_X11_sentence_76 : Cond.fieldLink RX11 76 "CuckooShares" "sentence" "LCuckooShares$Sentence;" ∈ wsX11_sentence := by decide +kernel
theorem lk_X11_sentence_80 : Cond.fieldLink RX11 80 "CuckooShares" "spareSentence" "LCuckooShares$Sentence;" ∈ wsX11_sentence := by decide +kernel
theorem lk_X11_sentence_88 : Cond.fieldLink RX11 88 "CuckooShares" "sentenceText" "LCuckooShares$SentenceText;" ∈ wsX11_sentence := by decide +kernel
abbrev L_X11_sentence : List Rc := [(36, 36, 0, 940), (37, 37, 0, 940), (38, 38, 0, 940), (1, 1, 5, 10), (0, 0, 18, 18), (1, 1, 12, 14), (23, 26, 0, 2), (371, 374, 0, 40), (375, 378, 0, 40), (379, 382, 0, 40)]
abbrev LL_X11_sentence : List Rc := [(39, 39, 0, 940), (1, 1, 11, 11)]
def P_X11_sentence (σ0 : Nat → Nat → Int32) (τ0 : Nat → Nat → Int64) (b : Nat → Int) (N : Nat) (nm : Nat → Int) (hc : Nat) (r : Int32) (σ : Nat → Nat → Int32) (τ : Nat → Nat → Int64) : Prop := Rg σ ∧ Fr L_X11_sentence σ0 σ ∧ FrL LL_X11_sentence τ0 τ ∧ ((σ 1 5).toInt = 0) ∧ (r.toInt = senA b N nm hc) ∧ ((σ 0 18).toInt = kndP (senP b N 200 nm hc)) ∧ WH σ τ nm hc
set_option maxHeartbeats 4000000 in
theorem c_X11_sentence (l : Launch) (D : va_G) (cA : Nat → ClassId) (ad : Nat → Nat) (hI : Inj ad) (σ0 : Nat → Nat → Int32) (τ0 : Nat → Nat → Int64) (hR : Rg σ0) (b : Nat → Int) (N : Nat) (nm : Nat → Int) (hc : Nat) (gBY0 : BY σ0 b N) (gWH0 : WH σ0 τ0 nm hc) : Met l yX11_sentence wsX11_sentence ({ frames := 29, cells := 0, slots := 0, locals := 635 } : Room) (WQc D cA ad [.ref (ad 0)] σ0 τ0) (va_Qi (fun (r : Int32) (u : SS) => P_X11_sentence σ0 τ0 b N nm hc r u.1 u.2) (WB D cA ad) (AA ad)) 0 0 (AA ad) := by
  refine Met.ofW (cc := cX11_sentence) (maxL := 2) (ret := (some .int)) (by decide) rfl ?_
  intro p e s m args below meth c s₁ B hml hv
  obtain ⟨rfl, hP, hK, hN⟩ := hv
  have C : Cy p s m _ meth c cX11_sentence 2 wsX11_sentence RX11 D cA ad (some .int) := ⟨B.exec, B.bytes, hml, findClass_of_methodNamed B.named, atoms_spec (ws := wsX11_sentence) B.pre, hK, B.notSynchronized, B.returns, hI, hN⟩
  have hl := lv_entry ([.ref (ad 0)]) (n := 2) (Nat.le_of_ble_eq_true rfl)
  rw [lg_entry_eq]
  generalize (lg_sl ([.ref (ad 0)]) ++ List.replicate (2 - (lg_sl ([.ref (ad 0)])).length) Slot.unset).toArray = ls at hl ⊢
  have hl : lv_has ls 2 [(0, .ref (ad 0))] := hl
  have hS : va_S (AA ad) s.heap s.heap [] := va_S.rf
  have hF : Fr L_X11_sentence σ0 σ0 := Fr.rf
  have hFL : FrL LL_X11_sentence τ0 τ0 := FrL.rf
  have gBY := gBY0
  have gWH := gWH0
  obtain ⟨hx, hb, _, hown, hts, _, hk, hr, _, _⟩ := C
  refine lv_aload_n hx hb dX11_sentence_0 rfl (lv_at hl 0 rfl) ?_
  refine fg_11_0 (k := 0) hx hb hts in_X11_sentence_11 hown hK hP (by decide) (by decide) (hts _ lk_X11_sentence_10) dX11_sentence_1 ?_
  refine r_sipush hx hb dX11_sentence_4 (by decide) (fun z1 ez1 => ?_)
  have hbl := gBY.2.1
  refine r_cVv (k := 1) (As := [.int z1]) (rest := []) ⟨hx, hb, hml, hown, hts⟩ hK hP hN hS (c_X8_scan_v l D cA ad hI σ0 τ0 hR z1 b N 200 (by omega) (by omega) gBY) (cwV 1 hts gX11_sentence_X8_scan rfl rfl rfl (by decide +kernel) ⟨by decide, by decide⟩) (rv_Tape hK hP (by decide) (by decide)) rfl hl.1 rfl (Nat.le_of_ble_eq_true rfl) dX11_sentence_7 (Nat.zero_le _) (Nat.zero_le _) (fun u2 H2 locs2 hp2 hP hS => ?_)
  obtain ⟨σ2, τ2⟩ := u2
  obtain ⟨hR, f2, fL2, hp2_0, hp2_1, gnBY⟩ : P_X8_scan_v σ0 τ0 z1 b N 200 σ2 τ2 := hp2
  have hP : va_P D vwCl (gw cA ad σ2 τ2) H2 := hP
  have hFL := hFL.step fL2 (by decide)
  have gWH := gWH.agL (AgrL.fr fL2 (by decide))
  have hF := hF.step f2 (by decide)
  have gBY := gBY.ag (Agr.fr f2 (by decide))
  have gWH := gWH.ag (Agr.fr f2 (by decide))
  have t3 : (σ2 0 18).toInt = (σ0 0 18).toInt := congrArg Int32.toInt (f2.at 0 18 (by decide))
  have gCT := hp2_0
  refine lv_aload_n hx hb dX11_sentence_10 rfl (lv_at hl 0 rfl) ?_
  refine fg_11_12 (k := 0) hx hb hts in_X11_sentence_11 hown hK hP (by decide) (by decide) (hts _ lk_X11_sentence_88) dX11_sentence_11 ?_
  refine r_cVi (k := 27) (As := []) (rest := []) ⟨hx, hb, hml, hown, hts⟩ hK hP hN hS (c_X7_read l D cA ad hI σ2 τ2 hR b N 200 nm hc gCT gWH) (cwV 0 hts gX11_sentence_X7_read rfl rfl rfl (by decide +kernel) ⟨by decide, by decide⟩) (rv_SText hK hP (by decide) (by decide)) rfl hl.1 rfl (Nat.le_of_ble_eq_true rfl) dX11_sentence_14 (Nat.zero_le _) (Nat.zero_le _) (fun r4 u4 H4 locs4 hp4 hP hS => ?_)
  obtain ⟨σ4, τ4⟩ := u4
  obtain ⟨hR, f4, fL4, hq4, hp4_0, hp4_1, gnWH⟩ : P_X7_read σ2 τ2 b N 200 nm hc r4 σ4 τ4 := hp4
  have o1 := hp4_0
  have hP : va_P D vwCl (gw cA ad σ4 τ4) H4 := hP
  have hFL := hFL.step fL4 (by decide)
  have gWH := gWH.agL (AgrL.fr fL4 (by decide))
  have hF := hF.step f4 (by decide)
  have gBY := gBY.ag (Agr.fr f4 (by decide))
  have gWH := gWH.ag (Agr.fr f4 (by decide))
  have t5 : (σ4 0 18).toInt = (σ2 0 18).toInt := congrArg Int32.toInt (f4.at 0 18 (by decide))
  refine lv_istore_n (lv' := [(1, .int r4), (0, .ref (ad 0))]) hx hb dX11_sentence_17 rfl hl (by decide) rfl (fun ls hl => ?_)
  refine lv_aload_n hx hb dX11_sentence_18 rfl (lv_at hl 1 rfl) ?_
  refine r_cVv (k := 0) (As := []) (rest := []) ⟨hx, hb, hml, hown, hts⟩ hK hP hN hS (c_X11_emptyTape l D cA ad hI σ4 τ4 hR) (cwV 0 hts gX11_sentence_X11_emptyTape rfl rfl rfl (by decide +kernel) ⟨by decide, by decide⟩) (rv_X hK hP (by decide) (by decide)) rfl hl.1 rfl (Nat.le_of_ble_eq_true rfl) dX11_sentence_19 (Nat.zero_le _) (Nat.zero_le _) (fun u6 H6 locs6 hp6 hP hS => ?_)
  obtain ⟨σ6, τ6⟩ := u6
  obtain ⟨hR, f6, fL6, hp6_0, hp6_1⟩ : P_X11_emptyTape σ4 τ4 σ6 τ6 := hp6
  have e18 := hp6_1
  have fe := f6
  have hP : va_P D vwCl (gw cA ad σ6 τ6) H6 := hP
  obtain rfl := FrL.nil fL6
  have hF := hF.step f6 (by decide)
  have gWH := gWH.ag (Agr.fr f6 (by decide))
  have t7 : (σ6 1 13).toInt = (σ4 1 13).toInt := congrArg Int32.toInt (f6.at 1 13 (by decide))
  refine lv_iload_n hx hb dX11_sentence_22 rfl (lv_at hl 0 rfl) ?_
  refine r_if_ne (tgt := 36) hx hb dX11_sentence_23 (by decide) (fun c8 => ?_) (fun c8 => ?_)
  · replace hp4_1 := hp4_1.resolve_left (by omega)
    have e24 := congrArg Int32.toInt (fe.at 24 1 (by decide))
    refine lv_aload_n hx hb dX11_sentence_36 rfl (lv_at hl 1 rfl) ?_
    refine fg_11_10 (k := 0) hx hb hts in_X11_sentence_11 hown hK hP (by decide) (by decide) (hts _ lk_X11_sentence_76) dX11_sentence_37 ?_
    refine lv_aload_n hx hb dX11_sentence_40 rfl (lv_at hl 1 rfl) ?_
    refine fg_11_11 (k := 0) hx hb hts in_X11_sentence_11 hown hK hP (by decide) (by decide) (hts _ lk_X11_sentence_80) dX11_sentence_41 ?_
    refine r_cVv (k := 23) (As := [.ref (ad 24)]) (rest := []) ⟨hx, hb, hml, hown, hts⟩ hK hP hN hS (c_X6_copyFrom l D cA ad hI σ6 τ4 hR 23 24 ⟨by omega, by omega⟩ ⟨by omega, by omega⟩) (cwV 1 hts gX11_sentence_X6_copyFrom rfl rfl rfl (by decide +kernel) ⟨by decide, by decide⟩) (rv_Sent hK hP (by decide) (by decide)) rfl hl.1 rfl (Nat.le_of_ble_eq_true rfl) dX11_sentence_44 (Nat.zero_le _) (Nat.zero_le _) (fun u9 H9 locs9 hp9 hP hS => ?_)
    obtain ⟨σ9, τ9⟩ := u9
    obtain ⟨hR, f9, fL9, hp9_0⟩ : P_X6_copyFrom σ6 τ4 23 24 σ9 τ9 := hp9
    have ocp := hp9_0
    have hP : va_P D vwCl (gw cA ad σ9 τ9) H9 := hP
    obtain rfl := FrL.nil fL9
    have hF := hF.step f9 (by decide)
    have gWH := gWH.ag (Agr.fr f9 (by decide))
    have t10 : (σ9 1 13).toInt = (σ6 1 13).toInt := congrArg Int32.toInt (f9.at 1 13 (by decide))
    have t11 : (σ9 0 18).toInt = (σ6 0 18).toInt := congrArg Int32.toInt (f9.at 0 18 (by decide))
    have t12 : (σ9 1 5).toInt = (σ6 1 5).toInt := congrArg Int32.toInt (f9.at 1 5 (by decide))
    refine lv_aload_n hx hb dX11_sentence_47 rfl (lv_at hl 1 rfl) ?_
    refine fg_11_10 (k := 0) hx hb hts in_X11_sentence_11 hown hK hP (by decide) (by decide) (hts _ lk_X11_sentence_76) dX11_sentence_48 ?_
    refine fgN_6_1 (k := 23) hx hb hts in_X11_sentence_6 hown hK hP (by decide) (by decide) (hN.use nw_11_397) dX11_sentence_51 ?_
    have hr13 := rg_6_1 hR (k := 23) (by decide) (by decide)
    exact r_iret hx hb hr hK hP hS hk dX11_sentence_54 (show P_X11_sentence σ0 τ0 b N nm hc (σ9 23 1) σ9 τ4 from ⟨hR, hF, hFL, by omega, by first | (obtain ⟨f, e1, x1, x2⟩ := o1.no (by omega); rw [senA_l e1]; omega) | (obtain ⟨y, e1, y1⟩ := o1.ye (by omega); rw [senA_r e1]; omega), by first | (obtain ⟨y, e1, y1⟩ := o1.ye (by omega); rw [kndP_r e1]; omega) | (obtain ⟨f, e1, x1, x2⟩ := o1.no (by omega); rw [kndP_l e1]; omega), gWH⟩)
  · clear hp4_1
    have e14 := congrArg Int32.toInt (fe.at 1 14 (by decide))
    refine r_iconst hx hb dX11_sentence_26 (by decide) (fun z14 ez14 => ?_)
    refine lv_aload_n hx hb dX11_sentence_27 rfl (lv_at hl 1 rfl) ?_
    refine fg_11_0 (k := 0) hx hb hts in_X11_sentence_11 hown hK hP (by decide) (by decide) (hts _ lk_X11_sentence_10) dX11_sentence_28 ?_
    refine fgN_8_14 (k := 1) hx hb hts in_X11_sentence_8 hown hK hP (by decide) (by decide) (hN.use nw_11_133) dX11_sentence_31 ?_
    have b16 := And.intro (ti_lo (σ6 1 14)) (ti_hi (σ6 1 14))
    refine r_isub hx hb dX11_sentence_34 (by omega) (fun z15 ez15 => ?_)
    exact r_iret hx hb hr hK hP hS hk dX11_sentence_35 (show P_X11_sentence σ0 τ0 b N nm hc z15 σ6 τ4 from ⟨hR, hF, hFL, by omega, by first | (obtain ⟨f, e1, x1, x2⟩ := o1.no (by omega); rw [senA_l e1]; omega) | (obtain ⟨y, e1, y1⟩ := o1.ye (by omega); rw [senA_r e1]; omega), by first | (obtain ⟨y, e1, y1⟩ := o1.ye (by omega); rw [kndP_r e1]; omega) | (obtain ⟨f, e1, x1, x2⟩ := o1.no (by omega); rw [kndP_l e1]; omega), gWH⟩)
theorem in_X11_said_11 : ∀ w ∈ u_ws RX11 TX11 19, w ∈ wsX11_said := by decide +kernel
theorem in_X11_said_6 : ∀ w ∈ u_ws RX6 TX6 7, w ∈ wsX11_said := by decide +kernel
theorem in_X11_said_9 : ∀ w ∈ u_ws RX9 TX9 14, w ∈ wsX11_said := by decide +kernel
theorem lk_X11_said_19 : Cond.fieldLink RX11 19 "CuckooShares" "valley" "LCuckooShares$Valley;" ∈ wsX11_said := by decide +kernel
theorem lk_X11_said_38 : Cond.fieldLink RX11 38 "CuckooShares" "days" "LCuckooShares$Days;" ∈ wsX11_said := by decide +kernel
theorem lk_X11_said_69 : Cond.fieldLink RX11 69 "CuckooShares" "acts" "LCuckooShares$Acts;" ∈ wsX11_said := by decide +kernel
theorem lk_X11_said_76 : Cond.fieldLink RX11 76 "CuckooShares" "sentence" "LCuckooShares$Sentence;" ∈ wsX11_said := by decide +kernel
abbrev L_X11_said : List Rc := [(383, 383, 0, 39), (360, 360, 0, 7), (361, 361, 0, 7), (362, 362, 0, 7)]
abbrev LL_X11_said : List Rc := []
def P_X11_said (σ0 : Nat → Nat → Int32) (τ0 : Nat → Nat → Int64) (a1 : Int32) (r : Int32) (σ : Nat → Nat → Int32) (τ : Nat → Nat → Int64) : Prop := Rg σ ∧ Fr L_X11_said σ0 σ ∧ FrL LL_X11_said τ0 τ ∧ (-1 ≤ r.toInt ∧ r.toInt ≤ 63)
def J_X11_said_52 (p : Program) (l : Launch) (e : Env) (s : State) (m : MethodId) (args : Array Value) (below : List Frame) (meth : Method) (c : Code) (D : va_G) (cA : Nat → ClassId) (ad : Nat → Nat) (σ0 : Nat → Nat → Int32) (τ0 : Nat → Nat → Int64) (a1 : Int32) (n : Nat) : Prop := ∀ (σ : Nat → Nat → Int32) (τ : Nat → Nat → Int64) (H : Heap) (locs : List Loc) (x2 : Int32) (x3 : Int32) (x4 : Int32) (ls : Array Slot), Rg σ → Fr L_X11_said σ0 σ → FrL LL_X11_said τ0 τ → va_P D vwCl (gw cA ad σ τ) H → va_S (AA ad) s.heap H locs → (0 ≤ a1.toInt) → (0 ≤ x4.toInt ∧ x4.toInt ≤ 8) → lv_has ls 5 [(0, .ref (ad 0)), (1, .int a1), (2, .int x2), (3, .int x3), (4, .int x4)] → 2 * (8 - x4.toInt) + 1 < (n : Int) → W p l e ({ frames := 7, cells := 0, slots := 0, locals := 169 } : Room) s m args below meth c H locs 0 0 (MQ below (va_Qi (fun (r : Int32) (u : SS) => P_X11_said σ0 τ0 a1 r u.1 u.2) (WB D cA ad) (AA ad)) args s 0 0 (AA ad)) (F0 m 52 ls [])
set_option maxHeartbeats 4000000 in
theorem B_X11_said_52 (p : Program) (l : Launch) (e : Env) (s : State) (m : MethodId) (args : Array Value) (below : List Frame) (meth : Method) (c : Code) (D : va_G) (cA : Nat → ClassId) (ad : Nat → Nat) (σ0 : Nat → Nat → Int32) (τ0 : Nat → Nat → Int64) (a1 : Int32) (n : Nat) (C : Cy p s m args meth c cX11_said 5 wsX11_said RX11 D cA ad (some .int))  (K52 : J_X11_said_52 p l e s m args below meth c D cA ad σ0 τ0 a1 n) : J_X11_said_52 p l e s m args below meth c D cA ad σ0 τ0 a1 (n + 1) := by
  obtain ⟨hx, hb, hml, hown, hts, hK, hk, hr, hI, hN⟩ := C
  intro σ τ H locs x2 x3 x4 ls hR hF hFL hP hS hc0 hc1 hl hm
  obtain rfl := FrL.nil hFL
  refine lv_iload hx hb dX11_said_52 (lv_at hl 4 rfl) ?_
  refine lv_aload_n hx hb dX11_said_54 rfl (lv_at hl 0 rfl) ?_
  refine fg_11_1 (k := 0) hx hb hts in_X11_said_11 hown hK hP (by decide) (by decide) (hts _ lk_X11_said_19) dX11_said_55 ?_
  refine fgN_9_5 (k := 2) hx hb hts in_X11_said_9 hown hK hP (by decide) (by decide) (hN.use nw_11_167) dX11_said_58 ?_
  have hr1 := rg_9_5 hR (k := 2) (by decide) (by decide)
  refine r_icmp_ge (tgt := 91) hx hb dX11_said_61 (by decide) (fun c2 => ?_) (fun c2 => ?_)
  · refine r_iconst hx hb dX11_said_91 (by decide) (fun z3 ez3 => ?_)
    exact r_iret hx hb hr hK hP hS hk dX11_said_92 (show P_X11_said σ0 τ0 a1 z3 σ τ0 from ⟨hR, hF, hFL, by omega⟩)
  · refine lv_iload_n hx hb dX11_said_64 rfl (lv_at hl 2 rfl) ?_
    refine lv_iload hx hb dX11_said_65 (lv_at hl 4 rfl) ?_
    refine r_ishrU hx hb dX11_said_67 (fun z4 => ?_)
    refine r_iconst hx hb dX11_said_68 (by decide) (fun z5 ez5 => ?_)
    refine r_iand (w := 1) hx hb 1 dX11_said_69 (by omega) (by decide) (fun z6 ez6 => ?_)
    refine r_iconst hx hb dX11_said_70 (by decide) (fun z7 ez7 => ?_)
    refine r_icmp_ne (tgt := 85) hx hb dX11_said_71 (by decide) (fun c8 => ?_) (fun c8 => ?_)
    · refine r_iinc (k := 4) (lv1 := fun z9 => [(4, .int z9), (0, .ref (ad 0)), (1, .int a1), (2, .int x2), (3, .int x3)]) hx hb dX11_said_85 hl rfl (by decide) (fun _ => rfl) (by decide) (by omega) (fun z9 ls ez9 hl => ?_)
      refine lv_goto (tgt := 52) hx hb dX11_said_88 (by decide) ?_
      exact K52 σ τ0 H locs x2 x3 z9 ls hR hF hFL hP hS (by omega) (by omega) (lv_sub hl [1, 2, 3, 4, 0] rfl) (by omega)
    · refine lv_iload_n hx hb dX11_said_74 rfl (lv_at hl 3 rfl) ?_
      refine lv_iload_n hx hb dX11_said_75 rfl (lv_at hl 1 rfl) ?_
      refine r_icmp_ne (tgt := 82) hx hb dX11_said_76 (by decide) (fun c10 => ?_) (fun c10 => ?_)
      · refine r_iincU (k := 3) (lv1 := fun z11 => [(3, .int z11), (0, .ref (ad 0)), (1, .int a1), (2, .int x2), (4, .int x4)]) hx hb dX11_said_82 hl rfl (by decide) (fun _ => rfl) (fun z11 ls hl => ?_)
        refine r_iinc (k := 4) (lv1 := fun z12 => [(4, .int z12), (3, .int z11), (0, .ref (ad 0)), (1, .int a1), (2, .int x2)]) hx hb dX11_said_85 hl rfl (by decide) (fun _ => rfl) (by decide) (by omega) (fun z12 ls ez12 hl => ?_)
        refine lv_goto (tgt := 52) hx hb dX11_said_88 (by decide) ?_
        exact K52 σ τ0 H locs x2 z11 z12 ls hR hF hFL hP hS (by omega) (by omega) (lv_sub hl [2, 3, 4, 1, 0] rfl) (by omega)
      · refine lv_iload hx hb dX11_said_79 (lv_at hl 4 rfl) ?_
        exact r_iret hx hb hr hK hP hS hk dX11_said_81 (show P_X11_said σ0 τ0 a1 x4 σ τ0 from ⟨hR, hF, hFL, by omega⟩)
theorem A_X11_said (p : Program) (l : Launch) (e : Env) (s : State) (m : MethodId) (args : Array Value) (below : List Frame) (meth : Method) (c : Code) (D : va_G) (cA : Nat → ClassId) (ad : Nat → Nat) (σ0 : Nat → Nat → Int32) (τ0 : Nat → Nat → Int64) (a1 : Int32) (C : Cy p s m args meth c cX11_said 5 wsX11_said RX11 D cA ad (some .int))  : ∀ n : Nat, J_X11_said_52 p l e s m args below meth c D cA ad σ0 τ0 a1 n := by
  intro n
  induction n with
  | zero =>
    exact (by intro σ τ H locs x2 x3 x4 ls hR hF hFL hP hS hc0 hc1 hl hm; exfalso; omega)
  | succ n ih =>
    exact B_X11_said_52 p l e s m args below meth c D cA ad σ0 τ0 a1 n C  ih
set_option maxHeartbeats 4000000 in
theorem c_X11_said (l : Launch) (D : va_G) (cA : Nat → ClassId) (ad : Nat → Nat) (hI : Inj ad) (σ0 : Nat → Nat → Int32) (τ0 : Nat → Nat → Int64) (hR : Rg σ0) (a1 : Int32)  : Met l yX11_said wsX11_said ({ frames := 7, cells := 0, slots := 0, locals := 169 } : Room) (WQc D cA ad [.ref (ad 0), .int a1] σ0 τ0) (va_Qi (fun (r : Int32) (u : SS) => P_X11_said σ0 τ0 a1 r u.1 u.2) (WB D cA ad) (AA ad)) 0 0 (AA ad) := by
  refine Met.ofW (cc := cX11_said) (maxL := 5) (ret := (some .int)) (by decide) rfl ?_
  intro p e s m args below meth c s₁ B hml hv
  obtain ⟨rfl, hP, hK, hN⟩ := hv
  have C : Cy p s m _ meth c cX11_said 5 wsX11_said RX11 D cA ad (some .int) := ⟨B.exec, B.bytes, hml, findClass_of_methodNamed B.named, atoms_spec (ws := wsX11_said) B.pre, hK, B.notSynchronized, B.returns, hI, hN⟩
  have hl := lv_entry ([.ref (ad 0), .int a1]) (n := 5) (Nat.le_of_ble_eq_true rfl)
  rw [lg_entry_eq]
  generalize (lg_sl ([.ref (ad 0), .int a1]) ++ List.replicate (5 - (lg_sl ([.ref (ad 0), .int a1])).length) Slot.unset).toArray = ls at hl ⊢
  have hl : lv_has ls 5 [(0, .ref (ad 0)), (1, .int a1)] := hl
  have hS : va_S (AA ad) s.heap s.heap [] := va_S.rf
  have hF : Fr L_X11_said σ0 σ0 := Fr.rf
  have hFL : FrL LL_X11_said τ0 τ0 := FrL.rf
  have hA := A_X11_said p l e s m _ below meth c D cA ad σ0 τ0 a1 C  42
  have K52 := hA
  clear hA
  obtain ⟨hx, hb, _, hown, hts, _, hk, hr, _, _⟩ := C
  refine lv_aload_n hx hb dX11_said_0 rfl (lv_at hl 0 rfl) ?_
  refine fg_11_10 (k := 0) hx hb hts in_X11_said_11 hown hK hP (by decide) (by decide) (hts _ lk_X11_said_76) dX11_said_1 ?_
  refine fgN_6_0 (k := 23) hx hb hts in_X11_said_6 hown hK hP (by decide) (by decide) (hN.use nw_11_400) dX11_said_4 ?_
  have hr1 := rg_6_0 hR (k := 23) (by decide) (by decide)
  refine r_if_eq (tgt := 15) hx hb dX11_said_7 (by decide) (fun c2 => ?_) (fun c2 => ?_)
  · refine r_iconst hx hb dX11_said_15 (by decide) (fun z3 ez3 => ?_)
    exact r_iret hx hb hr hK hP hS hk dX11_said_16 (show P_X11_said σ0 τ0 a1 z3 σ0 τ0 from ⟨hR, hF, hFL, by omega⟩)
  · refine lv_iload_n hx hb dX11_said_10 rfl (lv_at hl 1 rfl) ?_
    refine r_iconst hx hb dX11_said_11 (by decide) (fun z4 ez4 => ?_)
    refine r_icmp_ge (tgt := 17) hx hb dX11_said_12 (by decide) (fun c5 => ?_) (fun c5 => ?_)
    · refine lv_aload_n hx hb dX11_said_17 rfl (lv_at hl 0 rfl) ?_
      refine fg_11_10 (k := 0) hx hb hts in_X11_said_11 hown hK hP (by decide) (by decide) (hts _ lk_X11_said_76) dX11_said_18 ?_
      refine lv_aload_n hx hb dX11_said_21 rfl (lv_at hl 0 rfl) ?_
      refine fg_11_1 (k := 0) hx hb hts in_X11_said_11 hown hK hP (by decide) (by decide) (hts _ lk_X11_said_19) dX11_said_22 ?_
      refine lv_aload_n hx hb dX11_said_25 rfl (lv_at hl 0 rfl) ?_
      refine fg_11_4 (k := 0) hx hb hts in_X11_said_11 hown hK hP (by decide) (by decide) (hts _ lk_X11_said_38) dX11_said_26 ?_
      refine lv_aload_n hx hb dX11_said_29 rfl (lv_at hl 0 rfl) ?_
      refine fg_11_9 (k := 0) hx hb hts in_X11_said_11 hown hK hP (by decide) (by decide) (hts _ lk_X11_said_69) dX11_said_30 ?_
      refine r_cVi (k := 23) (As := [.ref (ad 2), .ref (ad 7), .ref (ad 22)]) (rest := []) ⟨hx, hb, hml, hown, hts⟩ hK hP hN hS (c_X6_menOfWhom l D cA ad hI σ0 τ0 hR) (cwV 3 hts gX11_said_X6_menOfWhom rfl rfl rfl (by decide +kernel) ⟨by decide, by decide⟩) (rv_Sent hK hP (by decide) (by decide)) rfl hl.1 rfl (Nat.le_of_ble_eq_true rfl) dX11_said_33 (Nat.zero_le _) (Nat.zero_le _) (fun r6 u6 H6 locs6 hp6 hP hS => ?_)
      obtain ⟨σ6, τ6⟩ := u6
      obtain ⟨hR, f6, fL6⟩ : P_X6_menOfWhom σ0 τ0 r6 σ6 τ6 := hp6
      have hP : va_P D vwCl (gw cA ad σ6 τ6) H6 := hP
      obtain rfl := FrL.nil fL6
      have hF := hF.step f6 (by decide)
      refine lv_istore_n (lv' := [(2, .int r6), (0, .ref (ad 0)), (1, .int a1)]) hx hb dX11_said_36 rfl hl (by decide) rfl (fun ls hl => ?_)
      refine lv_iload_n hx hb dX11_said_37 rfl (lv_at hl 2 rfl) ?_
      refine r_iconst hx hb dX11_said_38 (by decide) (fun z7 ez7 => ?_)
      refine r_icmp_ne (tgt := 47) hx hb dX11_said_39 (by decide) (fun c8 => ?_) (fun c8 => ?_)
      · refine r_iconst hx hb dX11_said_47 (by decide) (fun z9 ez9 => ?_)
        refine lv_istore_n (lv' := [(3, .int z9), (2, .int r6), (0, .ref (ad 0)), (1, .int a1)]) hx hb dX11_said_48 rfl hl (by decide) rfl (fun ls hl => ?_)
        refine r_iconst hx hb dX11_said_49 (by decide) (fun z10 ez10 => ?_)
        refine lv_istore (lv' := [(4, .int z10), (3, .int z9), (2, .int r6), (0, .ref (ad 0)), (1, .int a1)]) hx hb dX11_said_50 hl (by decide) rfl (fun ls hl => ?_)
        exact K52 σ6 τ0 H6 locs6 r6 z9 z10 ls hR hF hFL hP hS (by omega) (by omega) (lv_sub hl [3, 4, 2, 1, 0] rfl) (by omega)
      · refine lv_iload_n hx hb dX11_said_42 rfl (lv_at hl 0 rfl) ?_
        refine r_cSi (As := [.int r6]) (rest := []) ⟨hx, hb, hml, hown, hts⟩ hK hP hN hS (c_J6_bitCount_0f7a4 l D cA ad hI σ6 τ0 hR r6) (va_cwS 1 hts gX11_said_J6_bitCount_0f7a4 rfl rfl rfl (by decide +kernel) ⟨by decide, by decide⟩) rfl hl.1 rfl (Nat.le_of_ble_eq_true rfl) dX11_said_43 (Nat.zero_le _) (Nat.zero_le _) (fun r11 u11 H11 locs11 hp11 hP hS => ?_)
        obtain ⟨σ11, τ11⟩ := u11
        obtain ⟨hR, f11, fL11, hq11⟩ : P_J6_bitCount_0f7a4 σ6 τ0 r6 r11 σ11 τ11 := hp11
        have hP : va_P D vwCl (gw cA ad σ11 τ11) H11 := hP
        obtain rfl := FrL.nil fL11
        obtain rfl := Fr.nil f11
        exact r_iret hx hb hr hK hP hS hk dX11_said_46 (show P_X11_said σ0 τ0 a1 r11 σ6 τ0 from ⟨hR, hF, hFL, by omega⟩)
    · refine r_iconst hx hb dX11_said_15 (by decide) (fun z12 ez12 => ?_)
      exact r_iret hx hb hr hK hP hS hk dX11_said_16 (show P_X11_said σ0 τ0 a1 z12 σ0 τ0 from ⟨hR, hF, hFL, by omega⟩)
theorem in_X11_image_11 : ∀ w ∈ u_ws RX11 TX11 19, w ∈ wsX11_image := by decide +kernel
theorem lk_X11_image_103 : Cond.fieldLink RX11 103 "CuckooShares" "images" "[LCuckooShares$Image;" ∈ wsX11_image := by decide +kernel
theorem lk_X11_image_19 : Cond.fieldLink RX11 19 "CuckooShares" "valley" "LCuckooShares$Valley;" ∈ wsX11_image := by decide +kernel
theorem lk_X11_image_38 : Cond.fieldLink RX11 38 "CuckooShares" "days" "LCuckooShares$Days;" ∈ wsX11_image := by decide +kernel
theorem lk_X11_image_76 : Cond.fieldLink RX11 76 "CuckooShares" "sentence" "LCuckooShares$Sentence;" ∈ wsX11_image := by decide +kernel
abbrev L_X11_image : List Rc := [(2, 5, 0, 6), (64, 67, 0, 8), (68, 99, 0, 3), (100, 131, 0, 6), (132, 147, 0, 3), (148, 307, 0, 3), (7, 19, 0, 2), (308, 320, 0, 8), (321, 333, 0, 8), (334, 346, 0, 8), (347, 359, 0, 8), (23, 26, 0, 2), (371, 374, 0, 40), (375, 378, 0, 40), (379, 382, 0, 40), (29, 30, 3, 3)]
abbrev LL_X11_image : List Rc := [(40, 43, 0, 8), (44, 47, 0, 8)]
def P_X11_image (σ0 : Nat → Nat → Int32) (τ0 : Nat → Nat → Int64) (a1 : Int32) (r : Int32) (σ : Nat → Nat → Int32) (τ : Nat → Nat → Int64) : Prop := Rg σ ∧ Fr L_X11_image σ0 σ ∧ FrL LL_X11_image τ0 τ ∧ (0 ≤ r.toInt ∧ r.toInt ≤ 1) ∧ (IMc σ0 σ a1) ∧ (INc τ0 τ a1)
set_option maxHeartbeats 4000000 in
theorem c_X11_image (l : Launch) (D : va_G) (cA : Nat → ClassId) (ad : Nat → Nat) (hI : Inj ad) (σ0 : Nat → Nat → Int32) (τ0 : Nat → Nat → Int64) (hR : Rg σ0) (a1 : Int32)  : Met l yX11_image wsX11_image ({ frames := 4, cells := 0, slots := 0, locals := 127 } : Room) (WQc D cA ad [.ref (ad 0), .int a1] σ0 τ0) (va_Qi (fun (r : Int32) (u : SS) => P_X11_image σ0 τ0 a1 r u.1 u.2) (WB D cA ad) (AA ad)) 0 0 (AA ad) := by
  refine Met.ofW (cc := cX11_image) (maxL := 2) (ret := (some .boolean)) (by decide) rfl ?_
  intro p e s m args below meth c s₁ B hml hv
  obtain ⟨rfl, hP, hK, hN⟩ := hv
  have C : Cy p s m _ meth c cX11_image 2 wsX11_image RX11 D cA ad (some .boolean) := ⟨B.exec, B.bytes, hml, findClass_of_methodNamed B.named, atoms_spec (ws := wsX11_image) B.pre, hK, B.notSynchronized, B.returns, hI, hN⟩
  have hl := lv_entry ([.ref (ad 0), .int a1]) (n := 2) (Nat.le_of_ble_eq_true rfl)
  rw [lg_entry_eq]
  generalize (lg_sl ([.ref (ad 0), .int a1]) ++ List.replicate (2 - (lg_sl ([.ref (ad 0), .int a1])).length) Slot.unset).toArray = ls at hl ⊢
  have hl : lv_has ls 2 [(0, .ref (ad 0)), (1, .int a1)] := hl
  have hS : va_S (AA ad) s.heap s.heap [] := va_S.rf
  have hF : Fr L_X11_image σ0 σ0 := Fr.rf
  have hFL : FrL LL_X11_image τ0 τ0 := FrL.rf
  obtain ⟨hx, hb, _, hown, hts, _, hk, hr, _, _⟩ := C
  refine lv_iload_n hx hb dX11_image_0 rfl (lv_at hl 1 rfl) ?_
  refine r_if_lt (tgt := 9) hx hb dX11_image_1 (by decide) (fun c1 => ?_) (fun c1 => ?_)
  · refine r_iconst hx hb dX11_image_9 (by decide) (fun z2 ez2 => ?_)
    exact r_zret hx hb hr hK hP hS hk (by omega) dX11_image_10 (show P_X11_image σ0 τ0 a1 z2 σ0 τ0 from ⟨hR, hF, hFL, by omega, by first | exact Or.inl ⟨by omega, rfl⟩ | exact IMc.of (j := 0) (by omega) (by omega) kp2 kp1 ko1, by first | exact Or.inl ⟨by omega, rfl⟩ | exact INc.of (j := 0) (by omega) (by omega) kpn⟩)
  · refine lv_iload_n hx hb dX11_image_4 rfl (lv_at hl 1 rfl) ?_
    refine r_iconst hx hb dX11_image_5 (by decide) (fun z3 ez3 => ?_)
    refine r_icmp_lt (tgt := 11) hx hb dX11_image_6 (by decide) (fun c4 => ?_) (fun c4 => ?_)
    · refine lv_aload_n hx hb dX11_image_11 rfl (lv_at hl 0 rfl) ?_
      refine fg_11_14 (k := 0) hx hb hts in_X11_image_11 hown hK hP (by decide) (by decide) (hts _ lk_X11_image_103) dX11_image_12 ?_
      refine lv_iload_n hx hb dX11_image_15 rfl (lv_at hl 1 rfl) ?_
      obtain ⟨j5, ej5⟩ : ∃ j : Nat, a1.toInt = (j : Int) := ⟨_, ti_nat (by omega)⟩
      refine ad_Images (k := 31) (j := j5) hx hb hK hP (by decide) (by decide) ej5 (by omega) dX11_image_16 ?_
      refine lv_aload_n hx hb dX11_image_17 rfl (lv_at hl 0 rfl) ?_
      refine fg_11_1 (k := 0) hx hb hts in_X11_image_11 hown hK hP (by decide) (by decide) (hts _ lk_X11_image_19) dX11_image_18 ?_
      refine lv_aload_n hx hb dX11_image_21 rfl (lv_at hl 0 rfl) ?_
      refine fg_11_4 (k := 0) hx hb hts in_X11_image_11 hown hK hP (by decide) (by decide) (hts _ lk_X11_image_38) dX11_image_22 ?_
      refine lv_aload_n hx hb dX11_image_25 rfl (lv_at hl 0 rfl) ?_
      refine fg_11_10 (k := 0) hx hb hts in_X11_image_11 hown hK hP (by decide) (by decide) (hts _ lk_X11_image_76) dX11_image_26 ?_
      refine r_cVv (k := 29 + j5) (As := [.ref (ad 2), .ref (ad 7), .ref (ad 23)]) (rest := []) ⟨hx, hb, hml, hown, hts⟩ hK hP hN hS (c_X4_keep l D cA ad hI σ0 τ0 hR (29 + j5) ⟨by omega, by omega⟩) (cwV 3 hts gX11_image_X4_keep rfl rfl rfl (by decide +kernel) ⟨by decide, by decide⟩) (rv_Image hK hP (by omega) (by omega)) rfl hl.1 rfl (Nat.le_of_ble_eq_true rfl) dX11_image_29 (Nat.zero_le _) (Nat.zero_le _) (fun u6 H6 locs6 hp6 hP hS => ?_)
      obtain ⟨σ6, τ6⟩ := u6
      obtain ⟨hR, f6, fL6, hp6_0, hp6_1, hp6_2, hp6_3⟩ : P_X4_keep σ0 τ0 (29 + j5) σ6 τ6 := hp6
      have kp1 := hp6_0
      have ko1 := hp6_1
      have kp2 := hp6_2
      have kpn := hp6_3
      have hP : va_P D vwCl (gw cA ad σ6 τ6) H6 := hP
      have hFL := hFL.step fL6 (by decide)
      have hF := hF.step f6 (by decide)
      refine r_iconst hx hb dX11_image_32 (by decide) (fun z7 ez7 => ?_)
      exact r_zret hx hb hr hK hP hS hk (by omega) dX11_image_33 (show P_X11_image σ0 τ0 a1 z7 σ6 τ6 from ⟨hR, hF, hFL, by omega, by first | exact Or.inl ⟨by omega, rfl⟩ | exact IMc.of (j := j5) (by omega) (by omega) kp2 kp1 ko1, by first | exact Or.inl ⟨by omega, rfl⟩ | exact INc.of (j := j5) (by omega) (by omega) kpn⟩)
    · refine r_iconst hx hb dX11_image_9 (by decide) (fun z8 ez8 => ?_)
      exact r_zret hx hb hr hK hP hS hk (by omega) dX11_image_10 (show P_X11_image σ0 τ0 a1 z8 σ0 τ0 from ⟨hR, hF, hFL, by omega, by first | exact Or.inl ⟨by omega, rfl⟩ | exact IMc.of (j := 0) (by omega) (by omega) kp2 kp1 ko1, by first | exact Or.inl ⟨by omega, rfl⟩ | exact INc.of (j := 0) (by omega) (by omega) kpn⟩)
theorem in_X11_restore_11 : ∀ w ∈ u_ws RX11 TX11 19, w ∈ wsX11_restore := by decide +kernel
theorem in_X11_restore_4 : ∀ w ∈ u_ws RX4 TX4 4, w ∈ wsX11_restore := by decide +kernel
theorem lk_X11_restore_103 : Cond.fieldLink RX11 103 "CuckooShares" "images" "[LCuckooShares$Image;" ∈ wsX11_restore := by decide +kernel
theorem lk_X11_restore_19 : Cond.fieldLink RX11 19 "CuckooShares" "valley" "LCuckooShares$Valley;" ∈ wsX11_restore := by decide +kernel
theorem lk_X11_restore_38 : Cond.fieldLink RX11 38 "CuckooShares" "days" "LCuckooShares$Days;" ∈ wsX11_restore := by decide +kernel
theorem lk_X11_restore_51 : Cond.fieldLink RX11 51 "CuckooShares" "history" "LCuckooShares$History;" ∈ wsX11_restore := by decide +kernel
theorem lk_X11_restore_76 : Cond.fieldLink RX11 76 "CuckooShares" "sentence" "LCuckooShares$Sentence;" ∈ wsX11_restore := by decide +kernel
abbrev L_X11_restore : List Rc := [(2, 5, 0, 6), (64, 67, 0, 8), (68, 99, 0, 3), (100, 131, 0, 6), (132, 147, 0, 3), (148, 307, 0, 3), (7, 19, 0, 2), (308, 320, 0, 8), (321, 333, 0, 8), (334, 346, 0, 8), (347, 359, 0, 8), (23, 26, 0, 2), (371, 374, 0, 40), (375, 378, 0, 40), (379, 382, 0, 40), (20, 20, 2, 2)]
abbrev LL_X11_restore : List Rc := [(40, 43, 0, 8), (44, 47, 0, 8)]
def P_X11_restore (σ0 : Nat → Nat → Int32) (τ0 : Nat → Nat → Int64) (a1 : Int32) (r : Int32) (σ : Nat → Nat → Int32) (τ : Nat → Nat → Int64) : Prop := Rg σ ∧ Fr L_X11_restore σ0 σ ∧ FrL LL_X11_restore τ0 τ ∧ (0 ≤ r.toInt ∧ r.toInt ≤ 1) ∧ (RSc σ0 σ a1) ∧ (RNc σ0 τ0 τ a1)
set_option maxHeartbeats 4000000 in
theorem c_X11_restore (l : Launch) (D : va_G) (cA : Nat → ClassId) (ad : Nat → Nat) (hI : Inj ad) (σ0 : Nat → Nat → Int32) (τ0 : Nat → Nat → Int64) (hR : Rg σ0) (a1 : Int32)  : Met l yX11_restore wsX11_restore ({ frames := 4, cells := 0, slots := 0, locals := 127 } : Room) (WQc D cA ad [.ref (ad 0), .int a1] σ0 τ0) (va_Qi (fun (r : Int32) (u : SS) => P_X11_restore σ0 τ0 a1 r u.1 u.2) (WB D cA ad) (AA ad)) 0 0 (AA ad) := by
  refine Met.ofW (cc := cX11_restore) (maxL := 2) (ret := (some .boolean)) (by decide) rfl ?_
  intro p e s m args below meth c s₁ B hml hv
  obtain ⟨rfl, hP, hK, hN⟩ := hv
  have C : Cy p s m _ meth c cX11_restore 2 wsX11_restore RX11 D cA ad (some .boolean) := ⟨B.exec, B.bytes, hml, findClass_of_methodNamed B.named, atoms_spec (ws := wsX11_restore) B.pre, hK, B.notSynchronized, B.returns, hI, hN⟩
  have hl := lv_entry ([.ref (ad 0), .int a1]) (n := 2) (Nat.le_of_ble_eq_true rfl)
  rw [lg_entry_eq]
  generalize (lg_sl ([.ref (ad 0), .int a1]) ++ List.replicate (2 - (lg_sl ([.ref (ad 0), .int a1])).length) Slot.unset).toArray = ls at hl ⊢
  have hl : lv_has ls 2 [(0, .ref (ad 0)), (1, .int a1)] := hl
  have hS : va_S (AA ad) s.heap s.heap [] := va_S.rf
  have hF : Fr L_X11_restore σ0 σ0 := Fr.rf
  have hFL : FrL LL_X11_restore τ0 τ0 := FrL.rf
  obtain ⟨hx, hb, _, hown, hts, _, hk, hr, _, _⟩ := C
  refine lv_iload_n hx hb dX11_restore_0 rfl (lv_at hl 1 rfl) ?_
  refine r_if_lt (tgt := 21) hx hb dX11_restore_1 (by decide) (fun c1 => ?_) (fun c1 => ?_)
  · refine r_iconst hx hb dX11_restore_21 (by decide) (fun z2 ez2 => ?_)
    exact r_zret hx hb hr hK hP hS hk (by omega) dX11_restore_22 (show P_X11_restore σ0 τ0 a1 z2 σ0 τ0 from ⟨hR, hF, hFL, by omega, by first | exact Or.inl ⟨by omega, rfl⟩ | exact RSc.no (j := 0) (by omega) (by omega) (by omega) | exact RSc.of (j := 0) (by omega) (by omega) (by omega) gb1 fhc (by decide), by first | exact Or.inl ⟨by omega, rfl⟩ | exact RNc.no (j := 0) (by omega) (by omega) (by omega) | exact RNc.of (j := 0) (by omega) (by omega) (by omega) gbn⟩)
  · refine lv_iload_n hx hb dX11_restore_4 rfl (lv_at hl 1 rfl) ?_
    refine r_iconst hx hb dX11_restore_5 (by decide) (fun z3 ez3 => ?_)
    refine r_icmp_ge (tgt := 21) hx hb dX11_restore_6 (by decide) (fun c4 => ?_) (fun c4 => ?_)
    · refine r_iconst hx hb dX11_restore_21 (by decide) (fun z5 ez5 => ?_)
      exact r_zret hx hb hr hK hP hS hk (by omega) dX11_restore_22 (show P_X11_restore σ0 τ0 a1 z5 σ0 τ0 from ⟨hR, hF, hFL, by omega, by first | exact Or.inl ⟨by omega, rfl⟩ | exact RSc.no (j := 0) (by omega) (by omega) (by omega) | exact RSc.of (j := 0) (by omega) (by omega) (by omega) gb1 fhc (by decide), by first | exact Or.inl ⟨by omega, rfl⟩ | exact RNc.no (j := 0) (by omega) (by omega) (by omega) | exact RNc.of (j := 0) (by omega) (by omega) (by omega) gbn⟩)
    · refine lv_aload_n hx hb dX11_restore_9 rfl (lv_at hl 0 rfl) ?_
      refine fg_11_14 (k := 0) hx hb hts in_X11_restore_11 hown hK hP (by decide) (by decide) (hts _ lk_X11_restore_103) dX11_restore_10 ?_
      refine lv_iload_n hx hb dX11_restore_13 rfl (lv_at hl 1 rfl) ?_
      obtain ⟨j6, ej6⟩ : ∃ j : Nat, a1.toInt = (j : Int) := ⟨_, ti_nat (by omega)⟩
      refine ad_Images (k := 31) (j := j6) hx hb hK hP (by decide) (by decide) ej6 (by omega) dX11_restore_14 ?_
      refine fgN_4_3 (k := 29 + j6) hx hb hts in_X11_restore_4 hown hK hP (by omega) (by omega) (hN.use nw_11_411) dX11_restore_15 ?_
      have hr7 := rg_4_3 hR (k := 29 + j6) (by omega) (by omega)
      refine r_if_ne (tgt := 23) hx hb dX11_restore_18 (by decide) (fun c8 => ?_) (fun c8 => ?_)
      · refine lv_aload_n hx hb dX11_restore_23 rfl (lv_at hl 0 rfl) ?_
        refine fg_11_14 (k := 0) hx hb hts in_X11_restore_11 hown hK hP (by decide) (by decide) (hts _ lk_X11_restore_103) dX11_restore_24 ?_
        refine lv_iload_n hx hb dX11_restore_27 rfl (lv_at hl 1 rfl) ?_
        refine ad_Images (k := 31) (j := j6) hx hb hK hP (by decide) (by decide) ej6 (by omega) dX11_restore_28 ?_
        refine lv_aload_n hx hb dX11_restore_29 rfl (lv_at hl 0 rfl) ?_
        refine fg_11_1 (k := 0) hx hb hts in_X11_restore_11 hown hK hP (by decide) (by decide) (hts _ lk_X11_restore_19) dX11_restore_30 ?_
        refine lv_aload_n hx hb dX11_restore_33 rfl (lv_at hl 0 rfl) ?_
        refine fg_11_4 (k := 0) hx hb hts in_X11_restore_11 hown hK hP (by decide) (by decide) (hts _ lk_X11_restore_38) dX11_restore_34 ?_
        refine lv_aload_n hx hb dX11_restore_37 rfl (lv_at hl 0 rfl) ?_
        refine fg_11_10 (k := 0) hx hb hts in_X11_restore_11 hown hK hP (by decide) (by decide) (hts _ lk_X11_restore_76) dX11_restore_38 ?_
        refine r_cVv (k := 29 + j6) (As := [.ref (ad 2), .ref (ad 7), .ref (ad 23)]) (rest := []) ⟨hx, hb, hml, hown, hts⟩ hK hP hN hS (c_X4_giveBack l D cA ad hI σ0 τ0 hR (29 + j6) ⟨by omega, by omega⟩) (cwV 3 hts gX11_restore_X4_giveBack rfl rfl rfl (by decide +kernel) ⟨by decide, by decide⟩) (rv_Image hK hP (by omega) (by omega)) rfl hl.1 rfl (Nat.le_of_ble_eq_true rfl) dX11_restore_41 (Nat.zero_le _) (Nat.zero_le _) (fun u9 H9 locs9 hp9 hP hS => ?_)
        obtain ⟨σ9, τ9⟩ := u9
        obtain ⟨hR, f9, fL9, hp9_0, hp9_1⟩ : P_X4_giveBack σ0 τ0 (29 + j6) σ9 τ9 := hp9
        have gb1 := hp9_0
        have gbn := hp9_1
        have hP : va_P D vwCl (gw cA ad σ9 τ9) H9 := hP
        have hFL := hFL.step fL9 (by decide)
        have hF := hF.step f9 (by decide)
        refine lv_aload_n hx hb dX11_restore_44 rfl (lv_at hl 0 rfl) ?_
        refine fg_11_7 (k := 0) hx hb hts in_X11_restore_11 hown hK hP (by decide) (by decide) (hts _ lk_X11_restore_51) dX11_restore_45 ?_
        refine r_cVv (k := 20) (As := []) (rest := []) ⟨hx, hb, hml, hown, hts⟩ hK hP hN hS (c_X3_clear l D cA ad hI σ9 τ9 hR) (cwV 0 hts gX11_restore_X3_clear rfl rfl rfl (by decide +kernel) ⟨by decide, by decide⟩) (rv_Hist hK hP (by decide) (by decide)) rfl hl.1 rfl (Nat.le_of_ble_eq_true rfl) dX11_restore_48 (Nat.zero_le _) (Nat.zero_le _) (fun u10 H10 locs10 hp10 hP hS => ?_)
        obtain ⟨σ10, τ10⟩ := u10
        obtain ⟨hR, f10, fL10⟩ : P_X3_clear σ9 τ9 σ10 τ10 := hp10
        have fhc := f10
        have hP : va_P D vwCl (gw cA ad σ10 τ10) H10 := hP
        obtain rfl := FrL.nil fL10
        have hF := hF.step f10 (by decide)
        refine r_iconst hx hb dX11_restore_51 (by decide) (fun z11 ez11 => ?_)
        exact r_zret hx hb hr hK hP hS hk (by omega) dX11_restore_52 (show P_X11_restore σ0 τ0 a1 z11 σ10 τ9 from ⟨hR, hF, hFL, by omega, by first | exact Or.inl ⟨by omega, rfl⟩ | exact RSc.no (j := j6) (by omega) (by omega) (by omega) | exact RSc.of (j := j6) (by omega) (by omega) (by omega) gb1 fhc (by decide), by first | exact Or.inl ⟨by omega, rfl⟩ | exact RNc.no (j := j6) (by omega) (by omega) (by omega) | exact RNc.of (j := j6) (by omega) (by omega) (by omega) gbn⟩)
      · refine r_iconst hx hb dX11_restore_21 (by decide) (fun z12 ez12 => ?_)
        exact r_zret hx hb hr hK hP hS hk (by omega) dX11_restore_22 (show P_X11_restore σ0 τ0 a1 z12 σ0 τ0 from ⟨hR, hF, hFL, by omega, by first | exact Or.inl ⟨by omega, rfl⟩ | exact RSc.no (j := j6) (by omega) (by omega) (by omega) | exact RSc.of (j := j6) (by omega) (by omega) (by omega) gb1 fhc (by decide), by first | exact Or.inl ⟨by omega, rfl⟩ | exact RNc.no (j := j6) (by omega) (by omega) (by omega) | exact RNc.of (j := j6) (by omega) (by omega) (by omega) gbn⟩)
