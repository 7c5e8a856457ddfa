theorem in_X11_feed_11 : ∀ w ∈ u_ws RX11 TX11 19, w ∈ wsX11_feed := by decide +kernel
theorem in_X11_feed_8 : ∀ w ∈ u_ws RX8 TX8 15, w ∈ wsX11_feed := by decide +kernel
theorem lk_X11_feed_10 : Cond.fieldLink RX11 10 "CuckooShares" "tape" "LCuckooShares$Tape;" ∈ wsX11_feed := by decide +kernel
abbrev L_X11_feed : List Rc := [(35, 35, 0, 939), (1, 1, 5, 5)]
abbrev LL_X11_feed : List Rc := []
def P_X11_feed (σ0 : Nat → Nat → Int32) (τ0 : Nat → Nat → Int64) (a1 : Int32) (a2 : Int32) (a3 : Int32) (a4 : Int32) (a5 : Int32) (r : Int32) (σ : Nat → Nat → Int32) (τ : Nat → Nat → Int64) : Prop := Rg σ ∧ Fr L_X11_feed σ0 σ ∧ FrL LL_X11_feed τ0 τ ∧ (-1 ≤ r.toInt ∧ r.toInt ≤ 940) ∧ ((r.toInt = -1 ∧ (σ 1 5).toInt = (σ0 1 5).toInt ∧ 920 < (σ0 1 5).toInt) ∨ (r.toInt = (σ 1 5).toInt ∧ (σ 1 5).toInt = (σ0 1 5).toInt + 20 ∧ (σ0 1 5).toInt ≤ 920)) ∧ ((r.toInt = -1 ∧ ∀ j : Nat, σ 35 j = σ0 35 j) ∨ (r.toInt ≠ -1 ∧ B20 σ0 σ 35 (σ0 1 5).toInt.toNat a1 a2 a3 a4 a5))
set_option maxHeartbeats 4000000 in
theorem c_X11_feed (l : Launch) (D : va_G) (cA : Nat → ClassId) (ad : Nat → Nat) (hI : Inj ad) (σ0 : Nat → Nat → Int32) (τ0 : Nat → Nat → Int64) (hR : Rg σ0) (a1 : Int32) (a2 : Int32) (a3 : Int32) (a4 : Int32) (a5 : Int32)  : Met l yX11_feed wsX11_feed ({ frames := 1, cells := 0, slots := 0, locals := 22 } : Room) (WQc D cA ad [.ref (ad 0), .int a1, .int a2, .int a3, .int a4, .int a5] σ0 τ0) (va_Qi (fun (r : Int32) (u : SS) => P_X11_feed σ0 τ0 a1 a2 a3 a4 a5 r u.1 u.2) (WB D cA ad) (AA ad)) 0 0 (AA ad) := by
  refine Met.ofW (cc := cX11_feed) (maxL := 6) (ret := (some .int)) (by decide) rfl ?_
  intro p e s m args below meth c s₁ B hml hv
  obtain ⟨rfl, hP, hK, hN⟩ := hv
  have C : Cy p s m _ meth c cX11_feed 6 wsX11_feed RX11 D cA ad (some .int) := ⟨B.exec, B.bytes, hml, findClass_of_methodNamed B.named, atoms_spec (ws := wsX11_feed) B.pre, hK, B.notSynchronized, B.returns, hI, hN⟩
  have hl := lv_entry ([.ref (ad 0), .int a1, .int a2, .int a3, .int a4, .int a5]) (n := 6) (Nat.le_of_ble_eq_true rfl)
  rw [lg_entry_eq]
  generalize (lg_sl ([.ref (ad 0), .int a1, .int a2, .int a3, .int a4, .int a5]) ++ List.replicate (6 - (lg_sl ([.ref (ad 0), .int a1, .int a2, .int a3, .int a4, .int a5])).length) Slot.unset).toArray = ls at hl ⊢
  have hl : lv_has ls 6 [(0, .ref (ad 0)), (1, .int a1), (2, .int a2), (3, .int a3), (4, .int a4), (5, .int a5)] := hl
  have hS : va_S (AA ad) s.heap s.heap [] := va_S.rf
  have hF : Fr L_X11_feed σ0 σ0 := Fr.rf
  have hFL : FrL LL_X11_feed τ0 τ0 := FrL.rf
  obtain ⟨hx, hb, _, hown, hts, _, hk, hr, _, _⟩ := C
  refine lv_aload_n hx hb dX11_feed_0 rfl (lv_at hl 0 rfl) ?_
  refine fg_11_0 (k := 0) hx hb hts in_X11_feed_11 hown hK hP (by decide) (by decide) (hts _ lk_X11_feed_10) dX11_feed_1 ?_
  refine fgN_8_5 (k := 1) hx hb hts in_X11_feed_8 hown hK hP (by decide) (by decide) (hN.use nw_11_115) dX11_feed_4 ?_
  have hr1 := rg_8_5 hR (k := 1) (by decide) (by decide)
  refine r_bipush hx hb dX11_feed_7 (by decide) (fun z2 ez2 => ?_)
  refine r_iadd hx hb dX11_feed_9 (by omega) (fun z3 ez3 => ?_)
  refine r_sipush hx hb dX11_feed_10 (by decide) (fun z4 ez4 => ?_)
  refine r_icmp_le (tgt := 18) hx hb dX11_feed_13 (by decide) (fun c5 => ?_) (fun c5 => ?_)
  · refine lv_aload_n hx hb dX11_feed_18 rfl (lv_at hl 0 rfl) ?_
    refine fg_11_0 (k := 0) hx hb hts in_X11_feed_11 hown hK hP (by decide) (by decide) (hts _ lk_X11_feed_10) dX11_feed_19 ?_
    refine lv_iload_n hx hb dX11_feed_22 rfl (lv_at hl 1 rfl) ?_
    refine r_cVv (k := 1) (As := [.int a1]) (rest := []) ⟨hx, hb, hml, hown, hts⟩ hK hP hN hS (c_X8_append l D cA ad hI σ0 τ0 hR a1 (by omega)) (cwV 1 hts gX11_feed_X8_append rfl rfl rfl (by decide +kernel) ⟨by decide, by decide⟩) (rv_Tape hK hP (by decide) (by decide)) rfl hl.1 rfl (Nat.le_of_ble_eq_true rfl) dX11_feed_23 (Nat.zero_le _) (Nat.zero_le _) (fun u6 H6 locs6 hp6 hP hS => ?_)
    obtain ⟨σ6, τ6⟩ := u6
    obtain ⟨hR, f6, fL6, hp6_0, hp6_1⟩ : P_X8_append σ0 τ0 a1 σ6 τ6 := hp6
    have hb0 := hp6_1
    have hP : va_P D vwCl (gw cA ad σ6 τ6) H6 := hP
    obtain rfl := FrL.nil fL6
    have hF := hF.step f6 (by decide)
    refine lv_aload_n hx hb dX11_feed_26 rfl (lv_at hl 0 rfl) ?_
    refine fg_11_0 (k := 0) hx hb hts in_X11_feed_11 hown hK hP (by decide) (by decide) (hts _ lk_X11_feed_10) dX11_feed_27 ?_
    refine lv_iload_n hx hb dX11_feed_30 rfl (lv_at hl 2 rfl) ?_
    refine r_cVv (k := 1) (As := [.int a2]) (rest := []) ⟨hx, hb, hml, hown, hts⟩ hK hP hN hS (c_X8_append l D cA ad hI σ6 τ0 hR a2 (by omega)) (cwV 1 hts gX11_feed_X8_append rfl rfl rfl (by decide +kernel) ⟨by decide, by decide⟩) (rv_Tape hK hP (by decide) (by decide)) rfl hl.1 rfl (Nat.le_of_ble_eq_true rfl) dX11_feed_31 (Nat.zero_le _) (Nat.zero_le _) (fun u7 H7 locs7 hp7 hP hS => ?_)
    obtain ⟨σ7, τ7⟩ := u7
    obtain ⟨hR, f7, fL7, hp7_0, hp7_1⟩ : P_X8_append σ6 τ0 a2 σ7 τ7 := hp7
    have hb1 := hp7_1
    have hP : va_P D vwCl (gw cA ad σ7 τ7) H7 := hP
    obtain rfl := FrL.nil fL7
    have hF := hF.step f7 (by decide)
    refine lv_aload_n hx hb dX11_feed_34 rfl (lv_at hl 0 rfl) ?_
    refine fg_11_0 (k := 0) hx hb hts in_X11_feed_11 hown hK hP (by decide) (by decide) (hts _ lk_X11_feed_10) dX11_feed_35 ?_
    refine lv_iload_n hx hb dX11_feed_38 rfl (lv_at hl 3 rfl) ?_
    refine r_cVv (k := 1) (As := [.int a3]) (rest := []) ⟨hx, hb, hml, hown, hts⟩ hK hP hN hS (c_X8_append l D cA ad hI σ7 τ0 hR a3 (by omega)) (cwV 1 hts gX11_feed_X8_append rfl rfl rfl (by decide +kernel) ⟨by decide, by decide⟩) (rv_Tape hK hP (by decide) (by decide)) rfl hl.1 rfl (Nat.le_of_ble_eq_true rfl) dX11_feed_39 (Nat.zero_le _) (Nat.zero_le _) (fun u8 H8 locs8 hp8 hP hS => ?_)
    obtain ⟨σ8, τ8⟩ := u8
    obtain ⟨hR, f8, fL8, hp8_0, hp8_1⟩ : P_X8_append σ7 τ0 a3 σ8 τ8 := hp8
    have hb2 := hp8_1
    have hP : va_P D vwCl (gw cA ad σ8 τ8) H8 := hP
    obtain rfl := FrL.nil fL8
    have hF := hF.step f8 (by decide)
    refine lv_aload_n hx hb dX11_feed_42 rfl (lv_at hl 0 rfl) ?_
    refine fg_11_0 (k := 0) hx hb hts in_X11_feed_11 hown hK hP (by decide) (by decide) (hts _ lk_X11_feed_10) dX11_feed_43 ?_
    refine lv_iload hx hb dX11_feed_46 (lv_at hl 4 rfl) ?_
    refine r_cVv (k := 1) (As := [.int a4]) (rest := []) ⟨hx, hb, hml, hown, hts⟩ hK hP hN hS (c_X8_append l D cA ad hI σ8 τ0 hR a4 (by omega)) (cwV 1 hts gX11_feed_X8_append rfl rfl rfl (by decide +kernel) ⟨by decide, by decide⟩) (rv_Tape hK hP (by decide) (by decide)) rfl hl.1 rfl (Nat.le_of_ble_eq_true rfl) dX11_feed_48 (Nat.zero_le _) (Nat.zero_le _) (fun u9 H9 locs9 hp9 hP hS => ?_)
    obtain ⟨σ9, τ9⟩ := u9
    obtain ⟨hR, f9, fL9, hp9_0, hp9_1⟩ : P_X8_append σ8 τ0 a4 σ9 τ9 := hp9
    have hb3 := hp9_1
    have hP : va_P D vwCl (gw cA ad σ9 τ9) H9 := hP
    obtain rfl := FrL.nil fL9
    have hF := hF.step f9 (by decide)
    refine lv_aload_n hx hb dX11_feed_51 rfl (lv_at hl 0 rfl) ?_
    refine fg_11_0 (k := 0) hx hb hts in_X11_feed_11 hown hK hP (by decide) (by decide) (hts _ lk_X11_feed_10) dX11_feed_52 ?_
    refine lv_iload hx hb dX11_feed_55 (lv_at hl 5 rfl) ?_
    refine r_cVv (k := 1) (As := [.int a5]) (rest := []) ⟨hx, hb, hml, hown, hts⟩ hK hP hN hS (c_X8_append l D cA ad hI σ9 τ0 hR a5 (by omega)) (cwV 1 hts gX11_feed_X8_append rfl rfl rfl (by decide +kernel) ⟨by decide, by decide⟩) (rv_Tape hK hP (by decide) (by decide)) rfl hl.1 rfl (Nat.le_of_ble_eq_true rfl) dX11_feed_57 (Nat.zero_le _) (Nat.zero_le _) (fun u10 H10 locs10 hp10 hP hS => ?_)
    obtain ⟨σ10, τ10⟩ := u10
    obtain ⟨hR, f10, fL10, hp10_0, hp10_1⟩ : P_X8_append σ9 τ0 a5 σ10 τ10 := hp10
    have hb4 := hp10_1
    have hP : va_P D vwCl (gw cA ad σ10 τ10) H10 := hP
    obtain rfl := FrL.nil fL10
    have hF := hF.step f10 (by decide)
    refine lv_aload_n hx hb dX11_feed_60 rfl (lv_at hl 0 rfl) ?_
    refine fg_11_0 (k := 0) hx hb hts in_X11_feed_11 hown hK hP (by decide) (by decide) (hts _ lk_X11_feed_10) dX11_feed_61 ?_
    refine fgN_8_5 (k := 1) hx hb hts in_X11_feed_8 hown hK hP (by decide) (by decide) (hN.use nw_11_115) dX11_feed_64 ?_
    have hr11 := rg_8_5 hR (k := 1) (by decide) (by decide)
    exact r_iret hx hb hr hK hP hS hk dX11_feed_67 (show P_X11_feed σ0 τ0 a1 a2 a3 a4 a5 (σ10 1 5) σ10 τ0 from ⟨hR, hF, hFL, by omega, by omega, by first | exact Or.inl ⟨by omega, fun _ => rfl⟩ | exact Or.inr ⟨by omega, B20.of hb0 hb1 hb2 hb3 hb4 (by omega) (by omega) (by omega) (by omega)⟩⟩)
  · refine r_iconst hx hb dX11_feed_16 (by decide) (fun z12 ez12 => ?_)
    exact r_iret hx hb hr hK hP hS hk dX11_feed_17 (show P_X11_feed σ0 τ0 a1 a2 a3 a4 a5 z12 σ0 τ0 from ⟨hR, hF, hFL, by omega, by omega, by first | exact Or.inl ⟨by omega, fun _ => rfl⟩ | exact Or.inr ⟨by omega, B20.of hb0 hb1 hb2 hb3 hb4 (by omega) (by omega) (by omega) (by omega)⟩⟩)
theorem in_X11_end_11 : ∀ w ∈ u_ws RX11 TX11 19, w ∈ wsX11_end := by decide +kernel
theorem in_X11_end_8 : ∀ w ∈ u_ws RX8 TX8 15, w ∈ wsX11_end := by decide +kernel
theorem lk_X11_end_10 : Cond.fieldLink RX11 10 "CuckooShares" "tape" "LCuckooShares$Tape;" ∈ wsX11_end := by decide +kernel
abbrev L_X11_end : List Rc := [(1, 1, 5, 5)]
abbrev LL_X11_end : List Rc := []
def P_X11_end (σ0 : Nat → Nat → Int32) (τ0 : Nat → Nat → Int64) (a1 : Int32) (r : Int32) (σ : Nat → Nat → Int32) (τ : Nat → Nat → Int64) : Prop := Rg σ ∧ Fr L_X11_end σ0 σ ∧ FrL LL_X11_end τ0 τ ∧ (0 ≤ r.toInt ∧ r.toInt ≤ 1) ∧ ((r.toInt = 0 ∧ (σ 1 5).toInt = (σ0 1 5).toInt ∧ (a1.toInt < 0 ∨ (σ0 1 5).toInt < a1.toInt)) ∨ (r.toInt = 1 ∧ (σ 1 5).toInt = a1.toInt ∧ 0 ≤ a1.toInt ∧ a1.toInt ≤ (σ0 1 5).toInt))
set_option maxHeartbeats 4000000 in
theorem c_X11_end (l : Launch) (D : va_G) (cA : Nat → ClassId) (ad : Nat → Nat) (hI : Inj ad) (σ0 : Nat → Nat → Int32) (τ0 : Nat → Nat → Int64) (hR : Rg σ0) (a1 : Int32)  : Met l yX11_end wsX11_end ({ frames := 0, cells := 0, slots := 0, locals := 0 } : Room) (WQc D cA ad [.ref (ad 0), .int a1] σ0 τ0) (va_Qi (fun (r : Int32) (u : SS) => P_X11_end σ0 τ0 a1 r u.1 u.2) (WB D cA ad) (AA ad)) 0 0 (AA ad) := by
  refine Met.ofW (cc := cX11_end) (maxL := 2) (ret := (some .boolean)) (by decide) rfl ?_
  intro p e s m args below meth c s₁ B hml hv
  obtain ⟨rfl, hP, hK, hN⟩ := hv
  have C : Cy p s m _ meth c cX11_end 2 wsX11_end RX11 D cA ad (some .boolean) := ⟨B.exec, B.bytes, hml, findClass_of_methodNamed B.named, atoms_spec (ws := wsX11_end) B.pre, hK, B.notSynchronized, B.returns, hI, hN⟩
  have hl := lv_entry ([.ref (ad 0), .int a1]) (n := 2) (Nat.le_of_ble_eq_true rfl)
  rw [lg_entry_eq]
  generalize (lg_sl ([.ref (ad 0), .int a1]) ++ List.replicate (2 - (lg_sl ([.ref (ad 0), .int a1])).length) Slot.unset).toArray = ls at hl ⊢
  have hl : lv_has ls 2 [(0, .ref (ad 0)), (1, .int a1)] := hl
  have hS : va_S (AA ad) s.heap s.heap [] := va_S.rf
  have hF : Fr L_X11_end σ0 σ0 := Fr.rf
  have hFL : FrL LL_X11_end τ0 τ0 := FrL.rf
  obtain ⟨hx, hb, _, hown, hts, _, hk, hr, _, _⟩ := C
  refine lv_iload_n hx hb dX11_end_0 rfl (lv_at hl 1 rfl) ?_
  refine r_if_lt (tgt := 15) hx hb dX11_end_1 (by decide) (fun c1 => ?_) (fun c1 => ?_)
  · refine r_iconst hx hb dX11_end_15 (by decide) (fun z2 ez2 => ?_)
    exact r_zret hx hb hr hK hP hS hk (by omega) dX11_end_16 (show P_X11_end σ0 τ0 a1 z2 σ0 τ0 from ⟨hR, hF, hFL, by omega, by omega⟩)
  · refine lv_iload_n hx hb dX11_end_4 rfl (lv_at hl 1 rfl) ?_
    refine lv_aload_n hx hb dX11_end_5 rfl (lv_at hl 0 rfl) ?_
    refine fg_11_0 (k := 0) hx hb hts in_X11_end_11 hown hK hP (by decide) (by decide) (hts _ lk_X11_end_10) dX11_end_6 ?_
    refine fgN_8_5 (k := 1) hx hb hts in_X11_end_8 hown hK hP (by decide) (by decide) (hN.use nw_11_115) dX11_end_9 ?_
    have hr3 := rg_8_5 hR (k := 1) (by decide) (by decide)
    refine r_icmp_le (tgt := 17) hx hb dX11_end_12 (by decide) (fun c4 => ?_) (fun c4 => ?_)
    · refine lv_aload_n hx hb dX11_end_17 rfl (lv_at hl 0 rfl) ?_
      refine fg_11_0 (k := 0) hx hb hts in_X11_end_11 hown hK hP (by decide) (by decide) (hts _ lk_X11_end_10) dX11_end_18 ?_
      refine lv_iload_n hx hb dX11_end_21 rfl (lv_at hl 1 rfl) ?_
      refine fpN_8_5 (k := 1) hx hb hts in_X11_end_8 hown hK hP (by decide) (by decide) (hN.use nw_11_115) hI hR hS (by omega) dX11_end_22 (fun σ5 H5 locs5 u5 v5 hR hP hS => ?_)
      have hF := hF.puts u5 0 rfl (by decide) (by decide) (by decide) (by decide)
      refine r_iconst hx hb dX11_end_25 (by decide) (fun z6 ez6 => ?_)
      exact r_zret hx hb hr hK hP hS hk (by omega) dX11_end_26 (show P_X11_end σ0 τ0 a1 z6 σ5 τ0 from ⟨hR, hF, hFL, by omega, by omega⟩)
    · refine r_iconst hx hb dX11_end_15 (by decide) (fun z7 ez7 => ?_)
      exact r_zret hx hb hr hK hP hS hk (by omega) dX11_end_16 (show P_X11_end σ0 τ0 a1 z7 σ0 τ0 from ⟨hR, hF, hFL, by omega, by omega⟩)
theorem in_X11_emptyTape_11 : ∀ w ∈ u_ws RX11 TX11 19, w ∈ wsX11_emptyTape := by decide +kernel
theorem in_X11_emptyTape_8 : ∀ w ∈ u_ws RX8 TX8 15, w ∈ wsX11_emptyTape := by decide +kernel
theorem lk_X11_emptyTape_10 : Cond.fieldLink RX11 10 "CuckooShares" "tape" "LCuckooShares$Tape;" ∈ wsX11_emptyTape := by decide +kernel
theorem lk_X11_emptyTape_149 : Cond.fieldLink RX11 149 "CuckooShares" "lastFault" "I" ∈ wsX11_emptyTape := by decide +kernel
abbrev L_X11_emptyTape : List Rc := [(1, 1, 5, 5), (0, 0, 18, 18)]
abbrev LL_X11_emptyTape : List Rc := []
def P_X11_emptyTape (σ0 : Nat → Nat → Int32) (τ0 : Nat → Nat → Int64)  (σ : Nat → Nat → Int32) (τ : Nat → Nat → Int64) : Prop := Rg σ ∧ Fr L_X11_emptyTape σ0 σ ∧ FrL LL_X11_emptyTape τ0 τ ∧ ((σ 1 5).toInt = 0) ∧ ((σ 0 18).toInt = (σ0 1 13).toInt)
set_option maxHeartbeats 4000000 in
theorem c_X11_emptyTape (l : Launch) (D : va_G) (cA : Nat → ClassId) (ad : Nat → Nat) (hI : Inj ad) (σ0 : Nat → Nat → Int32) (τ0 : Nat → Nat → Int64) (hR : Rg σ0)   : Met l yX11_emptyTape wsX11_emptyTape ({ frames := 0, cells := 0, slots := 0, locals := 0 } : Room) (WQc D cA ad [.ref (ad 0)] σ0 τ0) (va_Qv (fun u : SS => P_X11_emptyTape σ0 τ0 u.1 u.2) (WB D cA ad) (AA ad)) 0 0 (AA ad) := by
  refine Met.ofW (cc := cX11_emptyTape) (maxL := 1) (ret := none) (by decide) rfl ?_
  intro p e s m args below meth c s₁ B hml hv
  obtain ⟨rfl, hP, hK, hN⟩ := hv
  have C : Cy p s m _ meth c cX11_emptyTape 1 wsX11_emptyTape RX11 D cA ad none := ⟨B.exec, B.bytes, hml, findClass_of_methodNamed B.named, atoms_spec (ws := wsX11_emptyTape) B.pre, hK, B.notSynchronized, B.returns, hI, hN⟩
  have hl := lv_entry ([.ref (ad 0)]) (n := 1) (Nat.le_of_ble_eq_true rfl)
  rw [lg_entry_eq]
  generalize (lg_sl ([.ref (ad 0)]) ++ List.replicate (1 - (lg_sl ([.ref (ad 0)])).length) Slot.unset).toArray = ls at hl ⊢
  have hl : lv_has ls 1 [(0, .ref (ad 0))] := hl
  have hS : va_S (AA ad) s.heap s.heap [] := va_S.rf
  have hF : Fr L_X11_emptyTape σ0 σ0 := Fr.rf
  have hFL : FrL LL_X11_emptyTape τ0 τ0 := FrL.rf
  obtain ⟨hx, hb, _, hown, hts, _, hk, hr, _, _⟩ := C
  refine lv_aload_n hx hb dX11_emptyTape_0 rfl (lv_at hl 0 rfl) ?_
  refine fg_11_0 (k := 0) hx hb hts in_X11_emptyTape_11 hown hK hP (by decide) (by decide) (hts _ lk_X11_emptyTape_10) dX11_emptyTape_1 ?_
  refine r_iconst hx hb dX11_emptyTape_4 (by decide) (fun z1 ez1 => ?_)
  refine fpN_8_5 (k := 1) hx hb hts in_X11_emptyTape_8 hown hK hP (by decide) (by decide) (hN.use nw_11_115) hI hR hS (by omega) dX11_emptyTape_5 (fun σ2 H2 locs2 u2 v2 hR hP hS => ?_)
  have hF := hF.puts u2 0 rfl (by decide) (by decide) (by decide) (by decide)
  have t3 : (σ2 1 13).toInt = (σ0 1 13).toInt := congrArg Int32.toInt (u2 1 13 (by omega))
  refine lv_aload_n hx hb dX11_emptyTape_8 rfl (lv_at hl 0 rfl) ?_
  refine lv_aload_n hx hb dX11_emptyTape_9 rfl (lv_at hl 0 rfl) ?_
  refine fg_11_0 (k := 0) hx hb hts in_X11_emptyTape_11 hown hK hP (by decide) (by decide) (hts _ lk_X11_emptyTape_10) dX11_emptyTape_10 ?_
  refine fgN_8_13 (k := 1) hx hb hts in_X11_emptyTape_8 hown hK hP (by decide) (by decide) (hN.use nw_11_152) dX11_emptyTape_13 ?_
  refine fp_11_18 (k := 0) hx hb hts in_X11_emptyTape_11 hown hK hP (by decide) (by decide) (hts _ lk_X11_emptyTape_149) hI hR hS dX11_emptyTape_16 (fun σ4 H4 locs4 u4 v4 hR hP hS => ?_)
  have hF := hF.puts u4 1 rfl (by decide) (by decide) (by decide) (by decide)
  have t5 : (σ4 1 13).toInt = (σ2 1 13).toInt := congrArg Int32.toInt (u4 1 13 (by omega))
  have t6 : (σ4 1 5).toInt = (σ2 1 5).toInt := congrArg Int32.toInt (u4 1 5 (by omega))
  exact r_vret hx hb hr hK hP hS hk dX11_emptyTape_19 (show P_X11_emptyTape σ0 τ0 σ4 τ0 from ⟨hR, hF, hFL, by omega, by omega⟩)
theorem in_X11_valley_10 : ∀ w ∈ u_ws RX10 TX10 5, w ∈ wsX11_valley := by decide +kernel
theorem in_X11_valley_11 : ∀ w ∈ u_ws RX11 TX11 19, w ∈ wsX11_valley := by decide +kernel
theorem in_X11_valley_8 : ∀ w ∈ u_ws RX8 TX8 15, w ∈ wsX11_valley := by decide +kernel
theorem lk_X11_valley_10 : Cond.fieldLink RX11 10 "CuckooShares" "tape" "LCuckooShares$Tape;" ∈ wsX11_valley := by decide +kernel
theorem lk_X11_valley_19 : Cond.fieldLink RX11 19 "CuckooShares" "valley" "LCuckooShares$Valley;" ∈ wsX11_valley := by decide +kernel
theorem lk_X11_valley_23 : Cond.fieldLink RX11 23 "CuckooShares" "spareValley" "LCuckooShares$Valley;" ∈ wsX11_valley := by decide +kernel
theorem lk_X11_valley_31 : Cond.fieldLink RX11 31 "CuckooShares" "valleyText" "LCuckooShares$ValleyText;" ∈ wsX11_valley := by decide +kernel
theorem lk_X11_valley_38 : Cond.fieldLink RX11 38 "CuckooShares" "days" "LCuckooShares$Days;" ∈ wsX11_valley := by decide +kernel
theorem lk_X11_valley_51 : Cond.fieldLink RX11 51 "CuckooShares" "history" "LCuckooShares$History;" ∈ wsX11_valley := by decide +kernel
theorem lk_X11_valley_76 : Cond.fieldLink RX11 76 "CuckooShares" "sentence" "LCuckooShares$Sentence;" ∈ wsX11_valley := by decide +kernel
abbrev L_X11_valley : List Rc := [(36, 36, 0, 940), (37, 37, 0, 940), (38, 38, 0, 940), (6, 6, 2, 4), (1, 1, 5, 10), (0, 0, 18, 18), (2, 5, 0, 6), (64, 67, 0, 8), (68, 99, 0, 3), (100, 131, 0, 6), (132, 147, 0, 3), (148, 307, 0, 3), (7, 7, 0, 2), (308, 308, 0, 7), (321, 321, 0, 7), (334, 334, 0, 7), (347, 347, 0, 7), (1, 1, 12, 14), (23, 24, 0, 2), (20, 20, 2, 2)]
abbrev LL_X11_valley : List Rc := [(39, 39, 0, 940), (1, 1, 11, 11), (40, 43, 0, 8), (44, 47, 0, 8)]
def P_X11_valley (σ0 : Nat → Nat → Int32) (τ0 : Nat → Nat → Int64) (b : Nat → Int) (N : Nat) (r : Int32) (σ : Nat → Nat → Int32) (τ : Nat → Nat → Int64) : Prop := Rg σ ∧ Fr L_X11_valley σ0 σ ∧ FrL LL_X11_valley τ0 τ ∧ ((σ 1 5).toInt = 0) ∧ (r.toInt = valA b N) ∧ (VZc σ0 σ b N) ∧ (VNc τ0 τ b N) ∧ ((σ 0 18).toInt = kndP (valP b N 900 941 0 (z00 b N 900)))
set_option maxHeartbeats 4000000 in
theorem c_X11_valley (l : Launch) (D : va_G) (cA : Nat → ClassId) (ad : Nat → Nat) (hI : Inj ad) (σ0 : Nat → Nat → Int32) (τ0 : Nat → Nat → Int64) (hR : Rg σ0) (b : Nat → Int) (N : Nat) (gBY0 : BY σ0 b N) : Met l yX11_valley wsX11_valley ({ frames := 9, cells := 0, slots := 0, locals := 210 } : Room) (WQc D cA ad [.ref (ad 0)] σ0 τ0) (va_Qi (fun (r : Int32) (u : SS) => P_X11_valley σ0 τ0 b N r u.1 u.2) (WB D cA ad) (AA ad)) 0 0 (AA ad) := by
  refine Met.ofW (cc := cX11_valley) (maxL := 2) (ret := (some .int)) (by decide) rfl ?_
  intro p e s m args below meth c s₁ B hml hv
  obtain ⟨rfl, hP, hK, hN⟩ := hv
  have C : Cy p s m _ meth c cX11_valley 2 wsX11_valley RX11 D cA ad (some .int) := ⟨B.exec, B.bytes, hml, findClass_of_methodNamed B.named, atoms_spec (ws := wsX11_valley) B.pre, hK, B.notSynchronized, B.returns, hI, hN⟩
  have hl := lv_entry ([.ref (ad 0)]) (n := 2) (Nat.le_of_ble_eq_true rfl)
  rw [lg_entry_eq]
  generalize (lg_sl ([.ref (ad 0)]) ++ List.replicate (2 - (lg_sl ([.ref (ad 0)])).length) Slot.unset).toArray = ls at hl ⊢
  have hl : lv_has ls 2 [(0, .ref (ad 0))] := hl
  have hS : va_S (AA ad) s.heap s.heap [] := va_S.rf
  have hF : Fr L_X11_valley σ0 σ0 := Fr.rf
  have hFL : FrL LL_X11_valley τ0 τ0 := FrL.rf
  have gBY := gBY0
  obtain ⟨hx, hb, _, hown, hts, _, hk, hr, _, _⟩ := C
  refine lv_aload_n hx hb dX11_valley_0 rfl (lv_at hl 0 rfl) ?_
  refine fg_11_0 (k := 0) hx hb hts in_X11_valley_11 hown hK hP (by decide) (by decide) (hts _ lk_X11_valley_10) dX11_valley_1 ?_
  refine r_sipush hx hb dX11_valley_4 (by decide) (fun z1 ez1 => ?_)
  have hbl := gBY.2.1
  refine r_cVv (k := 1) (As := [.int z1]) (rest := []) ⟨hx, hb, hml, hown, hts⟩ hK hP hN hS (c_X8_scan_v l D cA ad hI σ0 τ0 hR z1 b N 900 (by omega) (by omega) gBY) (cwV 1 hts gX11_valley_X8_scan rfl rfl rfl (by decide +kernel) ⟨by decide, by decide⟩) (rv_Tape hK hP (by decide) (by decide)) rfl hl.1 rfl (Nat.le_of_ble_eq_true rfl) dX11_valley_7 (Nat.zero_le _) (Nat.zero_le _) (fun u2 H2 locs2 hp2 hP hS => ?_)
  obtain ⟨σ2, τ2⟩ := u2
  obtain ⟨hR, f2, fL2, hp2_0, hp2_1, gnBY⟩ : P_X8_scan_v σ0 τ0 z1 b N 900 σ2 τ2 := hp2
  have fsc := f2
  have fscL := fL2
  have hP : va_P D vwCl (gw cA ad σ2 τ2) H2 := hP
  have hFL := hFL.step fL2 (by decide)
  have hF := hF.step f2 (by decide)
  have gBY := gBY.ag (Agr.fr f2 (by decide))
  have t3 : (σ2 0 18).toInt = (σ0 0 18).toInt := congrArg Int32.toInt (f2.at 0 18 (by decide))
  have gCT := hp2_0
  refine lv_aload_n hx hb dX11_valley_10 rfl (lv_at hl 0 rfl) ?_
  refine fg_11_3 (k := 0) hx hb hts in_X11_valley_11 hown hK hP (by decide) (by decide) (hts _ lk_X11_valley_31) dX11_valley_11 ?_
  refine r_cVi (k := 6) (As := []) (rest := []) ⟨hx, hb, hml, hown, hts⟩ hK hP hN hS (c_X10_read l D cA ad hI σ2 τ2 hR b N 900 gCT (by omega)) (cwV 0 hts gX11_valley_X10_read rfl rfl rfl (by decide +kernel) ⟨by decide, by decide⟩) (rv_VText hK hP (by decide) (by decide)) rfl hl.1 rfl (Nat.le_of_ble_eq_true rfl) dX11_valley_14 (Nat.zero_le _) (Nat.zero_le _) (fun r4 u4 H4 locs4 hp4 hP hS => ?_)
  obtain ⟨σ4, τ4⟩ := u4
  obtain ⟨hR, f4, fL4, hq4, hp4_0, hp4_1⟩ : P_X10_read σ2 τ2 b N 900 r4 σ4 τ4 := hp4
  have o1 := hp4_0
  have frd := f4
  have frdL := fL4
  have hP : va_P D vwCl (gw cA ad σ4 τ4) H4 := hP
  have hFL := hFL.step fL4 (by decide)
  have hF := hF.step f4 (by decide)
  have gBY := gBY.ag (Agr.fr f4 (by decide))
  have t5 : (σ4 0 18).toInt = (σ2 0 18).toInt := congrArg Int32.toInt (f4.at 0 18 (by decide))
  refine lv_istore_n (lv' := [(1, .int r4), (0, .ref (ad 0))]) hx hb dX11_valley_17 rfl hl (by decide) rfl (fun ls hl => ?_)
  refine lv_aload_n hx hb dX11_valley_18 rfl (lv_at hl 1 rfl) ?_
  refine r_cVv (k := 0) (As := []) (rest := []) ⟨hx, hb, hml, hown, hts⟩ hK hP hN hS (c_X11_emptyTape l D cA ad hI σ4 τ4 hR) (cwV 0 hts gX11_valley_X11_emptyTape rfl rfl rfl (by decide +kernel) ⟨by decide, by decide⟩) (rv_X hK hP (by decide) (by decide)) rfl hl.1 rfl (Nat.le_of_ble_eq_true rfl) dX11_valley_19 (Nat.zero_le _) (Nat.zero_le _) (fun u6 H6 locs6 hp6 hP hS => ?_)
  obtain ⟨σ6, τ6⟩ := u6
  obtain ⟨hR, f6, fL6, hp6_0, hp6_1⟩ : P_X11_emptyTape σ4 τ4 σ6 τ6 := hp6
  have e18 := hp6_1
  have fe := f6
  have hP : va_P D vwCl (gw cA ad σ6 τ6) H6 := hP
  obtain rfl := FrL.nil fL6
  have hF := hF.step f6 (by decide)
  have t7 : (σ6 1 13).toInt = (σ4 1 13).toInt := congrArg Int32.toInt (f6.at 1 13 (by decide))
  refine lv_iload_n hx hb dX11_valley_22 rfl (lv_at hl 0 rfl) ?_
  refine r_if_ne (tgt := 36) hx hb dX11_valley_23 (by decide) (fun c8 => ?_) (fun c8 => ?_)
  · replace hp4_1 := hp4_1.resolve_left (by omega)
    refine lv_aload_n hx hb dX11_valley_36 rfl (lv_at hl 1 rfl) ?_
    refine fg_11_1 (k := 0) hx hb hts in_X11_valley_11 hown hK hP (by decide) (by decide) (hts _ lk_X11_valley_19) dX11_valley_37 ?_
    refine lv_aload_n hx hb dX11_valley_40 rfl (lv_at hl 1 rfl) ?_
    refine fg_11_2 (k := 0) hx hb hts in_X11_valley_11 hown hK hP (by decide) (by decide) (hts _ lk_X11_valley_23) dX11_valley_41 ?_
    refine r_cVv (k := 2) (As := [.ref (ad 3)]) (rest := []) ⟨hx, hb, hml, hown, hts⟩ hK hP hN hS (c_X9_copyFrom l D cA ad hI σ6 τ4 hR 2 3 ⟨by omega, by omega⟩ ⟨by omega, by omega⟩) (cwV 1 hts gX11_valley_X9_copyFrom rfl rfl rfl (by decide +kernel) ⟨by decide, by decide⟩) (rv_Valley hK hP (by decide) (by decide)) rfl hl.1 rfl (Nat.le_of_ble_eq_true rfl) dX11_valley_44 (Nat.zero_le _) (Nat.zero_le _) (fun u9 H9 locs9 hp9 hP hS => ?_)
    obtain ⟨σ9, τ9⟩ := u9
    obtain ⟨hR, f9, fL9, hp9_0, hp9_1⟩ : P_X9_copyFrom σ6 τ4 2 3 σ9 τ9 := hp9
    have vcp := hp9_0
    have ncp := hp9_1
    have fc := f9
    have hP : va_P D vwCl (gw cA ad σ9 τ9) H9 := hP
    have hFL := hFL.step fL9 (by decide)
    have hF := hF.step f9 (by decide)
    have t10 : (σ9 1 13).toInt = (σ6 1 13).toInt := congrArg Int32.toInt (f9.at 1 13 (by decide))
    have t11 : (σ9 0 18).toInt = (σ6 0 18).toInt := congrArg Int32.toInt (f9.at 0 18 (by decide))
    have t12 : (σ9 1 5).toInt = (σ6 1 5).toInt := congrArg Int32.toInt (f9.at 1 5 (by decide))
    refine lv_aload_n hx hb dX11_valley_47 rfl (lv_at hl 1 rfl) ?_
    refine fg_11_4 (k := 0) hx hb hts in_X11_valley_11 hown hK hP (by decide) (by decide) (hts _ lk_X11_valley_38) dX11_valley_48 ?_
    refine lv_aload_n hx hb dX11_valley_51 rfl (lv_at hl 1 rfl) ?_
    refine fg_11_1 (k := 0) hx hb hts in_X11_valley_11 hown hK hP (by decide) (by decide) (hts _ lk_X11_valley_19) dX11_valley_52 ?_
    refine r_cVv (k := 7) (As := [.ref (ad 2)]) (rest := []) ⟨hx, hb, hml, hown, hts⟩ hK hP hN hS (c_X2_begin l D cA ad hI σ9 τ9 hR) (cwV 1 hts gX11_valley_X2_begin rfl rfl rfl (by decide +kernel) ⟨by decide, by decide⟩) (rv_Days hK hP (by decide) (by decide)) rfl hl.1 rfl (Nat.le_of_ble_eq_true rfl) dX11_valley_55 (Nat.zero_le _) (Nat.zero_le _) (fun u13 H13 locs13 hp13 hP hS => ?_)
    obtain ⟨σ13, τ13⟩ := u13
    obtain ⟨hR, f13, fL13⟩ : P_X2_begin σ9 τ9 σ13 τ13 := hp13
    have fb := f13
    have hP : va_P D vwCl (gw cA ad σ13 τ13) H13 := hP
    obtain rfl := FrL.nil fL13
    have hF := hF.step f13 (by decide)
    have t14 : (σ13 1 13).toInt = (σ9 1 13).toInt := congrArg Int32.toInt (f13.at 1 13 (by decide))
    have t15 : (σ13 0 18).toInt = (σ9 0 18).toInt := congrArg Int32.toInt (f13.at 0 18 (by decide))
    have t16 : (σ13 1 5).toInt = (σ9 1 5).toInt := congrArg Int32.toInt (f13.at 1 5 (by decide))
    refine lv_aload_n hx hb dX11_valley_58 rfl (lv_at hl 1 rfl) ?_
    refine fg_11_10 (k := 0) hx hb hts in_X11_valley_11 hown hK hP (by decide) (by decide) (hts _ lk_X11_valley_76) dX11_valley_59 ?_
    refine r_cVv (k := 23) (As := []) (rest := []) ⟨hx, hb, hml, hown, hts⟩ hK hP hN hS (c_X6_clear l D cA ad hI σ13 τ9 hR 23 ⟨by omega, by omega⟩) (cwV 0 hts gX11_valley_X6_clear rfl rfl rfl (by decide +kernel) ⟨by decide, by decide⟩) (rv_Sent hK hP (by decide) (by decide)) rfl hl.1 rfl (Nat.le_of_ble_eq_true rfl) dX11_valley_62 (Nat.zero_le _) (Nat.zero_le _) (fun u17 H17 locs17 hp17 hP hS => ?_)
    obtain ⟨σ17, τ17⟩ := u17
    obtain ⟨hR, f17, fL17, hp17_0, hp17_1⟩ : P_X6_clear σ13 τ9 23 σ17 τ17 := hp17
    have fs := f17
    have hP : va_P D vwCl (gw cA ad σ17 τ17) H17 := hP
    obtain rfl := FrL.nil fL17
    have hF := hF.step f17 (by decide)
    have t18 : (σ17 1 13).toInt = (σ13 1 13).toInt := congrArg Int32.toInt (f17.at 1 13 (by decide))
    have t19 : (σ17 0 18).toInt = (σ13 0 18).toInt := congrArg Int32.toInt (f17.at 0 18 (by decide))
    have t20 : (σ17 1 5).toInt = (σ13 1 5).toInt := congrArg Int32.toInt (f17.at 1 5 (by decide))
    refine lv_aload_n hx hb dX11_valley_65 rfl (lv_at hl 1 rfl) ?_
    refine fg_11_7 (k := 0) hx hb hts in_X11_valley_11 hown hK hP (by decide) (by decide) (hts _ lk_X11_valley_51) dX11_valley_66 ?_
    refine r_cVv (k := 20) (As := []) (rest := []) ⟨hx, hb, hml, hown, hts⟩ hK hP hN hS (c_X3_clear l D cA ad hI σ17 τ9 hR) (cwV 0 hts gX11_valley_X3_clear rfl rfl rfl (by decide +kernel) ⟨by decide, by decide⟩) (rv_Hist hK hP (by decide) (by decide)) rfl hl.1 rfl (Nat.le_of_ble_eq_true rfl) dX11_valley_69 (Nat.zero_le _) (Nat.zero_le _) (fun u21 H21 locs21 hp21 hP hS => ?_)
    obtain ⟨σ21, τ21⟩ := u21
    obtain ⟨hR, f21, fL21⟩ : P_X3_clear σ17 τ9 σ21 τ21 := hp21
    have fh := f21
    have hP : va_P D vwCl (gw cA ad σ21 τ21) H21 := hP
    obtain rfl := FrL.nil fL21
    have hF := hF.step f21 (by decide)
    have t22 : (σ21 1 13).toInt = (σ17 1 13).toInt := congrArg Int32.toInt (f21.at 1 13 (by decide))
    have t23 : (σ21 0 18).toInt = (σ17 0 18).toInt := congrArg Int32.toInt (f21.at 0 18 (by decide))
    have t24 : (σ21 1 5).toInt = (σ17 1 5).toInt := congrArg Int32.toInt (f21.at 1 5 (by decide))
    have e62 := congrArg Int32.toInt ((fh.at 6 2 (by decide)).trans ((fs.at 6 2 (by decide)).trans ((fb.at 6 2 (by decide)).trans ((fc.at 6 2 (by decide)).trans (fe.at 6 2 (by decide))))))
    refine lv_aload_n hx hb dX11_valley_72 rfl (lv_at hl 1 rfl) ?_
    refine fg_11_3 (k := 0) hx hb hts in_X11_valley_11 hown hK hP (by decide) (by decide) (hts _ lk_X11_valley_31) dX11_valley_73 ?_
    refine fgN_10_2 (k := 6) hx hb hts in_X11_valley_10 hown hK hP (by decide) (by decide) (hN.use nw_11_146) dX11_valley_76 ?_
    have hr25 := rg_10_2 hR (k := 6) (by decide) (by decide)
    exact r_iret hx hb hr hK hP hS hk dX11_valley_79 (show P_X11_valley σ0 τ0 b N (σ21 6 2) σ21 τ9 from ⟨hR, hF, hFL, by omega, by first | (obtain ⟨f, e1, x1, x2⟩ := o1.no (by omega); rw [valA_l e1]; omega) | (obtain ⟨y, e1, y1, y2⟩ := o1.ye (by omega); rw [valA_r e1]; omega), by first | (obtain ⟨f, e1, x1, x2⟩ := o1.no (by omega); exact VZc.no fsc (by decide) frd (by decide) e1 fe (by decide)) | (obtain ⟨y, e1, y1, y2⟩ := o1.ye (by omega); exact VZc.ok fsc (by decide) frd (by decide) e1 y2 fe (by decide) (by decide) vcp fb (by decide) fs (by decide) fh (by decide)), by first | (obtain ⟨f, e1, x1, x2⟩ := o1.no (by omega); exact VNc.no fscL (by decide) frdL (by decide) e1) | (obtain ⟨y, e1, y1, y2⟩ := o1.ye (by omega); exact VNc.ok fscL (by decide) frdL (by decide) e1 y2 ncp), by first | (obtain ⟨y, e1, y1, y2⟩ := o1.ye (by omega); rw [kndP_r e1]; omega) | (obtain ⟨f, e1, x1, x2⟩ := o1.no (by omega); rw [kndP_l e1]; omega)⟩)
  · clear hp4_1
    have e14 := congrArg Int32.toInt (fe.at 1 14 (by decide))
    refine r_iconst hx hb dX11_valley_26 (by decide) (fun z26 ez26 => ?_)
    refine lv_aload_n hx hb dX11_valley_27 rfl (lv_at hl 1 rfl) ?_
    refine fg_11_0 (k := 0) hx hb hts in_X11_valley_11 hown hK hP (by decide) (by decide) (hts _ lk_X11_valley_10) dX11_valley_28 ?_
    refine fgN_8_14 (k := 1) hx hb hts in_X11_valley_8 hown hK hP (by decide) (by decide) (hN.use nw_11_133) dX11_valley_31 ?_
    have b28 := And.intro (ti_lo (σ6 1 14)) (ti_hi (σ6 1 14))
    refine r_isub hx hb dX11_valley_34 (by omega) (fun z27 ez27 => ?_)
    exact r_iret hx hb hr hK hP hS hk dX11_valley_35 (show P_X11_valley σ0 τ0 b N z27 σ6 τ4 from ⟨hR, hF, hFL, by omega, by first | (obtain ⟨f, e1, x1, x2⟩ := o1.no (by omega); rw [valA_l e1]; omega) | (obtain ⟨y, e1, y1, y2⟩ := o1.ye (by omega); rw [valA_r e1]; omega), by first | (obtain ⟨f, e1, x1, x2⟩ := o1.no (by omega); exact VZc.no fsc (by decide) frd (by decide) e1 fe (by decide)) | (obtain ⟨y, e1, y1, y2⟩ := o1.ye (by omega); exact VZc.ok fsc (by decide) frd (by decide) e1 y2 fe (by decide) (by decide) vcp fb (by decide) fs (by decide) fh (by decide)), by first | (obtain ⟨f, e1, x1, x2⟩ := o1.no (by omega); exact VNc.no fscL (by decide) frdL (by decide) e1) | (obtain ⟨y, e1, y1, y2⟩ := o1.ye (by omega); exact VNc.ok fscL (by decide) frdL (by decide) e1 y2 ncp), by first | (obtain ⟨y, e1, y1, y2⟩ := o1.ye (by omega); rw [kndP_r e1]; omega) | (obtain ⟨f, e1, x1, x2⟩ := o1.no (by omega); rw [kndP_l e1]; omega)⟩)
theorem in_X11_fault_11 : ∀ w ∈ u_ws RX11 TX11 19, w ∈ wsX11_fault := by decide +kernel
theorem lk_X11_fault_149 : Cond.fieldLink RX11 149 "CuckooShares" "lastFault" "I" ∈ wsX11_fault := by decide +kernel
abbrev L_X11_fault : List Rc := []
abbrev LL_X11_fault : List Rc := []
def P_X11_fault (σ0 : Nat → Nat → Int32) (τ0 : Nat → Nat → Int64)  (r : Int32) (σ : Nat → Nat → Int32) (τ : Nat → Nat → Int64) : Prop := Rg σ ∧ Fr L_X11_fault σ0 σ ∧ FrL LL_X11_fault τ0 τ ∧ (r.toInt = (σ0 0 18).toInt)
set_option maxHeartbeats 4000000 in
theorem c_X11_fault (l : Launch) (D : va_G) (cA : Nat → ClassId) (ad : Nat → Nat) (hI : Inj ad) (σ0 : Nat → Nat → Int32) (τ0 : Nat → Nat → Int64) (hR : Rg σ0)   : Met l yX11_fault wsX11_fault ({ frames := 0, cells := 0, slots := 0, locals := 0 } : Room) (WQc D cA ad [.ref (ad 0)] σ0 τ0) (va_Qi (fun (r : Int32) (u : SS) => P_X11_fault σ0 τ0 r u.1 u.2) (WB D cA ad) (AA ad)) 0 0 (AA ad) := by
  refine Met.ofW (cc := cX11_fault) (maxL := 1) (ret := (some .int)) (by decide) rfl ?_
  intro p e s m args below meth c s₁ B hml hv
  obtain ⟨rfl, hP, hK, hN⟩ := hv
  have C : Cy p s m _ meth c cX11_fault 1 wsX11_fault RX11 D cA ad (some .int) := ⟨B.exec, B.bytes, hml, findClass_of_methodNamed B.named, atoms_spec (ws := wsX11_fault) B.pre, hK, B.notSynchronized, B.returns, hI, hN⟩
  have hl := lv_entry ([.ref (ad 0)]) (n := 1) (Nat.le_of_ble_eq_true rfl)
  rw [lg_entry_eq]
  generalize (lg_sl ([.ref (ad 0)]) ++ List.replicate (1 - (lg_sl ([.ref (ad 0)])).length) Slot.unset).toArray = ls at hl ⊢
  have hl : lv_has ls 1 [(0, .ref (ad 0))] := hl
  have hS : va_S (AA ad) s.heap s.heap [] := va_S.rf
  have hF : Fr L_X11_fault σ0 σ0 := Fr.rf
  have hFL : FrL LL_X11_fault τ0 τ0 := FrL.rf
  obtain ⟨hx, hb, _, hown, hts, _, hk, hr, _, _⟩ := C
  refine lv_aload_n hx hb dX11_fault_0 rfl (lv_at hl 0 rfl) ?_
  refine fg_11_18 (k := 0) hx hb hts in_X11_fault_11 hown hK hP (by decide) (by decide) (hts _ lk_X11_fault_149) dX11_fault_1 ?_
  exact r_iret hx hb hr hK hP hS hk dX11_fault_4 (show P_X11_fault σ0 τ0 (σ0 0 18) σ0 τ0 from ⟨hR, hF, hFL, by omega⟩)
theorem in_X11_hill_11 : ∀ w ∈ u_ws RX11 TX11 19, w ∈ wsX11_hill := by decide +kernel
theorem in_X11_hill_9 : ∀ w ∈ u_ws RX9 TX9 14, w ∈ wsX11_hill := by decide +kernel
theorem lk_X11_hill_19 : Cond.fieldLink RX11 19 "CuckooShares" "valley" "LCuckooShares$Valley;" ∈ wsX11_hill := by decide +kernel
theorem lk_X11_hill_38 : Cond.fieldLink RX11 38 "CuckooShares" "days" "LCuckooShares$Days;" ∈ wsX11_hill := by decide +kernel
abbrev L_X11_hill : List Rc := []
abbrev LL_X11_hill : List Rc := []
def P_X11_hill (σ0 : Nat → Nat → Int32) (τ0 : Nat → Nat → Int64) (a1 : Int32) (a2 : Int32) (r : Int32) (σ : Nat → Nat → Int32) (τ : Nat → Nat → Int64) : Prop := Rg σ ∧ Fr L_X11_hill σ0 σ ∧ FrL LL_X11_hill τ0 τ
set_option maxHeartbeats 4000000 in
theorem c_X11_hill (l : Launch) (D : va_G) (cA : Nat → ClassId) (ad : Nat → Nat) (hI : Inj ad) (σ0 : Nat → Nat → Int32) (τ0 : Nat → Nat → Int64) (hR : Rg σ0) (a1 : Int32) (a2 : Int32)  : Met l yX11_hill wsX11_hill ({ frames := 1, cells := 0, slots := 0, locals := 24 } : Room) (WQc D cA ad [.ref (ad 0), .int a1, .int a2] σ0 τ0) (va_Qi (fun (r : Int32) (u : SS) => P_X11_hill σ0 τ0 a1 a2 r u.1 u.2) (WB D cA ad) (AA ad)) 0 0 (AA ad) := by
  refine Met.ofW (cc := cX11_hill) (maxL := 3) (ret := (some .int)) (by decide) rfl ?_
  intro p e s m args below meth c s₁ B hml hv
  obtain ⟨rfl, hP, hK, hN⟩ := hv
  have C : Cy p s m _ meth c cX11_hill 3 wsX11_hill RX11 D cA ad (some .int) := ⟨B.exec, B.bytes, hml, findClass_of_methodNamed B.named, atoms_spec (ws := wsX11_hill) B.pre, hK, B.notSynchronized, B.returns, hI, hN⟩
  have hl := lv_entry ([.ref (ad 0), .int a1, .int a2]) (n := 3) (Nat.le_of_ble_eq_true rfl)
  rw [lg_entry_eq]
  generalize (lg_sl ([.ref (ad 0), .int a1, .int a2]) ++ List.replicate (3 - (lg_sl ([.ref (ad 0), .int a1, .int a2])).length) Slot.unset).toArray = ls at hl ⊢
  have hl : lv_has ls 3 [(0, .ref (ad 0)), (1, .int a1), (2, .int a2)] := hl
  have hS : va_S (AA ad) s.heap s.heap [] := va_S.rf
  have hF : Fr L_X11_hill σ0 σ0 := Fr.rf
  have hFL : FrL LL_X11_hill τ0 τ0 := FrL.rf
  obtain ⟨hx, hb, _, hown, hts, _, hk, hr, _, _⟩ := C
  refine lv_aload_n hx hb dX11_hill_0 rfl (lv_at hl 0 rfl) ?_
  refine fg_11_1 (k := 0) hx hb hts in_X11_hill_11 hown hK hP (by decide) (by decide) (hts _ lk_X11_hill_19) dX11_hill_1 ?_
  refine lv_iload_n hx hb dX11_hill_4 rfl (lv_at hl 1 rfl) ?_
  refine r_cVi (k := 2) (As := [.int a1]) (rest := []) ⟨hx, hb, hml, hown, hts⟩ hK hP hN hS (c_X9_hasHill l D cA ad hI σ0 τ0 hR 2 a1 ⟨by omega, by omega⟩) (cwV 1 hts gX11_hill_X9_hasHill rfl rfl rfl (by decide +kernel) ⟨by decide, by decide⟩) (rv_Valley hK hP (by decide) (by decide)) rfl hl.1 rfl (Nat.le_of_ble_eq_true rfl) dX11_hill_5 (Nat.zero_le _) (Nat.zero_le _) (fun r1 u1 H1 locs1 hp1 hP hS => ?_)
  obtain ⟨σ1, τ1⟩ := u1
  obtain ⟨hR, f1, fL1, hq1, hp1_0⟩ : P_X9_hasHill σ0 τ0 2 a1 r1 σ1 τ1 := hp1
  have hP : va_P D vwCl (gw cA ad σ1 τ1) H1 := hP
  obtain rfl := FrL.nil fL1
  obtain rfl := Fr.nil f1
  refine r_if_ne (tgt := 13) hx hb dX11_hill_8 (by decide) (fun c2 => ?_) (fun c2 => ?_)
  · refine lv_iload_n hx hb dX11_hill_13 rfl (lv_at hl 2 rfl) ?_
    by_cases c3 : a2.toInt = 0
    · refine lv_tableIn (off := 34) (tgt := 48) hx hb dX11_hill_14 (by omega) (by omega) (by rw [c3]; rfl) (by decide) ?_
      refine lv_aload_n hx hb dX11_hill_48 rfl (lv_at hl 0 rfl) ?_
      refine fg_11_1 (k := 0) hx hb hts in_X11_hill_11 hown hK hP (by decide) (by decide) (hts _ lk_X11_hill_19) dX11_hill_49 ?_
      refine fgN_9_9 (k := 2) hx hb hts in_X11_hill_9 hown hK hP (by decide) (by decide) (hN.use nw_11_159) dX11_hill_52 ?_
      refine lv_iload_n hx hb dX11_hill_55 rfl (lv_at hl 1 rfl) ?_
      obtain ⟨j4, ej4⟩ : ∃ j : Nat, a1.toInt = (j : Int) := ⟨_, ti_nat (by omega)⟩
      refine ad_hillA (k := 48) (j := j4) hx hb hK hP (by decide) (by decide) ej4 (by omega) dX11_hill_56 ?_
      refine r_iconst hx hb dX11_hill_57 (by decide) (fun z5 ez5 => ?_)
      refine ad_hillR (k := 68 + j4) (j := 0) hx hb hK hP (by omega) (by omega) (by omega) (by omega) dX11_hill_58 ?_
      exact r_iret hx hb hr hK hP hS hk dX11_hill_59 (show P_X11_hill σ0 τ0 a1 a2 (σ0 (68 + j4) 0) σ0 τ0 from ⟨hR, hF, hFL⟩)
    by_cases c6 : a2.toInt = 1
    · refine lv_tableIn (off := 46) (tgt := 60) hx hb dX11_hill_14 (by omega) (by omega) (by rw [c6]; rfl) (by decide) ?_
      refine lv_aload_n hx hb dX11_hill_60 rfl (lv_at hl 0 rfl) ?_
      refine fg_11_1 (k := 0) hx hb hts in_X11_hill_11 hown hK hP (by decide) (by decide) (hts _ lk_X11_hill_19) dX11_hill_61 ?_
      refine fgN_9_9 (k := 2) hx hb hts in_X11_hill_9 hown hK hP (by decide) (by decide) (hN.use nw_11_159) dX11_hill_64 ?_
      refine lv_iload_n hx hb dX11_hill_67 rfl (lv_at hl 1 rfl) ?_
      obtain ⟨j7, ej7⟩ : ∃ j : Nat, a1.toInt = (j : Int) := ⟨_, ti_nat (by omega)⟩
      refine ad_hillA (k := 48) (j := j7) hx hb hK hP (by decide) (by decide) ej7 (by omega) dX11_hill_68 ?_
      refine r_iconst hx hb dX11_hill_69 (by decide) (fun z8 ez8 => ?_)
      refine ad_hillR (k := 68 + j7) (j := 1) hx hb hK hP (by omega) (by omega) (by omega) (by omega) dX11_hill_70 ?_
      exact r_iret hx hb hr hK hP hS hk dX11_hill_71 (show P_X11_hill σ0 τ0 a1 a2 (σ0 (68 + j7) 1) σ0 τ0 from ⟨hR, hF, hFL⟩)
    by_cases c9 : a2.toInt = 2
    · refine lv_tableIn (off := 58) (tgt := 72) hx hb dX11_hill_14 (by omega) (by omega) (by rw [c9]; rfl) (by decide) ?_
      refine lv_aload_n hx hb dX11_hill_72 rfl (lv_at hl 0 rfl) ?_
      refine fg_11_1 (k := 0) hx hb hts in_X11_hill_11 hown hK hP (by decide) (by decide) (hts _ lk_X11_hill_19) dX11_hill_73 ?_
      refine fgN_9_9 (k := 2) hx hb hts in_X11_hill_9 hown hK hP (by decide) (by decide) (hN.use nw_11_159) dX11_hill_76 ?_
      refine lv_iload_n hx hb dX11_hill_79 rfl (lv_at hl 1 rfl) ?_
      obtain ⟨j10, ej10⟩ : ∃ j : Nat, a1.toInt = (j : Int) := ⟨_, ti_nat (by omega)⟩
      refine ad_hillA (k := 48) (j := j10) hx hb hK hP (by decide) (by decide) ej10 (by omega) dX11_hill_80 ?_
      refine r_iconst hx hb dX11_hill_81 (by decide) (fun z11 ez11 => ?_)
      refine ad_hillR (k := 68 + j10) (j := 2) hx hb hK hP (by omega) (by omega) (by omega) (by omega) dX11_hill_82 ?_
      exact r_iret hx hb hr hK hP hS hk dX11_hill_83 (show P_X11_hill σ0 τ0 a1 a2 (σ0 (68 + j10) 2) σ0 τ0 from ⟨hR, hF, hFL⟩)
    by_cases c12 : a2.toInt = 3
    · refine lv_tableIn (off := 70) (tgt := 84) hx hb dX11_hill_14 (by omega) (by omega) (by rw [c12]; rfl) (by decide) ?_
      refine lv_aload_n hx hb dX11_hill_84 rfl (lv_at hl 0 rfl) ?_
      refine fg_11_1 (k := 0) hx hb hts in_X11_hill_11 hown hK hP (by decide) (by decide) (hts _ lk_X11_hill_19) dX11_hill_85 ?_
      refine lv_aload_n hx hb dX11_hill_88 rfl (lv_at hl 0 rfl) ?_
      refine fg_11_1 (k := 0) hx hb hts in_X11_hill_11 hown hK hP (by decide) (by decide) (hts _ lk_X11_hill_19) dX11_hill_89 ?_
      refine fgN_9_9 (k := 2) hx hb hts in_X11_hill_9 hown hK hP (by decide) (by decide) (hN.use nw_11_159) dX11_hill_92 ?_
      refine lv_iload_n hx hb dX11_hill_95 rfl (lv_at hl 1 rfl) ?_
      obtain ⟨j13, ej13⟩ : ∃ j : Nat, a1.toInt = (j : Int) := ⟨_, ti_nat (by omega)⟩
      refine ad_hillA (k := 48) (j := j13) hx hb hK hP (by decide) (by decide) ej13 (by omega) dX11_hill_96 ?_
      refine r_iconst hx hb dX11_hill_97 (by decide) (fun z14 ez14 => ?_)
      refine ad_hillR (k := 68 + j13) (j := 0) hx hb hK hP (by omega) (by omega) (by omega) (by omega) dX11_hill_98 ?_
      refine r_cVi (k := 2) (As := [.int (σ0 (68 + j13) 0)]) (rest := []) ⟨hx, hb, hml, hown, hts⟩ hK hP hN hS (c_X9_side l D cA ad hI σ0 τ0 hR (σ0 (68 + j13) 0)) (cwV 1 hts gX11_hill_X9_side rfl rfl rfl (by decide +kernel) ⟨by decide, by decide⟩) (rv_Valley hK hP (by decide) (by decide)) rfl hl.1 rfl (Nat.le_of_ble_eq_true rfl) dX11_hill_99 (Nat.zero_le _) (Nat.zero_le _) (fun r15 u15 H15 locs15 hp15 hP hS => ?_)
      obtain ⟨σ15, τ15⟩ := u15
      obtain ⟨hR, f15, fL15, hq15, hp15_0⟩ : P_X9_side σ0 τ0 (σ0 (68 + j13) 0) r15 σ15 τ15 := hp15
      have hP : va_P D vwCl (gw cA ad σ15 τ15) H15 := hP
      obtain rfl := FrL.nil fL15
      obtain rfl := Fr.nil f15
      exact r_iret hx hb hr hK hP hS hk dX11_hill_102 (show P_X11_hill σ0 τ0 a1 a2 r15 σ0 τ0 from ⟨hR, hF, hFL⟩)
    by_cases c16 : a2.toInt = 4
    · refine lv_tableIn (off := 89) (tgt := 103) hx hb dX11_hill_14 (by omega) (by omega) (by rw [c16]; rfl) (by decide) ?_
      refine lv_aload_n hx hb dX11_hill_103 rfl (lv_at hl 0 rfl) ?_
      refine fg_11_4 (k := 0) hx hb hts in_X11_hill_11 hown hK hP (by decide) (by decide) (hts _ lk_X11_hill_38) dX11_hill_104 ?_
      refine lv_iload_n hx hb dX11_hill_107 rfl (lv_at hl 1 rfl) ?_
      refine lv_aload_n hx hb dX11_hill_108 rfl (lv_at hl 0 rfl) ?_
      refine fg_11_1 (k := 0) hx hb hts in_X11_hill_11 hown hK hP (by decide) (by decide) (hts _ lk_X11_hill_19) dX11_hill_109 ?_
      refine fgN_9_5 (k := 2) hx hb hts in_X11_hill_9 hown hK hP (by decide) (by decide) (hN.use nw_11_167) dX11_hill_112 ?_
      have hr17 := rg_9_5 hR (k := 2) (by decide) (by decide)
      refine r_cVi (k := 7) (As := [.int a1, .int (σ0 2 5)]) (rest := []) ⟨hx, hb, hml, hown, hts⟩ hK hP hN hS (c_X2_menOn l D cA ad hI σ0 τ0 hR a1 (σ0 2 5) (by omega)) (cwV 2 hts gX11_hill_X2_menOn rfl rfl rfl (by decide +kernel) ⟨by decide, by decide⟩) (rv_Days hK hP (by decide) (by decide)) rfl hl.1 rfl (Nat.le_of_ble_eq_true rfl) dX11_hill_115 (Nat.zero_le _) (Nat.zero_le _) (fun r18 u18 H18 locs18 hp18 hP hS => ?_)
      obtain ⟨σ18, τ18⟩ := u18
      obtain ⟨hR, f18, fL18⟩ : P_X2_menOn σ0 τ0 a1 (σ0 2 5) r18 σ18 τ18 := hp18
      have hP : va_P D vwCl (gw cA ad σ18 τ18) H18 := hP
      obtain rfl := FrL.nil fL18
      obtain rfl := Fr.nil f18
      exact r_iret hx hb hr hK hP hS hk dX11_hill_118 (show P_X11_hill σ0 τ0 a1 a2 r18 σ0 τ0 from ⟨hR, hF, hFL⟩)
    refine lv_tableOut (tgt := 119) hx hb dX11_hill_14 (by omega) (by decide) ?_
    refine r_iconst hx hb dX11_hill_119 (by decide) (fun z19 ez19 => ?_)
    exact r_iret hx hb hr hK hP hS hk dX11_hill_120 (show P_X11_hill σ0 τ0 a1 a2 z19 σ0 τ0 from ⟨hR, hF, hFL⟩)
  · refine r_iconst hx hb dX11_hill_11 (by decide) (fun z20 ez20 => ?_)
    exact r_iret hx hb hr hK hP hS hk dX11_hill_12 (show P_X11_hill σ0 τ0 a1 a2 z20 σ0 τ0 from ⟨hR, hF, hFL⟩)
theorem in_X11_flight_11 : ∀ w ∈ u_ws RX11 TX11 19, w ∈ wsX11_flight := by decide +kernel
theorem in_X11_flight_9 : ∀ w ∈ u_ws RX9 TX9 14, w ∈ wsX11_flight := by decide +kernel
theorem lk_X11_flight_19 : Cond.fieldLink RX11 19 "CuckooShares" "valley" "LCuckooShares$Valley;" ∈ wsX11_flight := by decide +kernel
abbrev L_X11_flight : List Rc := []
abbrev LL_X11_flight : List Rc := []
def P_X11_flight (σ0 : Nat → Nat → Int32) (τ0 : Nat → Nat → Int64) (a1 : Int32) (a2 : Int32) (h : Nat → Int) (r : Int32) (σ : Nat → Nat → Int32) (τ : Nat → Nat → Int64) : Prop := Rg σ ∧ Fr L_X11_flight σ0 σ ∧ FrL LL_X11_flight τ0 τ ∧ (r.toInt = flH h a1.toInt a2.toInt)
set_option maxHeartbeats 4000000 in
theorem c_X11_flight (l : Launch) (D : va_G) (cA : Nat → ClassId) (ad : Nat → Nat) (hI : Inj ad) (σ0 : Nat → Nat → Int32) (τ0 : Nat → Nat → Int64) (hR : Rg σ0) (a1 : Int32) (a2 : Int32) (h : Nat → Int) (hpre0 : CV σ0 2 h) : Met l yX11_flight wsX11_flight ({ frames := 1, cells := 0, slots := 0, locals := 21 } : Room) (WQc D cA ad [.ref (ad 0), .int a1, .int a2] σ0 τ0) (va_Qi (fun (r : Int32) (u : SS) => P_X11_flight σ0 τ0 a1 a2 h r u.1 u.2) (WB D cA ad) (AA ad)) 0 0 (AA ad) := by
  refine Met.ofW (cc := cX11_flight) (maxL := 3) (ret := (some .int)) (by decide) rfl ?_
  intro p e s m args below meth c s₁ B hml hv
  obtain ⟨rfl, hP, hK, hN⟩ := hv
  have C : Cy p s m _ meth c cX11_flight 3 wsX11_flight RX11 D cA ad (some .int) := ⟨B.exec, B.bytes, hml, findClass_of_methodNamed B.named, atoms_spec (ws := wsX11_flight) B.pre, hK, B.notSynchronized, B.returns, hI, hN⟩
  have hl := lv_entry ([.ref (ad 0), .int a1, .int a2]) (n := 3) (Nat.le_of_ble_eq_true rfl)
  rw [lg_entry_eq]
  generalize (lg_sl ([.ref (ad 0), .int a1, .int a2]) ++ List.replicate (3 - (lg_sl ([.ref (ad 0), .int a1, .int a2])).length) Slot.unset).toArray = ls at hl ⊢
  have hl : lv_has ls 3 [(0, .ref (ad 0)), (1, .int a1), (2, .int a2)] := hl
  have hS : va_S (AA ad) s.heap s.heap [] := va_S.rf
  have hF : Fr L_X11_flight σ0 σ0 := Fr.rf
  have hFL : FrL LL_X11_flight τ0 τ0 := FrL.rf
  obtain ⟨hx, hb, _, hown, hts, _, hk, hr, _, _⟩ := C
  have hn2 := hpre0.n2
  refine lv_aload_n hx hb dX11_flight_0 rfl (lv_at hl 0 rfl) ?_
  refine fg_11_1 (k := 0) hx hb hts in_X11_flight_11 hown hK hP (by decide) (by decide) (hts _ lk_X11_flight_19) dX11_flight_1 ?_
  refine lv_iload_n hx hb dX11_flight_4 rfl (lv_at hl 1 rfl) ?_
  refine r_cVi (k := 2) (As := [.int a1]) (rest := []) ⟨hx, hb, hml, hown, hts⟩ hK hP hN hS (c_X9_hasFlight l D cA ad hI σ0 τ0 hR 2 a1 ⟨by omega, by omega⟩) (cwV 1 hts gX11_flight_X9_hasFlight rfl rfl rfl (by decide +kernel) ⟨by decide, by decide⟩) (rv_Valley hK hP (by decide) (by decide)) rfl hl.1 rfl (Nat.le_of_ble_eq_true rfl) dX11_flight_5 (Nat.zero_le _) (Nat.zero_le _) (fun r1 u1 H1 locs1 hp1 hP hS => ?_)
  obtain ⟨σ1, τ1⟩ := u1
  obtain ⟨hR, f1, fL1, hq1, hp1_0, hp1_1⟩ : P_X9_hasFlight σ0 τ0 2 a1 r1 σ1 τ1 := hp1
  have hP : va_P D vwCl (gw cA ad σ1 τ1) H1 := hP
  obtain rfl := FrL.nil fL1
  obtain rfl := Fr.nil f1
  refine r_if_eq (tgt := 20) hx hb dX11_flight_8 (by decide) (fun c2 => ?_) (fun c2 => ?_)
  · refine r_iconst hx hb dX11_flight_20 (by decide) (fun z3 ez3 => ?_)
    exact r_iret hx hb hr hK hP hS hk dX11_flight_21 (show P_X11_flight σ0 τ0 a1 a2 h z3 σ0 τ0 from ⟨hR, hF, hFL, by first | (rw [flH_no (by omega)]; omega) | exact flC (i := 0) (j := 0) hpre0 (by omega) (by omega) (by omega) (by omega) (by omega)⟩)
  · refine lv_iload_n hx hb dX11_flight_11 rfl (lv_at hl 2 rfl) ?_
    refine r_if_lt (tgt := 20) hx hb dX11_flight_12 (by decide) (fun c4 => ?_) (fun c4 => ?_)
    · refine r_iconst hx hb dX11_flight_20 (by decide) (fun z5 ez5 => ?_)
      exact r_iret hx hb hr hK hP hS hk dX11_flight_21 (show P_X11_flight σ0 τ0 a1 a2 h z5 σ0 τ0 from ⟨hR, hF, hFL, by first | (rw [flH_no (by omega)]; omega) | exact flC (i := 0) (j := 0) hpre0 (by omega) (by omega) (by omega) (by omega) (by omega)⟩)
    · refine lv_iload_n hx hb dX11_flight_15 rfl (lv_at hl 2 rfl) ?_
      refine r_iconst hx hb dX11_flight_16 (by decide) (fun z6 ez6 => ?_)
      refine r_icmp_lt (tgt := 22) hx hb dX11_flight_17 (by decide) (fun c7 => ?_) (fun c7 => ?_)
      · refine lv_aload_n hx hb dX11_flight_22 rfl (lv_at hl 0 rfl) ?_
        refine fg_11_1 (k := 0) hx hb hts in_X11_flight_11 hown hK hP (by decide) (by decide) (hts _ lk_X11_flight_19) dX11_flight_23 ?_
        refine fgN_9_11 (k := 2) hx hb hts in_X11_flight_9 hown hK hP (by decide) (by decide) (hN.use nw_11_203) dX11_flight_26 ?_
        refine lv_iload_n hx hb dX11_flight_29 rfl (lv_at hl 1 rfl) ?_
        obtain ⟨j8, ej8⟩ : ∃ j : Nat, a1.toInt = (j : Int) := ⟨_, ti_nat (by omega)⟩
        refine ad_flightA (k := 56) (j := j8) hx hb hK hP (by decide) (by decide) ej8 (by omega) dX11_flight_30 ?_
        refine lv_iload_n hx hb dX11_flight_31 rfl (lv_at hl 2 rfl) ?_
        obtain ⟨j9, ej9⟩ : ∃ j : Nat, a2.toInt = (j : Int) := ⟨_, ti_nat (by omega)⟩
        refine ad_flightR (k := 132 + j8) (j := j9) hx hb hK hP (by omega) (by omega) ej9 (by omega) dX11_flight_32 ?_
        exact r_iret hx hb hr hK hP hS hk dX11_flight_33 (show P_X11_flight σ0 τ0 a1 a2 h (σ0 (132 + j8) j9) σ0 τ0 from ⟨hR, hF, hFL, by first | (rw [flH_no (by omega)]; omega) | exact flC (i := j8) (j := j9) hpre0 (by omega) (by omega) (by omega) (by omega) (by omega)⟩)
      · refine r_iconst hx hb dX11_flight_20 (by decide) (fun z10 ez10 => ?_)
        exact r_iret hx hb hr hK hP hS hk dX11_flight_21 (show P_X11_flight σ0 τ0 a1 a2 h z10 σ0 τ0 from ⟨hR, hF, hFL, by first | (rw [flH_no (by omega)]; omega) | exact flC (i := 0) (j := 0) hpre0 (by omega) (by omega) (by omega) (by omega) (by omega)⟩)
theorem in_X11_call_11 : ∀ w ∈ u_ws RX11 TX11 19, w ∈ wsX11_call := by decide +kernel
theorem lk_X11_call_19 : Cond.fieldLink RX11 19 "CuckooShares" "valley" "LCuckooShares$Valley;" ∈ wsX11_call := by decide +kernel
abbrev L_X11_call : List Rc := []
abbrev LL_X11_call : List Rc := []
def P_X11_call (σ0 : Nat → Nat → Int32) (τ0 : Nat → Nat → Int64) (a1 : Int32) (a2 : Int32) (a3 : Int32) (h : Nat → Int) (r : Int32) (σ : Nat → Nat → Int32) (τ : Nat → Nat → Int64) : Prop := Rg σ ∧ Fr L_X11_call σ0 σ ∧ FrL LL_X11_call τ0 τ ∧ (r.toInt = caH h a1.toInt a2.toInt a3.toInt)
set_option maxHeartbeats 4000000 in
theorem c_X11_call (l : Launch) (D : va_G) (cA : Nat → ClassId) (ad : Nat → Nat) (hI : Inj ad) (σ0 : Nat → Nat → Int32) (τ0 : Nat → Nat → Int64) (hR : Rg σ0) (a1 : Int32) (a2 : Int32) (a3 : Int32) (h : Nat → Int) (hpre0 : CV σ0 2 h) : Met l yX11_call wsX11_call ({ frames := 2, cells := 0, slots := 0, locals := 43 } : Room) (WQc D cA ad [.ref (ad 0), .int a1, .int a2, .int a3] σ0 τ0) (va_Qi (fun (r : Int32) (u : SS) => P_X11_call σ0 τ0 a1 a2 a3 h r u.1 u.2) (WB D cA ad) (AA ad)) 0 0 (AA ad) := by
  refine Met.ofW (cc := cX11_call) (maxL := 5) (ret := (some .int)) (by decide) rfl ?_
  intro p e s m args below meth c s₁ B hml hv
  obtain ⟨rfl, hP, hK, hN⟩ := hv
  have C : Cy p s m _ meth c cX11_call 5 wsX11_call RX11 D cA ad (some .int) := ⟨B.exec, B.bytes, hml, findClass_of_methodNamed B.named, atoms_spec (ws := wsX11_call) B.pre, hK, B.notSynchronized, B.returns, hI, hN⟩
  have hl := lv_entry ([.ref (ad 0), .int a1, .int a2, .int a3]) (n := 5) (Nat.le_of_ble_eq_true rfl)
  rw [lg_entry_eq]
  generalize (lg_sl ([.ref (ad 0), .int a1, .int a2, .int a3]) ++ List.replicate (5 - (lg_sl ([.ref (ad 0), .int a1, .int a2, .int a3])).length) Slot.unset).toArray = ls at hl ⊢
  have hl : lv_has ls 5 [(0, .ref (ad 0)), (1, .int a1), (2, .int a2), (3, .int a3)] := hl
  have hS : va_S (AA ad) s.heap s.heap [] := va_S.rf
  have hF : Fr L_X11_call σ0 σ0 := Fr.rf
  have hFL : FrL LL_X11_call τ0 τ0 := FrL.rf
  obtain ⟨hx, hb, _, hown, hts, _, hk, hr, _, _⟩ := C
  have hn2 := hpre0.n2
  refine lv_aload_n hx hb dX11_call_0 rfl (lv_at hl 0 rfl) ?_
  refine fg_11_1 (k := 0) hx hb hts in_X11_call_11 hown hK hP (by decide) (by decide) (hts _ lk_X11_call_19) dX11_call_1 ?_
  refine lv_iload_n hx hb dX11_call_4 rfl (lv_at hl 1 rfl) ?_
  refine lv_iload_n hx hb dX11_call_5 rfl (lv_at hl 2 rfl) ?_
  refine r_cVi (k := 2) (As := [.int a1, .int a2]) (rest := []) ⟨hx, hb, hml, hown, hts⟩ hK hP hN hS (c_X9_hasCall_c l D cA ad hI σ0 τ0 hR a1 a2 h hpre0) (cwV 2 hts gX11_call_X9_hasCall rfl rfl rfl (by decide +kernel) ⟨by decide, by decide⟩) (rv_Valley hK hP (by decide) (by decide)) rfl hl.1 rfl (Nat.le_of_ble_eq_true rfl) dX11_call_6 (Nat.zero_le _) (Nat.zero_le _) (fun r1 u1 H1 locs1 hp1 hP hS => ?_)
  obtain ⟨σ1, τ1⟩ := u1
  obtain ⟨hR, f1, fL1, hq1, hp1_0, hp1_1⟩ : P_X9_hasCall_c σ0 τ0 a1 a2 h r1 σ1 τ1 := hp1
  have hP : va_P D vwCl (gw cA ad σ1 τ1) H1 := hP
  obtain rfl := FrL.nil fL1
  obtain rfl := Fr.nil f1
  refine r_if_eq (tgt := 21) hx hb dX11_call_9 (by decide) (fun c2 => ?_) (fun c2 => ?_)
  · refine r_iconst hx hb dX11_call_21 (by decide) (fun z3 ez3 => ?_)
    exact r_iret hx hb hr hK hP hS hk dX11_call_22 (show P_X11_call σ0 τ0 a1 a2 a3 h z3 σ0 τ0 from ⟨hR, hF, hFL, by first | (rw [caH_no (by omega)]; omega) | exact caC3 hpre0 (by omega) (by omega) (by omega) (by omega) (by omega) (by omega) hqe (by omega) (by omega) | exact caC (j := 0) hpre0 (by omega) (by omega) (by omega) (by omega) (by omega) (by omega) hqe (by omega) (by omega)⟩)
  · refine lv_iload_n hx hb dX11_call_12 rfl (lv_at hl 3 rfl) ?_
    refine r_if_lt (tgt := 21) hx hb dX11_call_13 (by decide) (fun c4 => ?_) (fun c4 => ?_)
    · refine r_iconst hx hb dX11_call_21 (by decide) (fun z5 ez5 => ?_)
      exact r_iret hx hb hr hK hP hS hk dX11_call_22 (show P_X11_call σ0 τ0 a1 a2 a3 h z5 σ0 τ0 from ⟨hR, hF, hFL, by first | (rw [caH_no (by omega)]; omega) | exact caC3 hpre0 (by omega) (by omega) (by omega) (by omega) (by omega) (by omega) hqe (by omega) (by omega) | exact caC (j := 0) hpre0 (by omega) (by omega) (by omega) (by omega) (by omega) (by omega) hqe (by omega) (by omega)⟩)
    · refine lv_iload_n hx hb dX11_call_16 rfl (lv_at hl 3 rfl) ?_
      refine r_iconst hx hb dX11_call_17 (by decide) (fun z6 ez6 => ?_)
      refine r_icmp_le (tgt := 23) hx hb dX11_call_18 (by decide) (fun c7 => ?_) (fun c7 => ?_)
      · refine lv_aload_n hx hb dX11_call_23 rfl (lv_at hl 0 rfl) ?_
        refine fg_11_1 (k := 0) hx hb hts in_X11_call_11 hown hK hP (by decide) (by decide) (hts _ lk_X11_call_19) dX11_call_24 ?_
        refine lv_iload_n hx hb dX11_call_27 rfl (lv_at hl 1 rfl) ?_
        refine lv_iload_n hx hb dX11_call_28 rfl (lv_at hl 2 rfl) ?_
        refine r_cVr (k := 2) (As := [.int a1, .int a2]) (rest := []) ⟨hx, hb, hml, hown, hts⟩ hK hP hN hS (c_X9_callRow_c l D cA ad hI σ0 τ0 hR a1 a2 (by omega) (by omega)) (cwV 2 hts gX11_call_X9_callRow rfl rfl rfl (by decide +kernel) ⟨by decide, by decide⟩) (rv_Valley hK hP (by decide) (by decide)) rfl hl.1 rfl (Nat.le_of_ble_eq_true rfl) dX11_call_29 (Nat.zero_le _) (Nat.zero_le _) (fun r8 u8 H8 locs8 hp8 hP hS => ?_)
        obtain ⟨σ8, τ8⟩ := u8
        obtain ⟨hR, f8, fL8, hq8, hp8_0⟩ : P_X9_callRow_c ad σ0 τ0 a1 a2 r8 σ8 τ8 := hp8
        have hcr := hp8_0
        have hP : va_P D vwCl (gw cA ad σ8 τ8) H8 := hP
        obtain rfl := FrL.nil fL8
        obtain rfl := Fr.nil f8
        obtain ⟨q8, rfl, hq8a, hq8b⟩ := hq8
        have hqe := hI _ _ (by omega) (by omega) hcr
        refine lv_astore (lv' := [(4, .ref (ad q8)), (0, .ref (ad 0)), (1, .int a1), (2, .int a2), (3, .int a3)]) hx hb dX11_call_32 hl (by decide) rfl (fun ls hl => ?_)
        refine lv_iload_n hx hb dX11_call_34 rfl (lv_at hl 4 rfl) ?_
        refine r_iconst hx hb dX11_call_35 (by decide) (fun z9 ez9 => ?_)
        refine r_icmp_ne (tgt := 53) hx hb dX11_call_36 (by decide) (fun c10 => ?_) (fun c10 => ?_)
        · refine lv_aload hx hb dX11_call_53 (lv_at hl 0 rfl) ?_
          refine lv_iload_n hx hb dX11_call_55 rfl (lv_at hl 4 rfl) ?_
          obtain ⟨j11, ej11⟩ : ∃ j : Nat, a3.toInt = (j : Int) := ⟨_, ti_nat (by omega)⟩
          refine ad_callR (k := q8) (j := j11) hx hb hK hP (by omega) (by omega) ej11 (by omega) dX11_call_56 ?_
          exact r_iret hx hb hr hK hP hS hk dX11_call_57 (show P_X11_call σ0 τ0 a1 a2 a3 h (σ0 q8 j11) σ0 τ0 from ⟨hR, hF, hFL, by first | (rw [caH_no (by omega)]; omega) | exact caC3 hpre0 (by omega) (by omega) (by omega) (by omega) (by omega) (by omega) hqe (by omega) (by omega) | exact caC (j := j11) hpre0 (by omega) (by omega) (by omega) (by omega) (by omega) (by omega) hqe (by omega) (by omega)⟩)
        · refine lv_aload_n hx hb dX11_call_39 rfl (lv_at hl 1 rfl) ?_
          refine fg_11_1 (k := 0) hx hb hts in_X11_call_11 hown hK hP (by decide) (by decide) (hts _ lk_X11_call_19) dX11_call_40 ?_
          refine lv_aload hx hb dX11_call_43 (lv_at hl 0 rfl) ?_
          refine r_iconst hx hb dX11_call_45 (by decide) (fun z12 ez12 => ?_)
          refine ad_callR (k := q8) (j := 1) hx hb hK hP (by omega) (by omega) (by omega) (by omega) dX11_call_46 ?_
          refine r_cVi (k := 2) (As := [.int (σ0 q8 1)]) (rest := []) ⟨hx, hb, hml, hown, hts⟩ hK hP hN hS (c_X9_side l D cA ad hI σ0 τ0 hR (σ0 q8 1)) (cwV 1 hts gX11_call_X9_side rfl rfl rfl (by decide +kernel) ⟨by decide, by decide⟩) (rv_Valley hK hP (by decide) (by decide)) rfl hl.1 rfl (Nat.le_of_ble_eq_true rfl) dX11_call_47 (Nat.zero_le _) (Nat.zero_le _) (fun r13 u13 H13 locs13 hp13 hP hS => ?_)
          obtain ⟨σ13, τ13⟩ := u13
          obtain ⟨hR, f13, fL13, hq13, hp13_0⟩ : P_X9_side σ0 τ0 (σ0 q8 1) r13 σ13 τ13 := hp13
          have hP : va_P D vwCl (gw cA ad σ13 τ13) H13 := hP
          obtain rfl := FrL.nil fL13
          obtain rfl := Fr.nil f13
          refine lv_goto (tgt := 57) hx hb dX11_call_50 (by decide) ?_
          exact r_iret hx hb hr hK hP hS hk dX11_call_57 (show P_X11_call σ0 τ0 a1 a2 a3 h r13 σ0 τ0 from ⟨hR, hF, hFL, by first | (rw [caH_no (by omega)]; omega) | exact caC3 hpre0 (by omega) (by omega) (by omega) (by omega) (by omega) (by omega) hqe (by omega) (by omega) | exact caC (j := 0) hpre0 (by omega) (by omega) (by omega) (by omega) (by omega) (by omega) hqe (by omega) (by omega)⟩)
      · refine r_iconst hx hb dX11_call_21 (by decide) (fun z14 ez14 => ?_)
        exact r_iret hx hb hr hK hP hS hk dX11_call_22 (show P_X11_call σ0 τ0 a1 a2 a3 h z14 σ0 τ0 from ⟨hR, hF, hFL, by first | (rw [caH_no (by omega)]; omega) | exact caC3 hpre0 (by omega) (by omega) (by omega) (by omega) (by omega) (by omega) hqe (by omega) (by omega) | exact caC (j := 0) hpre0 (by omega) (by omega) (by omega) (by omega) (by omega) (by omega) hqe (by omega) (by omega)⟩)
theorem in_X11_now_11 : ∀ w ∈ u_ws RX11 TX11 19, w ∈ wsX11_now := by decide +kernel
theorem in_X11_now_2 : ∀ w ∈ u_ws RX2 TX2 7, w ∈ wsX11_now := by decide +kernel
theorem in_X11_now_9 : ∀ w ∈ u_ws RX9 TX9 14, w ∈ wsX11_now := by decide +kernel
theorem lk_X11_now_19 : Cond.fieldLink RX11 19 "CuckooShares" "valley" "LCuckooShares$Valley;" ∈ wsX11_now := by decide +kernel
theorem lk_X11_now_38 : Cond.fieldLink RX11 38 "CuckooShares" "days" "LCuckooShares$Days;" ∈ wsX11_now := by decide +kernel
theorem lk_X11_now_69 : Cond.fieldLink RX11 69 "CuckooShares" "acts" "LCuckooShares$Acts;" ∈ wsX11_now := by decide +kernel
abbrev L_X11_now : List Rc := []
abbrev LL_X11_now : List Rc := []
def P_X11_now (σ0 : Nat → Nat → Int32) (τ0 : Nat → Nat → Int64) (a1 : Int32) (r : Int32) (σ : Nat → Nat → Int32) (τ : Nat → Nat → Int64) : Prop := Rg σ ∧ Fr L_X11_now σ0 σ ∧ FrL LL_X11_now τ0 τ
set_option maxHeartbeats 4000000 in
theorem c_X11_now (l : Launch) (D : va_G) (cA : Nat → ClassId) (ad : Nat → Nat) (hI : Inj ad) (σ0 : Nat → Nat → Int32) (τ0 : Nat → Nat → Int64) (hR : Rg σ0) (a1 : Int32)  : Met l yX11_now wsX11_now ({ frames := 2, cells := 0, slots := 0, locals := 45 } : Room) (WQc D cA ad [.ref (ad 0), .int a1] σ0 τ0) (va_Qi (fun (r : Int32) (u : SS) => P_X11_now σ0 τ0 a1 r u.1 u.2) (WB D cA ad) (AA ad)) 0 0 (AA ad) := by
  refine Met.ofW (cc := cX11_now) (maxL := 2) (ret := (some .int)) (by decide) rfl ?_
  intro p e s m args below meth c s₁ B hml hv
  obtain ⟨rfl, hP, hK, hN⟩ := hv
  have C : Cy p s m _ meth c cX11_now 2 wsX11_now RX11 D cA ad (some .int) := ⟨B.exec, B.bytes, hml, findClass_of_methodNamed B.named, atoms_spec (ws := wsX11_now) B.pre, hK, B.notSynchronized, B.returns, hI, hN⟩
  have hl := lv_entry ([.ref (ad 0), .int a1]) (n := 2) (Nat.le_of_ble_eq_true rfl)
  rw [lg_entry_eq]
  generalize (lg_sl ([.ref (ad 0), .int a1]) ++ List.replicate (2 - (lg_sl ([.ref (ad 0), .int a1])).length) Slot.unset).toArray = ls at hl ⊢
  have hl : lv_has ls 2 [(0, .ref (ad 0)), (1, .int a1)] := hl
  have hS : va_S (AA ad) s.heap s.heap [] := va_S.rf
  have hF : Fr L_X11_now σ0 σ0 := Fr.rf
  have hFL : FrL LL_X11_now τ0 τ0 := FrL.rf
  obtain ⟨hx, hb, _, hown, hts, _, hk, hr, _, _⟩ := C
  refine lv_iload_n hx hb dX11_now_0 rfl (lv_at hl 1 rfl) ?_
  by_cases c1 : a1.toInt = 0
  · refine lv_tableIn (off := 43) (tgt := 44) hx hb dX11_now_1 (by omega) (by omega) (by rw [c1]; rfl) (by decide) ?_
    refine lv_aload_n hx hb dX11_now_44 rfl (lv_at hl 0 rfl) ?_
    refine fg_11_4 (k := 0) hx hb hts in_X11_now_11 hown hK hP (by decide) (by decide) (hts _ lk_X11_now_38) dX11_now_45 ?_
    refine fgN_2_0 (k := 7) hx hb hts in_X11_now_2 hown hK hP (by decide) (by decide) (hN.use nw_11_214) dX11_now_48 ?_
    exact r_iret hx hb hr hK hP hS hk dX11_now_51 (show P_X11_now σ0 τ0 a1 (σ0 7 0) σ0 τ0 from ⟨hR, hF, hFL⟩)
  by_cases c2 : a1.toInt = 1
  · refine lv_tableIn (off := 51) (tgt := 52) hx hb dX11_now_1 (by omega) (by omega) (by rw [c2]; rfl) (by decide) ?_
    refine lv_aload_n hx hb dX11_now_52 rfl (lv_at hl 0 rfl) ?_
    refine fg_11_4 (k := 0) hx hb hts in_X11_now_11 hown hK hP (by decide) (by decide) (hts _ lk_X11_now_38) dX11_now_53 ?_
    refine fgN_2_1 (k := 7) hx hb hts in_X11_now_2 hown hK hP (by decide) (by decide) (hN.use nw_11_217) dX11_now_56 ?_
    exact r_iret hx hb hr hK hP hS hk dX11_now_59 (show P_X11_now σ0 τ0 a1 (σ0 7 1) σ0 τ0 from ⟨hR, hF, hFL⟩)
  by_cases c3 : a1.toInt = 2
  · refine lv_tableIn (off := 59) (tgt := 60) hx hb dX11_now_1 (by omega) (by omega) (by rw [c3]; rfl) (by decide) ?_
    refine lv_aload_n hx hb dX11_now_60 rfl (lv_at hl 0 rfl) ?_
    refine fg_11_4 (k := 0) hx hb hts in_X11_now_11 hown hK hP (by decide) (by decide) (hts _ lk_X11_now_38) dX11_now_61 ?_
    refine fgN_2_2 (k := 7) hx hb hts in_X11_now_2 hown hK hP (by decide) (by decide) (hN.use nw_11_219) dX11_now_64 ?_
    exact r_iret hx hb hr hK hP hS hk dX11_now_67 (show P_X11_now σ0 τ0 a1 (σ0 7 2) σ0 τ0 from ⟨hR, hF, hFL⟩)
  by_cases c4 : a1.toInt = 3
  · refine lv_tableIn (off := 67) (tgt := 68) hx hb dX11_now_1 (by omega) (by omega) (by rw [c4]; rfl) (by decide) ?_
    refine lv_aload_n hx hb dX11_now_68 rfl (lv_at hl 0 rfl) ?_
    refine fg_11_9 (k := 0) hx hb hts in_X11_now_11 hown hK hP (by decide) (by decide) (hts _ lk_X11_now_69) dX11_now_69 ?_
    refine lv_aload_n hx hb dX11_now_72 rfl (lv_at hl 0 rfl) ?_
    refine fg_11_4 (k := 0) hx hb hts in_X11_now_11 hown hK hP (by decide) (by decide) (hts _ lk_X11_now_38) dX11_now_73 ?_
    refine r_cVi (k := 22) (As := [.ref (ad 7)]) (rest := []) ⟨hx, hb, hml, hown, hts⟩ hK hP hN hS (c_X0_past l D cA ad hI σ0 τ0 hR 7 ⟨by omega, by omega⟩) (cwV 1 hts gX11_now_X0_past rfl rfl rfl (by decide +kernel) ⟨by decide, by decide⟩) (rv_Acts hK hP (by decide) (by decide)) rfl hl.1 rfl (Nat.le_of_ble_eq_true rfl) dX11_now_76 (Nat.zero_le _) (Nat.zero_le _) (fun r5 u5 H5 locs5 hp5 hP hS => ?_)
    obtain ⟨σ5, τ5⟩ := u5
    obtain ⟨hR, f5, fL5, hq5, hp5_0⟩ : P_X0_past σ0 τ0 7 r5 σ5 τ5 := hp5
    have hP : va_P D vwCl (gw cA ad σ5 τ5) H5 := hP
    obtain rfl := FrL.nil fL5
    obtain rfl := Fr.nil f5
    exact r_iret hx hb hr hK hP hS hk dX11_now_79 (show P_X11_now σ0 τ0 a1 r5 σ0 τ0 from ⟨hR, hF, hFL⟩)
  by_cases c6 : a1.toInt = 4
  · refine lv_tableIn (off := 79) (tgt := 80) hx hb dX11_now_1 (by omega) (by omega) (by rw [c6]; rfl) (by decide) ?_
    refine lv_aload_n hx hb dX11_now_80 rfl (lv_at hl 0 rfl) ?_
    refine fg_11_4 (k := 0) hx hb hts in_X11_now_11 hown hK hP (by decide) (by decide) (hts _ lk_X11_now_38) dX11_now_81 ?_
    refine lv_aload_n hx hb dX11_now_84 rfl (lv_at hl 0 rfl) ?_
    refine fg_11_1 (k := 0) hx hb hts in_X11_now_11 hown hK hP (by decide) (by decide) (hts _ lk_X11_now_19) dX11_now_85 ?_
    refine fgN_9_5 (k := 2) hx hb hts in_X11_now_9 hown hK hP (by decide) (by decide) (hN.use nw_11_167) dX11_now_88 ?_
    have hr7 := rg_9_5 hR (k := 2) (by decide) (by decide)
    refine r_cVi (k := 7) (As := [.int (σ0 2 5)]) (rest := []) ⟨hx, hb, hml, hown, hts⟩ hK hP hN hS (c_X2_swornMen l D cA ad hI σ0 τ0 hR (σ0 2 5) (by omega)) (cwV 1 hts gX11_now_X2_swornMen rfl rfl rfl (by decide +kernel) ⟨by decide, by decide⟩) (rv_Days hK hP (by decide) (by decide)) rfl hl.1 rfl (Nat.le_of_ble_eq_true rfl) dX11_now_91 (Nat.zero_le _) (Nat.zero_le _) (fun r8 u8 H8 locs8 hp8 hP hS => ?_)
    obtain ⟨σ8, τ8⟩ := u8
    obtain ⟨hR, f8, fL8⟩ : P_X2_swornMen σ0 τ0 (σ0 2 5) r8 σ8 τ8 := hp8
    have hP : va_P D vwCl (gw cA ad σ8 τ8) H8 := hP
    obtain rfl := FrL.nil fL8
    obtain rfl := Fr.nil f8
    exact r_iret hx hb hr hK hP hS hk dX11_now_94 (show P_X11_now σ0 τ0 a1 r8 σ0 τ0 from ⟨hR, hF, hFL⟩)
  by_cases c9 : a1.toInt = 5
  · refine lv_tableIn (off := 94) (tgt := 95) hx hb dX11_now_1 (by omega) (by omega) (by rw [c9]; rfl) (by decide) ?_
    refine lv_aload_n hx hb dX11_now_95 rfl (lv_at hl 0 rfl) ?_
    refine fg_11_4 (k := 0) hx hb hts in_X11_now_11 hown hK hP (by decide) (by decide) (hts _ lk_X11_now_38) dX11_now_96 ?_
    refine lv_aload_n hx hb dX11_now_99 rfl (lv_at hl 0 rfl) ?_
    refine fg_11_1 (k := 0) hx hb hts in_X11_now_11 hown hK hP (by decide) (by decide) (hts _ lk_X11_now_19) dX11_now_100 ?_
    refine fgN_9_5 (k := 2) hx hb hts in_X11_now_9 hown hK hP (by decide) (by decide) (hN.use nw_11_167) dX11_now_103 ?_
    have hr10 := rg_9_5 hR (k := 2) (by decide) (by decide)
    refine r_cVi (k := 7) (As := [.int (σ0 2 5)]) (rest := []) ⟨hx, hb, hml, hown, hts⟩ hK hP hN hS (c_X2_allCoins l D cA ad hI σ0 τ0 hR (σ0 2 5) (by omega)) (cwV 1 hts gX11_now_X2_allCoins rfl rfl rfl (by decide +kernel) ⟨by decide, by decide⟩) (rv_Days hK hP (by decide) (by decide)) rfl hl.1 rfl (Nat.le_of_ble_eq_true rfl) dX11_now_106 (Nat.zero_le _) (Nat.zero_le _) (fun r11 u11 H11 locs11 hp11 hP hS => ?_)
    obtain ⟨σ11, τ11⟩ := u11
    obtain ⟨hR, f11, fL11⟩ : P_X2_allCoins σ0 τ0 (σ0 2 5) r11 σ11 τ11 := hp11
    have hP : va_P D vwCl (gw cA ad σ11 τ11) H11 := hP
    obtain rfl := FrL.nil fL11
    obtain rfl := Fr.nil f11
    exact r_iret hx hb hr hK hP hS hk dX11_now_109 (show P_X11_now σ0 τ0 a1 r11 σ0 τ0 from ⟨hR, hF, hFL⟩)
  by_cases c12 : a1.toInt = 6
  · refine lv_tableIn (off := 109) (tgt := 110) hx hb dX11_now_1 (by omega) (by omega) (by rw [c12]; rfl) (by decide) ?_
    refine lv_aload_n hx hb dX11_now_110 rfl (lv_at hl 0 rfl) ?_
    refine fg_11_4 (k := 0) hx hb hts in_X11_now_11 hown hK hP (by decide) (by decide) (hts _ lk_X11_now_38) dX11_now_111 ?_
    refine lv_aload_n hx hb dX11_now_114 rfl (lv_at hl 0 rfl) ?_
    refine fg_11_1 (k := 0) hx hb hts in_X11_now_11 hown hK hP (by decide) (by decide) (hts _ lk_X11_now_19) dX11_now_115 ?_
    refine fgN_9_5 (k := 2) hx hb hts in_X11_now_9 hown hK hP (by decide) (by decide) (hN.use nw_11_167) dX11_now_118 ?_
    have hr13 := rg_9_5 hR (k := 2) (by decide) (by decide)
    refine r_cVi (k := 7) (As := [.int (σ0 2 5)]) (rest := []) ⟨hx, hb, hml, hown, hts⟩ hK hP hN hS (c_X2_allStores l D cA ad hI σ0 τ0 hR 7 (σ0 2 5) ⟨by omega, by omega⟩ (by omega)) (cwV 1 hts gX11_now_X2_allStores rfl rfl rfl (by decide +kernel) ⟨by decide, by decide⟩) (rv_Days hK hP (by decide) (by decide)) rfl hl.1 rfl (Nat.le_of_ble_eq_true rfl) dX11_now_121 (Nat.zero_le _) (Nat.zero_le _) (fun r14 u14 H14 locs14 hp14 hP hS => ?_)
    obtain ⟨σ14, τ14⟩ := u14
    obtain ⟨hR, f14, fL14⟩ : P_X2_allStores σ0 τ0 7 (σ0 2 5) r14 σ14 τ14 := hp14
    have hP : va_P D vwCl (gw cA ad σ14 τ14) H14 := hP
    obtain rfl := FrL.nil fL14
    obtain rfl := Fr.nil f14
    exact r_iret hx hb hr hK hP hS hk dX11_now_124 (show P_X11_now σ0 τ0 a1 r14 σ0 τ0 from ⟨hR, hF, hFL⟩)
  refine lv_tableOut (tgt := 125) hx hb dX11_now_1 (by omega) (by decide) ?_
  refine r_iconst hx hb dX11_now_125 (by decide) (fun z15 ez15 => ?_)
  exact r_iret hx hb hr hK hP hS hk dX11_now_126 (show P_X11_now σ0 τ0 a1 z15 σ0 τ0 from ⟨hR, hF, hFL⟩)
theorem in_X11_count_11 : ∀ w ∈ u_ws RX11 TX11 19, w ∈ wsX11_count := by decide +kernel
theorem in_X11_count_8 : ∀ w ∈ u_ws RX8 TX8 15, w ∈ wsX11_count := by decide +kernel
theorem in_X11_count_9 : ∀ w ∈ u_ws RX9 TX9 14, w ∈ wsX11_count := by decide +kernel
theorem lk_X11_count_10 : Cond.fieldLink RX11 10 "CuckooShares" "tape" "LCuckooShares$Tape;" ∈ wsX11_count := by decide +kernel
theorem lk_X11_count_19 : Cond.fieldLink RX11 19 "CuckooShares" "valley" "LCuckooShares$Valley;" ∈ wsX11_count := by decide +kernel
abbrev L_X11_count : List Rc := []
abbrev LL_X11_count : List Rc := []
def P_X11_count (σ0 : Nat → Nat → Int32) (τ0 : Nat → Nat → Int64) (a1 : Int32) (h : Nat → Int) (r : Int32) (σ : Nat → Nat → Int32) (τ : Nat → Nat → Int64) : Prop := Rg σ ∧ Fr L_X11_count σ0 σ ∧ FrL LL_X11_count τ0 τ ∧ (r.toInt = coH h (σ0 1 5).toInt a1.toInt)
set_option maxHeartbeats 4000000 in
theorem c_X11_count (l : Launch) (D : va_G) (cA : Nat → ClassId) (ad : Nat → Nat) (hI : Inj ad) (σ0 : Nat → Nat → Int32) (τ0 : Nat → Nat → Int64) (hR : Rg σ0) (a1 : Int32) (h : Nat → Int) (hpre0 : CV σ0 2 h) (hpre1 : ∀ f : Nat, f < 4 → 0 ≤ h (79 + f) ∧ h (79 + f) ≤ 9) : Met l yX11_count wsX11_count ({ frames := 1, cells := 0, slots := 0, locals := 22 } : Room) (WQc D cA ad [.ref (ad 0), .int a1] σ0 τ0) (va_Qi (fun (r : Int32) (u : SS) => P_X11_count σ0 τ0 a1 h r u.1 u.2) (WB D cA ad) (AA ad)) 0 0 (AA ad) := by
  refine Met.ofW (cc := cX11_count) (maxL := 2) (ret := (some .int)) (by decide) rfl ?_
  intro p e s m args below meth c s₁ B hml hv
  obtain ⟨rfl, hP, hK, hN⟩ := hv
  have C : Cy p s m _ meth c cX11_count 2 wsX11_count RX11 D cA ad (some .int) := ⟨B.exec, B.bytes, hml, findClass_of_methodNamed B.named, atoms_spec (ws := wsX11_count) B.pre, hK, B.notSynchronized, B.returns, hI, hN⟩
  have hl := lv_entry ([.ref (ad 0), .int a1]) (n := 2) (Nat.le_of_ble_eq_true rfl)
  rw [lg_entry_eq]
  generalize (lg_sl ([.ref (ad 0), .int a1]) ++ List.replicate (2 - (lg_sl ([.ref (ad 0), .int a1])).length) Slot.unset).toArray = ls at hl ⊢
  have hl : lv_has ls 2 [(0, .ref (ad 0)), (1, .int a1)] := hl
  have hS : va_S (AA ad) s.heap s.heap [] := va_S.rf
  have hF : Fr L_X11_count σ0 σ0 := Fr.rf
  have hFL : FrL LL_X11_count τ0 τ0 := FrL.rf
  obtain ⟨hx, hb, _, hown, hts, _, hk, hr, _, _⟩ := C
  refine lv_iload_n hx hb dX11_count_0 rfl (lv_at hl 1 rfl) ?_
  by_cases c1 : a1.toInt = 0
  · refine lv_tableIn (off := 39) (tgt := 40) hx hb dX11_count_1 (by omega) (by omega) (by rw [c1]; rfl) (by decide) ?_
    refine lv_aload_n hx hb dX11_count_40 rfl (lv_at hl 0 rfl) ?_
    refine fg_11_1 (k := 0) hx hb hts in_X11_count_11 hown hK hP (by decide) (by decide) (hts _ lk_X11_count_19) dX11_count_41 ?_
    refine fgN_9_4 (k := 2) hx hb hts in_X11_count_9 hown hK hP (by decide) (by decide) (hN.use nw_11_235) dX11_count_44 ?_
    have hr2 := rg_9_4 hR (k := 2) (by decide) (by decide)
    exact r_iret hx hb hr hK hP hS hk dX11_count_47 (show P_X11_count σ0 τ0 a1 h (σ0 2 4) σ0 τ0 from ⟨hR, hF, hFL, coH_of (by have hg := hpre0.1; omega)⟩)
  by_cases c3 : a1.toInt = 1
  · refine lv_tableIn (off := 47) (tgt := 48) hx hb dX11_count_1 (by omega) (by omega) (by rw [c3]; rfl) (by decide) ?_
    refine lv_aload_n hx hb dX11_count_48 rfl (lv_at hl 0 rfl) ?_
    refine fg_11_1 (k := 0) hx hb hts in_X11_count_11 hown hK hP (by decide) (by decide) (hts _ lk_X11_count_19) dX11_count_49 ?_
    refine fgN_9_5 (k := 2) hx hb hts in_X11_count_9 hown hK hP (by decide) (by decide) (hN.use nw_11_167) dX11_count_52 ?_
    have hr4 := rg_9_5 hR (k := 2) (by decide) (by decide)
    exact r_iret hx hb hr hK hP hS hk dX11_count_55 (show P_X11_count σ0 τ0 a1 h (σ0 2 5) σ0 τ0 from ⟨hR, hF, hFL, coH_of (by have hg := hpre0.1; omega)⟩)
  by_cases c5 : a1.toInt = 2
  · refine lv_tableIn (off := 55) (tgt := 56) hx hb dX11_count_1 (by omega) (by omega) (by rw [c5]; rfl) (by decide) ?_
    refine lv_aload_n hx hb dX11_count_56 rfl (lv_at hl 0 rfl) ?_
    refine fg_11_1 (k := 0) hx hb hts in_X11_count_11 hown hK hP (by decide) (by decide) (hts _ lk_X11_count_19) dX11_count_57 ?_
    refine fgN_9_6 (k := 2) hx hb hts in_X11_count_9 hown hK hP (by decide) (by decide) (hN.use nw_11_238) dX11_count_60 ?_
    have hr6 := rg_9_6 hR (k := 2) (by decide) (by decide)
    exact r_iret hx hb hr hK hP hS hk dX11_count_63 (show P_X11_count σ0 τ0 a1 h (σ0 2 6) σ0 τ0 from ⟨hR, hF, hFL, coH_of (by have hg := hpre0.1; omega)⟩)
  by_cases c7 : a1.toInt = 3
  · refine lv_tableIn (off := 63) (tgt := 64) hx hb dX11_count_1 (by omega) (by omega) (by rw [c7]; rfl) (by decide) ?_
    refine lv_aload_n hx hb dX11_count_64 rfl (lv_at hl 0 rfl) ?_
    refine fg_11_1 (k := 0) hx hb hts in_X11_count_11 hown hK hP (by decide) (by decide) (hts _ lk_X11_count_19) dX11_count_65 ?_
    refine r_cVi (k := 2) (As := []) (rest := []) ⟨hx, hb, hml, hown, hts⟩ hK hP hN hS (c_X9_chances_c l D cA ad hI σ0 τ0 hR h hpre0 hpre1) (cwV 0 hts gX11_count_X9_chances rfl rfl rfl (by decide +kernel) ⟨by decide, by decide⟩) (rv_Valley hK hP (by decide) (by decide)) rfl hl.1 rfl (Nat.le_of_ble_eq_true rfl) dX11_count_68 (Nat.zero_le _) (Nat.zero_le _) (fun r8 u8 H8 locs8 hp8 hP hS => ?_)
    obtain ⟨σ8, τ8⟩ := u8
    obtain ⟨hR, f8, fL8, hq8, hp8_0⟩ : P_X9_chances_c σ0 τ0 h r8 σ8 τ8 := hp8
    have hP : va_P D vwCl (gw cA ad σ8 τ8) H8 := hP
    obtain rfl := FrL.nil fL8
    obtain rfl := Fr.nil f8
    exact r_iret hx hb hr hK hP hS hk dX11_count_71 (show P_X11_count σ0 τ0 a1 h r8 σ0 τ0 from ⟨hR, hF, hFL, coH_of (by have hg := hpre0.1; omega)⟩)
  by_cases c9 : a1.toInt = 4
  · refine lv_tableIn (off := 71) (tgt := 72) hx hb dX11_count_1 (by omega) (by omega) (by rw [c9]; rfl) (by decide) ?_
    refine lv_aload_n hx hb dX11_count_72 rfl (lv_at hl 0 rfl) ?_
    refine fg_11_1 (k := 0) hx hb hts in_X11_count_11 hown hK hP (by decide) (by decide) (hts _ lk_X11_count_19) dX11_count_73 ?_
    refine fgN_9_1 (k := 2) hx hb hts in_X11_count_9 hown hK hP (by decide) (by decide) (hN.use nw_11_245) dX11_count_76 ?_
    exact r_iret hx hb hr hK hP hS hk dX11_count_79 (show P_X11_count σ0 τ0 a1 h (σ0 2 1) σ0 τ0 from ⟨hR, hF, hFL, coH_of (by have hg := hpre0.1; omega)⟩)
  by_cases c10 : a1.toInt = 5
  · refine lv_tableIn (off := 79) (tgt := 80) hx hb dX11_count_1 (by omega) (by omega) (by rw [c10]; rfl) (by decide) ?_
    refine lv_aload_n hx hb dX11_count_80 rfl (lv_at hl 0 rfl) ?_
    refine fg_11_0 (k := 0) hx hb hts in_X11_count_11 hown hK hP (by decide) (by decide) (hts _ lk_X11_count_10) dX11_count_81 ?_
    refine fgN_8_5 (k := 1) hx hb hts in_X11_count_8 hown hK hP (by decide) (by decide) (hN.use nw_11_115) dX11_count_84 ?_
    have hr11 := rg_8_5 hR (k := 1) (by decide) (by decide)
    exact r_iret hx hb hr hK hP hS hk dX11_count_87 (show P_X11_count σ0 τ0 a1 h (σ0 1 5) σ0 τ0 from ⟨hR, hF, hFL, coH_of (by have hg := hpre0.1; omega)⟩)
  refine lv_tableOut (tgt := 88) hx hb dX11_count_1 (by omega) (by decide) ?_
  refine r_iconst hx hb dX11_count_88 (by decide) (fun z12 ez12 => ?_)
  exact r_iret hx hb hr hK hP hS hk dX11_count_89 (show P_X11_count σ0 τ0 a1 h z12 σ0 τ0 from ⟨hR, hF, hFL, coH_of (by have hg := hpre0.1; omega)⟩)
theorem in_X11_keptIfDone_11 : ∀ w ∈ u_ws RX11 TX11 19, w ∈ wsX11_keptIfDone := by decide +kernel
theorem lk_X11_keptIfDone_42 : Cond.fieldLink RX11 42 "CuckooShares" "before" "LCuckooShares$Days;" ∈ wsX11_keptIfDone := by decide +kernel
theorem lk_X11_keptIfDone_51 : Cond.fieldLink RX11 51 "CuckooShares" "history" "LCuckooShares$History;" ∈ wsX11_keptIfDone := by decide +kernel
abbrev L_X11_keptIfDone : List Rc := [(20, 20, 1, 2), (7, 19, 0, 2), (308, 320, 0, 8), (321, 333, 0, 8), (334, 346, 0, 8), (347, 359, 0, 8)]
abbrev LL_X11_keptIfDone : List Rc := []
def P_X11_keptIfDone (σ0 : Nat → Nat → Int32) (τ0 : Nat → Nat → Int64) (a1 : Int32) (r : Int32) (σ : Nat → Nat → Int32) (τ : Nat → Nat → Int64) : Prop := Rg σ ∧ Fr L_X11_keptIfDone σ0 σ ∧ FrL LL_X11_keptIfDone τ0 τ ∧ (0 ≤ r.toInt ∧ r.toInt ≤ 4)
set_option maxHeartbeats 4000000 in
theorem c_X11_keptIfDone (l : Launch) (D : va_G) (cA : Nat → ClassId) (ad : Nat → Nat) (hI : Inj ad) (σ0 : Nat → Nat → Int32) (τ0 : Nat → Nat → Int64) (hR : Rg σ0) (a1 : Int32) (ha1 : 0 ≤ a1.toInt ∧ a1.toInt ≤ 4) : Met l yX11_keptIfDone wsX11_keptIfDone ({ frames := 3, cells := 0, slots := 0, locals := 102 } : Room) (WQc D cA ad [.ref (ad 0), .int a1] σ0 τ0) (va_Qi (fun (r : Int32) (u : SS) => P_X11_keptIfDone σ0 τ0 a1 r u.1 u.2) (WB D cA ad) (AA ad)) 0 0 (AA ad) := by
  refine Met.ofW (cc := cX11_keptIfDone) (maxL := 2) (ret := (some .int)) (by decide) rfl ?_
  intro p e s m args below meth c s₁ B hml hv
  obtain ⟨rfl, hP, hK, hN⟩ := hv
  have C : Cy p s m _ meth c cX11_keptIfDone 2 wsX11_keptIfDone RX11 D cA ad (some .int) := ⟨B.exec, B.bytes, hml, findClass_of_methodNamed B.named, atoms_spec (ws := wsX11_keptIfDone) B.pre, hK, B.notSynchronized, B.returns, hI, hN⟩
  have hl := lv_entry ([.ref (ad 0), .int a1]) (n := 2) (Nat.le_of_ble_eq_true rfl)
  rw [lg_entry_eq]
  generalize (lg_sl ([.ref (ad 0), .int a1]) ++ List.replicate (2 - (lg_sl ([.ref (ad 0), .int a1])).length) Slot.unset).toArray = ls at hl ⊢
  have hl : lv_has ls 2 [(0, .ref (ad 0)), (1, .int a1)] := hl
  have hS : va_S (AA ad) s.heap s.heap [] := va_S.rf
  have hF : Fr L_X11_keptIfDone σ0 σ0 := Fr.rf
  have hFL : FrL LL_X11_keptIfDone τ0 τ0 := FrL.rf
  obtain ⟨hx, hb, _, hown, hts, _, hk, hr, _, _⟩ := C
  refine lv_iload_n hx hb dX11_keptIfDone_0 rfl (lv_at hl 1 rfl) ?_
  refine r_if_ne (tgt := 15) hx hb dX11_keptIfDone_1 (by decide) (fun c1 => ?_) (fun c1 => ?_)
  · refine lv_iload_n hx hb dX11_keptIfDone_15 rfl (lv_at hl 1 rfl) ?_
    exact r_iret hx hb hr hK hP hS hk dX11_keptIfDone_16 (show P_X11_keptIfDone σ0 τ0 a1 a1 σ0 τ0 from ⟨hR, hF, hFL, by omega⟩)
  · refine lv_aload_n hx hb dX11_keptIfDone_4 rfl (lv_at hl 0 rfl) ?_
    refine fg_11_7 (k := 0) hx hb hts in_X11_keptIfDone_11 hown hK hP (by decide) (by decide) (hts _ lk_X11_keptIfDone_51) dX11_keptIfDone_5 ?_
    refine lv_aload_n hx hb dX11_keptIfDone_8 rfl (lv_at hl 0 rfl) ?_
    refine fg_11_5 (k := 0) hx hb hts in_X11_keptIfDone_11 hown hK hP (by decide) (by decide) (hts _ lk_X11_keptIfDone_42) dX11_keptIfDone_9 ?_
    refine r_cVv (k := 20) (As := [.ref (ad 8)]) (rest := []) ⟨hx, hb, hml, hown, hts⟩ hK hP hN hS (c_X3_push l D cA ad hI σ0 τ0 hR 8 ⟨by omega, by omega⟩) (cwV 1 hts gX11_keptIfDone_X3_push rfl rfl rfl (by decide +kernel) ⟨by decide, by decide⟩) (rv_Hist hK hP (by decide) (by decide)) rfl hl.1 rfl (Nat.le_of_ble_eq_true rfl) dX11_keptIfDone_12 (Nat.zero_le _) (Nat.zero_le _) (fun u2 H2 locs2 hp2 hP hS => ?_)
    obtain ⟨σ2, τ2⟩ := u2
    obtain ⟨hR, f2, fL2⟩ : P_X3_push σ0 τ0 8 σ2 τ2 := hp2
    have hP : va_P D vwCl (gw cA ad σ2 τ2) H2 := hP
    obtain rfl := FrL.nil fL2
    have hF := hF.step f2 (by decide)
    refine lv_iload_n hx hb dX11_keptIfDone_15 rfl (lv_at hl 1 rfl) ?_
    exact r_iret hx hb hr hK hP hS hk dX11_keptIfDone_16 (show P_X11_keptIfDone σ0 τ0 a1 a1 σ2 τ0 from ⟨hR, hF, hFL, by omega⟩)
theorem in_X11_comes_11 : ∀ w ∈ u_ws RX11 TX11 19, w ∈ wsX11_comes := by decide +kernel
theorem lk_X11_comes_19 : Cond.fieldLink RX11 19 "CuckooShares" "valley" "LCuckooShares$Valley;" ∈ wsX11_comes := by decide +kernel
theorem lk_X11_comes_38 : Cond.fieldLink RX11 38 "CuckooShares" "days" "LCuckooShares$Days;" ∈ wsX11_comes := by decide +kernel
theorem lk_X11_comes_42 : Cond.fieldLink RX11 42 "CuckooShares" "before" "LCuckooShares$Days;" ∈ wsX11_comes := by decide +kernel
theorem lk_X11_comes_69 : Cond.fieldLink RX11 69 "CuckooShares" "acts" "LCuckooShares$Acts;" ∈ wsX11_comes := by decide +kernel
abbrev L_X11_comes : List Rc := [(20, 20, 1, 2), (7, 19, 0, 2), (308, 320, 0, 8), (321, 333, 0, 8), (334, 346, 0, 8), (347, 359, 0, 8)]
abbrev LL_X11_comes : List Rc := []
def P_X11_comes (σ0 : Nat → Nat → Int32) (τ0 : Nat → Nat → Int64) (a1 : Int32) (r : Int32) (σ : Nat → Nat → Int32) (τ : Nat → Nat → Int64) : Prop := Rg σ ∧ Fr L_X11_comes σ0 σ ∧ FrL LL_X11_comes τ0 τ ∧ (-1 ≤ r.toInt ∧ r.toInt ≤ 4)
set_option maxHeartbeats 4000000 in
theorem c_X11_comes (l : Launch) (D : va_G) (cA : Nat → ClassId) (ad : Nat → Nat) (hI : Inj ad) (σ0 : Nat → Nat → Int32) (τ0 : Nat → Nat → Int64) (hR : Rg σ0) (a1 : Int32)  : Met l yX11_comes wsX11_comes ({ frames := 4, cells := 0, slots := 0, locals := 123 } : Room) (WQc D cA ad [.ref (ad 0), .int a1] σ0 τ0) (va_Qi (fun (r : Int32) (u : SS) => P_X11_comes σ0 τ0 a1 r u.1 u.2) (WB D cA ad) (AA ad)) 0 0 (AA ad) := by
  refine Met.ofW (cc := cX11_comes) (maxL := 2) (ret := (some .int)) (by decide) rfl ?_
  intro p e s m args below meth c s₁ B hml hv
  obtain ⟨rfl, hP, hK, hN⟩ := hv
  have C : Cy p s m _ meth c cX11_comes 2 wsX11_comes RX11 D cA ad (some .int) := ⟨B.exec, B.bytes, hml, findClass_of_methodNamed B.named, atoms_spec (ws := wsX11_comes) B.pre, hK, B.notSynchronized, B.returns, hI, hN⟩
  have hl := lv_entry ([.ref (ad 0), .int a1]) (n := 2) (Nat.le_of_ble_eq_true rfl)
  rw [lg_entry_eq]
  generalize (lg_sl ([.ref (ad 0), .int a1]) ++ List.replicate (2 - (lg_sl ([.ref (ad 0), .int a1])).length) Slot.unset).toArray = ls at hl ⊢
  have hl : lv_has ls 2 [(0, .ref (ad 0)), (1, .int a1)] := hl
  have hS : va_S (AA ad) s.heap s.heap [] := va_S.rf
  have hF : Fr L_X11_comes σ0 σ0 := Fr.rf
  have hFL : FrL LL_X11_comes τ0 τ0 := FrL.rf
  obtain ⟨hx, hb, _, hown, hts, _, hk, hr, _, _⟩ := C
  refine lv_aload_n hx hb dX11_comes_0 rfl (lv_at hl 0 rfl) ?_
  refine fg_11_1 (k := 0) hx hb hts in_X11_comes_11 hown hK hP (by decide) (by decide) (hts _ lk_X11_comes_19) dX11_comes_1 ?_
  refine lv_iload_n hx hb dX11_comes_4 rfl (lv_at hl 1 rfl) ?_
  refine r_cVi (k := 2) (As := [.int a1]) (rest := []) ⟨hx, hb, hml, hown, hts⟩ hK hP hN hS (c_X9_hasFlight l D cA ad hI σ0 τ0 hR 2 a1 ⟨by omega, by omega⟩) (cwV 1 hts gX11_comes_X9_hasFlight rfl rfl rfl (by decide +kernel) ⟨by decide, by decide⟩) (rv_Valley hK hP (by decide) (by decide)) rfl hl.1 rfl (Nat.le_of_ble_eq_true rfl) dX11_comes_5 (Nat.zero_le _) (Nat.zero_le _) (fun r1 u1 H1 locs1 hp1 hP hS => ?_)
  obtain ⟨σ1, τ1⟩ := u1
  obtain ⟨hR, f1, fL1, hq1, hp1_0, hp1_1⟩ : P_X9_hasFlight σ0 τ0 2 a1 r1 σ1 τ1 := hp1
  have hP : va_P D vwCl (gw cA ad σ1 τ1) H1 := hP
  obtain rfl := FrL.nil fL1
  obtain rfl := Fr.nil f1
  refine r_if_ne (tgt := 13) hx hb dX11_comes_8 (by decide) (fun c2 => ?_) (fun c2 => ?_)
  · refine lv_aload_n hx hb dX11_comes_13 rfl (lv_at hl 0 rfl) ?_
    refine fg_11_5 (k := 0) hx hb hts in_X11_comes_11 hown hK hP (by decide) (by decide) (hts _ lk_X11_comes_42) dX11_comes_14 ?_
    refine lv_aload_n hx hb dX11_comes_17 rfl (lv_at hl 0 rfl) ?_
    refine fg_11_4 (k := 0) hx hb hts in_X11_comes_11 hown hK hP (by decide) (by decide) (hts _ lk_X11_comes_38) dX11_comes_18 ?_
    refine r_cVv (k := 8) (As := [.ref (ad 7)]) (rest := []) ⟨hx, hb, hml, hown, hts⟩ hK hP hN hS (c_X2_copyFrom l D cA ad hI σ0 τ0 hR 8 7 ⟨by omega, by omega⟩ ⟨by omega, by omega⟩) (cwV 1 hts gX11_comes_X2_copyFrom rfl rfl rfl (by decide +kernel) ⟨by decide, by decide⟩) (rv_Days hK hP (by decide) (by decide)) rfl hl.1 rfl (Nat.le_of_ble_eq_true rfl) dX11_comes_21 (Nat.zero_le _) (Nat.zero_le _) (fun u3 H3 locs3 hp3 hP hS => ?_)
    obtain ⟨σ3, τ3⟩ := u3
    obtain ⟨hR, f3, fL3⟩ : P_X2_copyFrom σ0 τ0 8 7 σ3 τ3 := hp3
    have hP : va_P D vwCl (gw cA ad σ3 τ3) H3 := hP
    obtain rfl := FrL.nil fL3
    have hF := hF.step f3 (by decide)
    refine lv_aload_n hx hb dX11_comes_24 rfl (lv_at hl 0 rfl) ?_
    refine lv_aload_n hx hb dX11_comes_25 rfl (lv_at hl 0 rfl) ?_
    refine fg_11_9 (k := 0) hx hb hts in_X11_comes_11 hown hK hP (by decide) (by decide) (hts _ lk_X11_comes_69) dX11_comes_26 ?_
    refine lv_aload_n hx hb dX11_comes_29 rfl (lv_at hl 0 rfl) ?_
    refine fg_11_4 (k := 0) hx hb hts in_X11_comes_11 hown hK hP (by decide) (by decide) (hts _ lk_X11_comes_38) dX11_comes_30 ?_
    refine lv_iload_n hx hb dX11_comes_33 rfl (lv_at hl 1 rfl) ?_
    refine r_cVi (k := 22) (As := [.ref (ad 7), .int a1]) (rest := [.ref (ad 0)]) ⟨hx, hb, hml, hown, hts⟩ hK hP hN hS (c_X0_arrive l D cA ad hI σ3 τ0 hR 7 a1 ⟨by omega, by omega⟩ (by omega)) (cwV 2 hts gX11_comes_X0_arrive rfl rfl rfl (by decide +kernel) ⟨by decide, by decide⟩) (rv_Acts hK hP (by decide) (by decide)) rfl hl.1 rfl (Nat.le_of_ble_eq_true rfl) dX11_comes_34 (Nat.zero_le _) (Nat.zero_le _) (fun r4 u4 H4 locs4 hp4 hP hS => ?_)
    obtain ⟨σ4, τ4⟩ := u4
    obtain ⟨hR, f4, fL4, hq4⟩ : P_X0_arrive σ3 τ0 7 a1 r4 σ4 τ4 := hp4
    have hP : va_P D vwCl (gw cA ad σ4 τ4) H4 := hP
    obtain rfl := FrL.nil fL4
    have hF := hF.step f4 (by decide)
    refine r_cVi (k := 0) (As := [.int r4]) (rest := []) ⟨hx, hb, hml, hown, hts⟩ hK hP hN hS (c_X11_keptIfDone l D cA ad hI σ4 τ0 hR r4 (by omega)) (cwV 1 hts gX11_comes_X11_keptIfDone rfl rfl rfl (by decide +kernel) ⟨by decide, by decide⟩) (rv_X hK hP (by decide) (by decide)) rfl hl.1 rfl (Nat.le_of_ble_eq_true rfl) dX11_comes_37 (Nat.zero_le _) (Nat.zero_le _) (fun r5 u5 H5 locs5 hp5 hP hS => ?_)
    obtain ⟨σ5, τ5⟩ := u5
    obtain ⟨hR, f5, fL5, hq5⟩ : P_X11_keptIfDone σ4 τ0 r4 r5 σ5 τ5 := hp5
    have hP : va_P D vwCl (gw cA ad σ5 τ5) H5 := hP
    obtain rfl := FrL.nil fL5
    have hF := hF.step f5 (by decide)
    exact r_iret hx hb hr hK hP hS hk dX11_comes_40 (show P_X11_comes σ0 τ0 a1 r5 σ5 τ0 from ⟨hR, hF, hFL, by omega⟩)
  · refine r_iconst hx hb dX11_comes_11 (by decide) (fun z6 ez6 => ?_)
    exact r_iret hx hb hr hK hP hS hk dX11_comes_12 (show P_X11_comes σ0 τ0 a1 z6 σ0 τ0 from ⟨hR, hF, hFL, by omega⟩)
theorem in_X11_hours_11 : ∀ w ∈ u_ws RX11 TX11 19, w ∈ wsX11_hours := by decide +kernel
theorem in_X11_hours_2 : ∀ w ∈ u_ws RX2 TX2 7, w ∈ wsX11_hours := by decide +kernel
theorem lk_X11_hours_38 : Cond.fieldLink RX11 38 "CuckooShares" "days" "LCuckooShares$Days;" ∈ wsX11_hours := by decide +kernel
theorem lk_X11_hours_51 : Cond.fieldLink RX11 51 "CuckooShares" "history" "LCuckooShares$History;" ∈ wsX11_hours := by decide +kernel
theorem lk_X11_hours_69 : Cond.fieldLink RX11 69 "CuckooShares" "acts" "LCuckooShares$Acts;" ∈ wsX11_hours := by decide +kernel
abbrev L_X11_hours : List Rc := [(20, 20, 1, 2), (7, 19, 0, 2), (308, 320, 0, 8), (321, 333, 0, 8), (334, 346, 0, 8), (347, 359, 0, 8)]
abbrev LL_X11_hours : List Rc := []
def P_X11_hours (σ0 : Nat → Nat → Int32) (τ0 : Nat → Nat → Int64) (a1 : Int32) (r : Int32) (σ : Nat → Nat → Int32) (τ : Nat → Nat → Int64) : Prop := Rg σ ∧ Fr L_X11_hours σ0 σ ∧ FrL LL_X11_hours τ0 τ
set_option maxHeartbeats 4000000 in
theorem c_X11_hours (l : Launch) (D : va_G) (cA : Nat → ClassId) (ad : Nat → Nat) (hI : Inj ad) (σ0 : Nat → Nat → Int32) (τ0 : Nat → Nat → Int64) (hR : Rg σ0) (a1 : Int32)  : Met l yX11_hours wsX11_hours ({ frames := 3, cells := 0, slots := 0, locals := 102 } : Room) (WQc D cA ad [.ref (ad 0), .int a1] σ0 τ0) (va_Qi (fun (r : Int32) (u : SS) => P_X11_hours σ0 τ0 a1 r u.1 u.2) (WB D cA ad) (AA ad)) 0 0 (AA ad) := by
  refine Met.ofW (cc := cX11_hours) (maxL := 2) (ret := (some .int)) (by decide) rfl ?_
  intro p e s m args below meth c s₁ B hml hv
  obtain ⟨rfl, hP, hK, hN⟩ := hv
  have C : Cy p s m _ meth c cX11_hours 2 wsX11_hours RX11 D cA ad (some .int) := ⟨B.exec, B.bytes, hml, findClass_of_methodNamed B.named, atoms_spec (ws := wsX11_hours) B.pre, hK, B.notSynchronized, B.returns, hI, hN⟩
  have hl := lv_entry ([.ref (ad 0), .int a1]) (n := 2) (Nat.le_of_ble_eq_true rfl)
  rw [lg_entry_eq]
  generalize (lg_sl ([.ref (ad 0), .int a1]) ++ List.replicate (2 - (lg_sl ([.ref (ad 0), .int a1])).length) Slot.unset).toArray = ls at hl ⊢
  have hl : lv_has ls 2 [(0, .ref (ad 0)), (1, .int a1)] := hl
  have hS : va_S (AA ad) s.heap s.heap [] := va_S.rf
  have hF : Fr L_X11_hours σ0 σ0 := Fr.rf
  have hFL : FrL LL_X11_hours τ0 τ0 := FrL.rf
  obtain ⟨hx, hb, _, hown, hts, _, hk, hr, _, _⟩ := C
  refine lv_iload_n hx hb dX11_hours_0 rfl (lv_at hl 1 rfl) ?_
  refine r_iconst hx hb dX11_hours_1 (by decide) (fun z1 ez1 => ?_)
  refine r_icmp_lt (tgt := 11) hx hb dX11_hours_2 (by decide) (fun c2 => ?_) (fun c2 => ?_)
  · refine r_iconst hx hb dX11_hours_11 (by decide) (fun z3 ez3 => ?_)
    exact r_iret hx hb hr hK hP hS hk dX11_hours_12 (show P_X11_hours σ0 τ0 a1 z3 σ0 τ0 from ⟨hR, hF, hFL⟩)
  · refine lv_iload_n hx hb dX11_hours_5 rfl (lv_at hl 1 rfl) ?_
    refine r_bipush hx hb dX11_hours_6 (by decide) (fun z4 ez4 => ?_)
    refine r_icmp_le (tgt := 13) hx hb dX11_hours_8 (by decide) (fun c5 => ?_) (fun c5 => ?_)
    · refine lv_aload_n hx hb dX11_hours_13 rfl (lv_at hl 0 rfl) ?_
      refine fg_11_7 (k := 0) hx hb hts in_X11_hours_11 hown hK hP (by decide) (by decide) (hts _ lk_X11_hours_51) dX11_hours_14 ?_
      refine lv_aload_n hx hb dX11_hours_17 rfl (lv_at hl 0 rfl) ?_
      refine fg_11_4 (k := 0) hx hb hts in_X11_hours_11 hown hK hP (by decide) (by decide) (hts _ lk_X11_hours_38) dX11_hours_18 ?_
      refine r_cVv (k := 20) (As := [.ref (ad 7)]) (rest := []) ⟨hx, hb, hml, hown, hts⟩ hK hP hN hS (c_X3_push l D cA ad hI σ0 τ0 hR 7 ⟨by omega, by omega⟩) (cwV 1 hts gX11_hours_X3_push rfl rfl rfl (by decide +kernel) ⟨by decide, by decide⟩) (rv_Hist hK hP (by decide) (by decide)) rfl hl.1 rfl (Nat.le_of_ble_eq_true rfl) dX11_hours_21 (Nat.zero_le _) (Nat.zero_le _) (fun u6 H6 locs6 hp6 hP hS => ?_)
      obtain ⟨σ6, τ6⟩ := u6
      obtain ⟨hR, f6, fL6⟩ : P_X3_push σ0 τ0 7 σ6 τ6 := hp6
      have hP : va_P D vwCl (gw cA ad σ6 τ6) H6 := hP
      obtain rfl := FrL.nil fL6
      have hF := hF.step f6 (by decide)
      refine lv_aload_n hx hb dX11_hours_24 rfl (lv_at hl 0 rfl) ?_
      refine fg_11_9 (k := 0) hx hb hts in_X11_hours_11 hown hK hP (by decide) (by decide) (hts _ lk_X11_hours_69) dX11_hours_25 ?_
      refine lv_aload_n hx hb dX11_hours_28 rfl (lv_at hl 0 rfl) ?_
      refine fg_11_4 (k := 0) hx hb hts in_X11_hours_11 hown hK hP (by decide) (by decide) (hts _ lk_X11_hours_38) dX11_hours_29 ?_
      refine lv_iload_n hx hb dX11_hours_32 rfl (lv_at hl 1 rfl) ?_
      refine r_cVv (k := 22) (As := [.ref (ad 7), .int a1]) (rest := []) ⟨hx, hb, hml, hown, hts⟩ hK hP hN hS (c_X0_passHours l D cA ad hI σ6 τ0 hR 7 a1 ⟨by omega, by omega⟩) (cwV 2 hts gX11_hours_X0_passHours rfl rfl rfl (by decide +kernel) ⟨by decide, by decide⟩) (rv_Acts hK hP (by decide) (by decide)) rfl hl.1 rfl (Nat.le_of_ble_eq_true rfl) dX11_hours_33 (Nat.zero_le _) (Nat.zero_le _) (fun u7 H7 locs7 hp7 hP hS => ?_)
      obtain ⟨σ7, τ7⟩ := u7
      obtain ⟨hR, f7, fL7⟩ : P_X0_passHours σ6 τ0 7 a1 σ7 τ7 := hp7
      have hP : va_P D vwCl (gw cA ad σ7 τ7) H7 := hP
      obtain rfl := FrL.nil fL7
      have hF := hF.step f7 (by decide)
      refine lv_aload_n hx hb dX11_hours_36 rfl (lv_at hl 0 rfl) ?_
      refine fg_11_4 (k := 0) hx hb hts in_X11_hours_11 hown hK hP (by decide) (by decide) (hts _ lk_X11_hours_38) dX11_hours_37 ?_
      refine fgN_2_2 (k := 7) hx hb hts in_X11_hours_2 hown hK hP (by decide) (by decide) (hN.use nw_11_219) dX11_hours_40 ?_
      exact r_iret hx hb hr hK hP hS hk dX11_hours_43 (show P_X11_hours σ0 τ0 a1 (σ7 7 2) σ7 τ0 from ⟨hR, hF, hFL⟩)
    · refine r_iconst hx hb dX11_hours_11 (by decide) (fun z8 ez8 => ?_)
      exact r_iret hx hb hr hK hP hS hk dX11_hours_12 (show P_X11_hours σ0 τ0 a1 z8 σ0 τ0 from ⟨hR, hF, hFL⟩)
theorem in_X11_move_11 : ∀ w ∈ u_ws RX11 TX11 19, w ∈ wsX11_move := by decide +kernel
theorem lk_X11_move_19 : Cond.fieldLink RX11 19 "CuckooShares" "valley" "LCuckooShares$Valley;" ∈ wsX11_move := by decide +kernel
theorem lk_X11_move_38 : Cond.fieldLink RX11 38 "CuckooShares" "days" "LCuckooShares$Days;" ∈ wsX11_move := by decide +kernel
theorem lk_X11_move_42 : Cond.fieldLink RX11 42 "CuckooShares" "before" "LCuckooShares$Days;" ∈ wsX11_move := by decide +kernel
theorem lk_X11_move_69 : Cond.fieldLink RX11 69 "CuckooShares" "acts" "LCuckooShares$Acts;" ∈ wsX11_move := by decide +kernel
abbrev L_X11_move : List Rc := [(20, 20, 1, 2), (7, 19, 0, 2), (308, 320, 0, 8), (321, 333, 0, 8), (334, 346, 0, 8), (347, 359, 0, 8)]
abbrev LL_X11_move : List Rc := []
def P_X11_move (σ0 : Nat → Nat → Int32) (τ0 : Nat → Nat → Int64) (a1 : Int32) (a2 : Int32) (r : Int32) (σ : Nat → Nat → Int32) (τ : Nat → Nat → Int64) : Prop := Rg σ ∧ Fr L_X11_move σ0 σ ∧ FrL LL_X11_move τ0 τ ∧ (-1 ≤ r.toInt ∧ r.toInt ≤ 4)
set_option maxHeartbeats 4000000 in
theorem c_X11_move (l : Launch) (D : va_G) (cA : Nat → ClassId) (ad : Nat → Nat) (hI : Inj ad) (σ0 : Nat → Nat → Int32) (τ0 : Nat → Nat → Int64) (hR : Rg σ0) (a1 : Int32) (a2 : Int32)  : Met l yX11_move wsX11_move ({ frames := 4, cells := 0, slots := 0, locals := 123 } : Room) (WQc D cA ad [.ref (ad 0), .int a1, .int a2] σ0 τ0) (va_Qi (fun (r : Int32) (u : SS) => P_X11_move σ0 τ0 a1 a2 r u.1 u.2) (WB D cA ad) (AA ad)) 0 0 (AA ad) := by
  refine Met.ofW (cc := cX11_move) (maxL := 3) (ret := (some .int)) (by decide) rfl ?_
  intro p e s m args below meth c s₁ B hml hv
  obtain ⟨rfl, hP, hK, hN⟩ := hv
  have C : Cy p s m _ meth c cX11_move 3 wsX11_move RX11 D cA ad (some .int) := ⟨B.exec, B.bytes, hml, findClass_of_methodNamed B.named, atoms_spec (ws := wsX11_move) B.pre, hK, B.notSynchronized, B.returns, hI, hN⟩
  have hl := lv_entry ([.ref (ad 0), .int a1, .int a2]) (n := 3) (Nat.le_of_ble_eq_true rfl)
  rw [lg_entry_eq]
  generalize (lg_sl ([.ref (ad 0), .int a1, .int a2]) ++ List.replicate (3 - (lg_sl ([.ref (ad 0), .int a1, .int a2])).length) Slot.unset).toArray = ls at hl ⊢
  have hl : lv_has ls 3 [(0, .ref (ad 0)), (1, .int a1), (2, .int a2)] := hl
  have hS : va_S (AA ad) s.heap s.heap [] := va_S.rf
  have hF : Fr L_X11_move σ0 σ0 := Fr.rf
  have hFL : FrL LL_X11_move τ0 τ0 := FrL.rf
  obtain ⟨hx, hb, _, hown, hts, _, hk, hr, _, _⟩ := C
  refine lv_aload_n hx hb dX11_move_0 rfl (lv_at hl 0 rfl) ?_
  refine fg_11_1 (k := 0) hx hb hts in_X11_move_11 hown hK hP (by decide) (by decide) (hts _ lk_X11_move_19) dX11_move_1 ?_
  refine lv_iload_n hx hb dX11_move_4 rfl (lv_at hl 1 rfl) ?_
  refine r_cVi (k := 2) (As := [.int a1]) (rest := []) ⟨hx, hb, hml, hown, hts⟩ hK hP hN hS (c_X9_hasMan l D cA ad hI σ0 τ0 hR 2 a1 ⟨by omega, by omega⟩) (cwV 1 hts gX11_move_X9_hasMan rfl rfl rfl (by decide +kernel) ⟨by decide, by decide⟩) (rv_Valley hK hP (by decide) (by decide)) rfl hl.1 rfl (Nat.le_of_ble_eq_true rfl) dX11_move_5 (Nat.zero_le _) (Nat.zero_le _) (fun r1 u1 H1 locs1 hp1 hP hS => ?_)
  obtain ⟨σ1, τ1⟩ := u1
  obtain ⟨hR, f1, fL1, hq1, hp1_0⟩ : P_X9_hasMan σ0 τ0 2 a1 r1 σ1 τ1 := hp1
  have hP : va_P D vwCl (gw cA ad σ1 τ1) H1 := hP
  obtain rfl := FrL.nil fL1
  obtain rfl := Fr.nil f1
  refine r_if_eq (tgt := 22) hx hb dX11_move_8 (by decide) (fun c2 => ?_) (fun c2 => ?_)
  · refine r_iconst hx hb dX11_move_22 (by decide) (fun z3 ez3 => ?_)
    exact r_iret hx hb hr hK hP hS hk dX11_move_23 (show P_X11_move σ0 τ0 a1 a2 z3 σ0 τ0 from ⟨hR, hF, hFL, by omega⟩)
  · refine lv_aload_n hx hb dX11_move_11 rfl (lv_at hl 0 rfl) ?_
    refine fg_11_1 (k := 0) hx hb hts in_X11_move_11 hown hK hP (by decide) (by decide) (hts _ lk_X11_move_19) dX11_move_12 ?_
    refine lv_iload_n hx hb dX11_move_15 rfl (lv_at hl 2 rfl) ?_
    refine r_cVi (k := 2) (As := [.int a2]) (rest := []) ⟨hx, hb, hml, hown, hts⟩ hK hP hN hS (c_X9_hasHill l D cA ad hI σ0 τ0 hR 2 a2 ⟨by omega, by omega⟩) (cwV 1 hts gX11_move_X9_hasHill rfl rfl rfl (by decide +kernel) ⟨by decide, by decide⟩) (rv_Valley hK hP (by decide) (by decide)) rfl hl.1 rfl (Nat.le_of_ble_eq_true rfl) dX11_move_16 (Nat.zero_le _) (Nat.zero_le _) (fun r4 u4 H4 locs4 hp4 hP hS => ?_)
    obtain ⟨σ4, τ4⟩ := u4
    obtain ⟨hR, f4, fL4, hq4, hp4_0⟩ : P_X9_hasHill σ0 τ0 2 a2 r4 σ4 τ4 := hp4
    have hP : va_P D vwCl (gw cA ad σ4 τ4) H4 := hP
    obtain rfl := FrL.nil fL4
    obtain rfl := Fr.nil f4
    refine r_if_ne (tgt := 24) hx hb dX11_move_19 (by decide) (fun c5 => ?_) (fun c5 => ?_)
    · refine lv_aload_n hx hb dX11_move_24 rfl (lv_at hl 0 rfl) ?_
      refine fg_11_5 (k := 0) hx hb hts in_X11_move_11 hown hK hP (by decide) (by decide) (hts _ lk_X11_move_42) dX11_move_25 ?_
      refine lv_aload_n hx hb dX11_move_28 rfl (lv_at hl 0 rfl) ?_
      refine fg_11_4 (k := 0) hx hb hts in_X11_move_11 hown hK hP (by decide) (by decide) (hts _ lk_X11_move_38) dX11_move_29 ?_
      refine r_cVv (k := 8) (As := [.ref (ad 7)]) (rest := []) ⟨hx, hb, hml, hown, hts⟩ hK hP hN hS (c_X2_copyFrom l D cA ad hI σ0 τ0 hR 8 7 ⟨by omega, by omega⟩ ⟨by omega, by omega⟩) (cwV 1 hts gX11_move_X2_copyFrom rfl rfl rfl (by decide +kernel) ⟨by decide, by decide⟩) (rv_Days hK hP (by decide) (by decide)) rfl hl.1 rfl (Nat.le_of_ble_eq_true rfl) dX11_move_32 (Nat.zero_le _) (Nat.zero_le _) (fun u6 H6 locs6 hp6 hP hS => ?_)
      obtain ⟨σ6, τ6⟩ := u6
      obtain ⟨hR, f6, fL6⟩ : P_X2_copyFrom σ0 τ0 8 7 σ6 τ6 := hp6
      have hP : va_P D vwCl (gw cA ad σ6 τ6) H6 := hP
      obtain rfl := FrL.nil fL6
      have hF := hF.step f6 (by decide)
      refine lv_aload_n hx hb dX11_move_35 rfl (lv_at hl 0 rfl) ?_
      refine lv_aload_n hx hb dX11_move_36 rfl (lv_at hl 0 rfl) ?_
      refine fg_11_9 (k := 0) hx hb hts in_X11_move_11 hown hK hP (by decide) (by decide) (hts _ lk_X11_move_69) dX11_move_37 ?_
      refine lv_aload_n hx hb dX11_move_40 rfl (lv_at hl 0 rfl) ?_
      refine fg_11_4 (k := 0) hx hb hts in_X11_move_11 hown hK hP (by decide) (by decide) (hts _ lk_X11_move_38) dX11_move_41 ?_
      refine lv_iload_n hx hb dX11_move_44 rfl (lv_at hl 1 rfl) ?_
      refine lv_iload_n hx hb dX11_move_45 rfl (lv_at hl 2 rfl) ?_
      refine r_cVi (k := 22) (As := [.ref (ad 7), .int a1, .int a2]) (rest := [.ref (ad 0)]) ⟨hx, hb, hml, hown, hts⟩ hK hP hN hS (c_X0_walk l D cA ad hI σ6 τ0 hR 7 a1 a2 ⟨by omega, by omega⟩ (by omega)) (cwV 3 hts gX11_move_X0_walk rfl rfl rfl (by decide +kernel) ⟨by decide, by decide⟩) (rv_Acts hK hP (by decide) (by decide)) rfl hl.1 rfl (Nat.le_of_ble_eq_true rfl) dX11_move_46 (Nat.zero_le _) (Nat.zero_le _) (fun r7 u7 H7 locs7 hp7 hP hS => ?_)
      obtain ⟨σ7, τ7⟩ := u7
      obtain ⟨hR, f7, fL7, hq7⟩ : P_X0_walk σ6 τ0 7 a1 a2 r7 σ7 τ7 := hp7
      have hP : va_P D vwCl (gw cA ad σ7 τ7) H7 := hP
      obtain rfl := FrL.nil fL7
      have hF := hF.step f7 (by decide)
      refine r_cVi (k := 0) (As := [.int r7]) (rest := []) ⟨hx, hb, hml, hown, hts⟩ hK hP hN hS (c_X11_keptIfDone l D cA ad hI σ7 τ0 hR r7 (by omega)) (cwV 1 hts gX11_move_X11_keptIfDone rfl rfl rfl (by decide +kernel) ⟨by decide, by decide⟩) (rv_X hK hP (by decide) (by decide)) rfl hl.1 rfl (Nat.le_of_ble_eq_true rfl) dX11_move_49 (Nat.zero_le _) (Nat.zero_le _) (fun r8 u8 H8 locs8 hp8 hP hS => ?_)
      obtain ⟨σ8, τ8⟩ := u8
      obtain ⟨hR, f8, fL8, hq8⟩ : P_X11_keptIfDone σ7 τ0 r7 r8 σ8 τ8 := hp8
      have hP : va_P D vwCl (gw cA ad σ8 τ8) H8 := hP
      obtain rfl := FrL.nil fL8
      have hF := hF.step f8 (by decide)
      exact r_iret hx hb hr hK hP hS hk dX11_move_52 (show P_X11_move σ0 τ0 a1 a2 r8 σ8 τ0 from ⟨hR, hF, hFL, by omega⟩)
    · refine r_iconst hx hb dX11_move_22 (by decide) (fun z9 ez9 => ?_)
      exact r_iret hx hb hr hK hP hS hk dX11_move_23 (show P_X11_move σ0 τ0 a1 a2 z9 σ0 τ0 from ⟨hR, hF, hFL, by omega⟩)
theorem in_X11_swear_11 : ∀ w ∈ u_ws RX11 TX11 19, w ∈ wsX11_swear := by decide +kernel
theorem lk_X11_swear_19 : Cond.fieldLink RX11 19 "CuckooShares" "valley" "LCuckooShares$Valley;" ∈ wsX11_swear := by decide +kernel
theorem lk_X11_swear_38 : Cond.fieldLink RX11 38 "CuckooShares" "days" "LCuckooShares$Days;" ∈ wsX11_swear := by decide +kernel
theorem lk_X11_swear_42 : Cond.fieldLink RX11 42 "CuckooShares" "before" "LCuckooShares$Days;" ∈ wsX11_swear := by decide +kernel
theorem lk_X11_swear_69 : Cond.fieldLink RX11 69 "CuckooShares" "acts" "LCuckooShares$Acts;" ∈ wsX11_swear := by decide +kernel
abbrev L_X11_swear : List Rc := [(20, 20, 1, 2), (7, 19, 0, 2), (308, 320, 0, 8), (321, 333, 0, 8), (334, 346, 0, 8), (347, 359, 0, 8)]
abbrev LL_X11_swear : List Rc := []
def P_X11_swear (σ0 : Nat → Nat → Int32) (τ0 : Nat → Nat → Int64) (a1 : Int32) (a2 : Int32) (r : Int32) (σ : Nat → Nat → Int32) (τ : Nat → Nat → Int64) : Prop := Rg σ ∧ Fr L_X11_swear σ0 σ ∧ FrL LL_X11_swear τ0 τ ∧ (-1 ≤ r.toInt ∧ r.toInt ≤ 4)
set_option maxHeartbeats 4000000 in
theorem c_X11_swear (l : Launch) (D : va_G) (cA : Nat → ClassId) (ad : Nat → Nat) (hI : Inj ad) (σ0 : Nat → Nat → Int32) (τ0 : Nat → Nat → Int64) (hR : Rg σ0) (a1 : Int32) (a2 : Int32)  : Met l yX11_swear wsX11_swear ({ frames := 4, cells := 0, slots := 0, locals := 123 } : Room) (WQc D cA ad [.ref (ad 0), .int a1, .int a2] σ0 τ0) (va_Qi (fun (r : Int32) (u : SS) => P_X11_swear σ0 τ0 a1 a2 r u.1 u.2) (WB D cA ad) (AA ad)) 0 0 (AA ad) := by
  refine Met.ofW (cc := cX11_swear) (maxL := 3) (ret := (some .int)) (by decide) rfl ?_
  intro p e s m args below meth c s₁ B hml hv
  obtain ⟨rfl, hP, hK, hN⟩ := hv
  have C : Cy p s m _ meth c cX11_swear 3 wsX11_swear RX11 D cA ad (some .int) := ⟨B.exec, B.bytes, hml, findClass_of_methodNamed B.named, atoms_spec (ws := wsX11_swear) B.pre, hK, B.notSynchronized, B.returns, hI, hN⟩
  have hl := lv_entry ([.ref (ad 0), .int a1, .int a2]) (n := 3) (Nat.le_of_ble_eq_true rfl)
  rw [lg_entry_eq]
  generalize (lg_sl ([.ref (ad 0), .int a1, .int a2]) ++ List.replicate (3 - (lg_sl ([.ref (ad 0), .int a1, .int a2])).length) Slot.unset).toArray = ls at hl ⊢
  have hl : lv_has ls 3 [(0, .ref (ad 0)), (1, .int a1), (2, .int a2)] := hl
  have hS : va_S (AA ad) s.heap s.heap [] := va_S.rf
  have hF : Fr L_X11_swear σ0 σ0 := Fr.rf
  have hFL : FrL LL_X11_swear τ0 τ0 := FrL.rf
  obtain ⟨hx, hb, _, hown, hts, _, hk, hr, _, _⟩ := C
  refine lv_aload_n hx hb dX11_swear_0 rfl (lv_at hl 0 rfl) ?_
  refine fg_11_1 (k := 0) hx hb hts in_X11_swear_11 hown hK hP (by decide) (by decide) (hts _ lk_X11_swear_19) dX11_swear_1 ?_
  refine lv_iload_n hx hb dX11_swear_4 rfl (lv_at hl 1 rfl) ?_
  refine r_cVi (k := 2) (As := [.int a1]) (rest := []) ⟨hx, hb, hml, hown, hts⟩ hK hP hN hS (c_X9_hasMan l D cA ad hI σ0 τ0 hR 2 a1 ⟨by omega, by omega⟩) (cwV 1 hts gX11_swear_X9_hasMan rfl rfl rfl (by decide +kernel) ⟨by decide, by decide⟩) (rv_Valley hK hP (by decide) (by decide)) rfl hl.1 rfl (Nat.le_of_ble_eq_true rfl) dX11_swear_5 (Nat.zero_le _) (Nat.zero_le _) (fun r1 u1 H1 locs1 hp1 hP hS => ?_)
  obtain ⟨σ1, τ1⟩ := u1
  obtain ⟨hR, f1, fL1, hq1, hp1_0⟩ : P_X9_hasMan σ0 τ0 2 a1 r1 σ1 τ1 := hp1
  have hP : va_P D vwCl (gw cA ad σ1 τ1) H1 := hP
  obtain rfl := FrL.nil fL1
  obtain rfl := Fr.nil f1
  refine r_if_eq (tgt := 21) hx hb dX11_swear_8 (by decide) (fun c2 => ?_) (fun c2 => ?_)
  · refine r_iconst hx hb dX11_swear_21 (by decide) (fun z3 ez3 => ?_)
    exact r_iret hx hb hr hK hP hS hk dX11_swear_22 (show P_X11_swear σ0 τ0 a1 a2 z3 σ0 τ0 from ⟨hR, hF, hFL, by omega⟩)
  · refine lv_iload_n hx hb dX11_swear_11 rfl (lv_at hl 2 rfl) ?_
    refine r_if_lt (tgt := 21) hx hb dX11_swear_12 (by decide) (fun c4 => ?_) (fun c4 => ?_)
    · refine r_iconst hx hb dX11_swear_21 (by decide) (fun z5 ez5 => ?_)
      exact r_iret hx hb hr hK hP hS hk dX11_swear_22 (show P_X11_swear σ0 τ0 a1 a2 z5 σ0 τ0 from ⟨hR, hF, hFL, by omega⟩)
    · refine lv_iload_n hx hb dX11_swear_15 rfl (lv_at hl 2 rfl) ?_
      refine r_bipush hx hb dX11_swear_16 (by decide) (fun z6 ez6 => ?_)
      refine r_icmp_lt (tgt := 23) hx hb dX11_swear_18 (by decide) (fun c7 => ?_) (fun c7 => ?_)
      · refine lv_aload_n hx hb dX11_swear_23 rfl (lv_at hl 0 rfl) ?_
        refine fg_11_5 (k := 0) hx hb hts in_X11_swear_11 hown hK hP (by decide) (by decide) (hts _ lk_X11_swear_42) dX11_swear_24 ?_
        refine lv_aload_n hx hb dX11_swear_27 rfl (lv_at hl 0 rfl) ?_
        refine fg_11_4 (k := 0) hx hb hts in_X11_swear_11 hown hK hP (by decide) (by decide) (hts _ lk_X11_swear_38) dX11_swear_28 ?_
        refine r_cVv (k := 8) (As := [.ref (ad 7)]) (rest := []) ⟨hx, hb, hml, hown, hts⟩ hK hP hN hS (c_X2_copyFrom l D cA ad hI σ0 τ0 hR 8 7 ⟨by omega, by omega⟩ ⟨by omega, by omega⟩) (cwV 1 hts gX11_swear_X2_copyFrom rfl rfl rfl (by decide +kernel) ⟨by decide, by decide⟩) (rv_Days hK hP (by decide) (by decide)) rfl hl.1 rfl (Nat.le_of_ble_eq_true rfl) dX11_swear_31 (Nat.zero_le _) (Nat.zero_le _) (fun u8 H8 locs8 hp8 hP hS => ?_)
        obtain ⟨σ8, τ8⟩ := u8
        obtain ⟨hR, f8, fL8⟩ : P_X2_copyFrom σ0 τ0 8 7 σ8 τ8 := hp8
        have hP : va_P D vwCl (gw cA ad σ8 τ8) H8 := hP
        obtain rfl := FrL.nil fL8
        have hF := hF.step f8 (by decide)
        refine lv_aload_n hx hb dX11_swear_34 rfl (lv_at hl 0 rfl) ?_
        refine lv_aload_n hx hb dX11_swear_35 rfl (lv_at hl 0 rfl) ?_
        refine fg_11_9 (k := 0) hx hb hts in_X11_swear_11 hown hK hP (by decide) (by decide) (hts _ lk_X11_swear_69) dX11_swear_36 ?_
        refine lv_aload_n hx hb dX11_swear_39 rfl (lv_at hl 0 rfl) ?_
        refine fg_11_4 (k := 0) hx hb hts in_X11_swear_11 hown hK hP (by decide) (by decide) (hts _ lk_X11_swear_38) dX11_swear_40 ?_
        refine lv_iload_n hx hb dX11_swear_43 rfl (lv_at hl 1 rfl) ?_
        refine lv_iload_n hx hb dX11_swear_44 rfl (lv_at hl 2 rfl) ?_
        refine r_cVi (k := 22) (As := [.ref (ad 7), .int a1, .int a2]) (rest := [.ref (ad 0)]) ⟨hx, hb, hml, hown, hts⟩ hK hP hN hS (c_X0_takeOath l D cA ad hI σ8 τ0 hR 7 a1 a2 ⟨by omega, by omega⟩ (by omega)) (cwV 3 hts gX11_swear_X0_takeOath rfl rfl rfl (by decide +kernel) ⟨by decide, by decide⟩) (rv_Acts hK hP (by decide) (by decide)) rfl hl.1 rfl (Nat.le_of_ble_eq_true rfl) dX11_swear_45 (Nat.zero_le _) (Nat.zero_le _) (fun r9 u9 H9 locs9 hp9 hP hS => ?_)
        obtain ⟨σ9, τ9⟩ := u9
        obtain ⟨hR, f9, fL9, hq9⟩ : P_X0_takeOath σ8 τ0 7 a1 a2 r9 σ9 τ9 := hp9
        have hP : va_P D vwCl (gw cA ad σ9 τ9) H9 := hP
        obtain rfl := FrL.nil fL9
        have hF := hF.step f9 (by decide)
        refine r_cVi (k := 0) (As := [.int r9]) (rest := []) ⟨hx, hb, hml, hown, hts⟩ hK hP hN hS (c_X11_keptIfDone l D cA ad hI σ9 τ0 hR r9 (by omega)) (cwV 1 hts gX11_swear_X11_keptIfDone rfl rfl rfl (by decide +kernel) ⟨by decide, by decide⟩) (rv_X hK hP (by decide) (by decide)) rfl hl.1 rfl (Nat.le_of_ble_eq_true rfl) dX11_swear_48 (Nat.zero_le _) (Nat.zero_le _) (fun r10 u10 H10 locs10 hp10 hP hS => ?_)
        obtain ⟨σ10, τ10⟩ := u10
        obtain ⟨hR, f10, fL10, hq10⟩ : P_X11_keptIfDone σ9 τ0 r9 r10 σ10 τ10 := hp10
        have hP : va_P D vwCl (gw cA ad σ10 τ10) H10 := hP
        obtain rfl := FrL.nil fL10
        have hF := hF.step f10 (by decide)
        exact r_iret hx hb hr hK hP hS hk dX11_swear_51 (show P_X11_swear σ0 τ0 a1 a2 r10 σ10 τ0 from ⟨hR, hF, hFL, by omega⟩)
      · refine r_iconst hx hb dX11_swear_21 (by decide) (fun z11 ez11 => ?_)
        exact r_iret hx hb hr hK hP hS hk dX11_swear_22 (show P_X11_swear σ0 τ0 a1 a2 z11 σ0 τ0 from ⟨hR, hF, hFL, by omega⟩)
theorem in_X11_accuse_11 : ∀ w ∈ u_ws RX11 TX11 19, w ∈ wsX11_accuse := by decide +kernel
theorem lk_X11_accuse_19 : Cond.fieldLink RX11 19 "CuckooShares" "valley" "LCuckooShares$Valley;" ∈ wsX11_accuse := by decide +kernel
theorem lk_X11_accuse_38 : Cond.fieldLink RX11 38 "CuckooShares" "days" "LCuckooShares$Days;" ∈ wsX11_accuse := by decide +kernel
theorem lk_X11_accuse_42 : Cond.fieldLink RX11 42 "CuckooShares" "before" "LCuckooShares$Days;" ∈ wsX11_accuse := by decide +kernel
theorem lk_X11_accuse_69 : Cond.fieldLink RX11 69 "CuckooShares" "acts" "LCuckooShares$Acts;" ∈ wsX11_accuse := by decide +kernel
abbrev L_X11_accuse : List Rc := [(20, 20, 1, 2), (360, 360, 0, 7), (361, 361, 0, 7), (362, 362, 0, 7), (7, 19, 0, 2), (308, 320, 0, 8), (321, 333, 0, 8), (334, 346, 0, 8), (347, 359, 0, 8)]
abbrev LL_X11_accuse : List Rc := []
def P_X11_accuse (σ0 : Nat → Nat → Int32) (τ0 : Nat → Nat → Int64) (a1 : Int32) (a2 : Int32) (r : Int32) (σ : Nat → Nat → Int32) (τ : Nat → Nat → Int64) : Prop := Rg σ ∧ Fr L_X11_accuse σ0 σ ∧ FrL LL_X11_accuse τ0 τ ∧ (-1 ≤ r.toInt ∧ r.toInt ≤ 4)
set_option maxHeartbeats 4000000 in
theorem c_X11_accuse (l : Launch) (D : va_G) (cA : Nat → ClassId) (ad : Nat → Nat) (hI : Inj ad) (σ0 : Nat → Nat → Int32) (τ0 : Nat → Nat → Int64) (hR : Rg σ0) (a1 : Int32) (a2 : Int32)  : Met l yX11_accuse wsX11_accuse ({ frames := 5, cells := 0, slots := 0, locals := 123 } : Room) (WQc D cA ad [.ref (ad 0), .int a1, .int a2] σ0 τ0) (va_Qi (fun (r : Int32) (u : SS) => P_X11_accuse σ0 τ0 a1 a2 r u.1 u.2) (WB D cA ad) (AA ad)) 0 0 (AA ad) := by
  refine Met.ofW (cc := cX11_accuse) (maxL := 3) (ret := (some .int)) (by decide) rfl ?_
  intro p e s m args below meth c s₁ B hml hv
  obtain ⟨rfl, hP, hK, hN⟩ := hv
  have C : Cy p s m _ meth c cX11_accuse 3 wsX11_accuse RX11 D cA ad (some .int) := ⟨B.exec, B.bytes, hml, findClass_of_methodNamed B.named, atoms_spec (ws := wsX11_accuse) B.pre, hK, B.notSynchronized, B.returns, hI, hN⟩
  have hl := lv_entry ([.ref (ad 0), .int a1, .int a2]) (n := 3) (Nat.le_of_ble_eq_true rfl)
  rw [lg_entry_eq]
  generalize (lg_sl ([.ref (ad 0), .int a1, .int a2]) ++ List.replicate (3 - (lg_sl ([.ref (ad 0), .int a1, .int a2])).length) Slot.unset).toArray = ls at hl ⊢
  have hl : lv_has ls 3 [(0, .ref (ad 0)), (1, .int a1), (2, .int a2)] := hl
  have hS : va_S (AA ad) s.heap s.heap [] := va_S.rf
  have hF : Fr L_X11_accuse σ0 σ0 := Fr.rf
  have hFL : FrL LL_X11_accuse τ0 τ0 := FrL.rf
  obtain ⟨hx, hb, _, hown, hts, _, hk, hr, _, _⟩ := C
  refine lv_aload_n hx hb dX11_accuse_0 rfl (lv_at hl 0 rfl) ?_
  refine fg_11_1 (k := 0) hx hb hts in_X11_accuse_11 hown hK hP (by decide) (by decide) (hts _ lk_X11_accuse_19) dX11_accuse_1 ?_
  refine lv_iload_n hx hb dX11_accuse_4 rfl (lv_at hl 1 rfl) ?_
  refine r_cVi (k := 2) (As := [.int a1]) (rest := []) ⟨hx, hb, hml, hown, hts⟩ hK hP hN hS (c_X9_hasMan l D cA ad hI σ0 τ0 hR 2 a1 ⟨by omega, by omega⟩) (cwV 1 hts gX11_accuse_X9_hasMan rfl rfl rfl (by decide +kernel) ⟨by decide, by decide⟩) (rv_Valley hK hP (by decide) (by decide)) rfl hl.1 rfl (Nat.le_of_ble_eq_true rfl) dX11_accuse_5 (Nat.zero_le _) (Nat.zero_le _) (fun r1 u1 H1 locs1 hp1 hP hS => ?_)
  obtain ⟨σ1, τ1⟩ := u1
  obtain ⟨hR, f1, fL1, hq1, hp1_0⟩ : P_X9_hasMan σ0 τ0 2 a1 r1 σ1 τ1 := hp1
  have hP : va_P D vwCl (gw cA ad σ1 τ1) H1 := hP
  obtain rfl := FrL.nil fL1
  obtain rfl := Fr.nil f1
  refine r_if_eq (tgt := 27) hx hb dX11_accuse_8 (by decide) (fun c2 => ?_) (fun c2 => ?_)
  · refine r_iconst hx hb dX11_accuse_27 (by decide) (fun z3 ez3 => ?_)
    exact r_iret hx hb hr hK hP hS hk dX11_accuse_28 (show P_X11_accuse σ0 τ0 a1 a2 z3 σ0 τ0 from ⟨hR, hF, hFL, by omega⟩)
  · refine lv_aload_n hx hb dX11_accuse_11 rfl (lv_at hl 0 rfl) ?_
    refine fg_11_1 (k := 0) hx hb hts in_X11_accuse_11 hown hK hP (by decide) (by decide) (hts _ lk_X11_accuse_19) dX11_accuse_12 ?_
    refine lv_iload_n hx hb dX11_accuse_15 rfl (lv_at hl 2 rfl) ?_
    refine r_cVi (k := 2) (As := [.int a2]) (rest := []) ⟨hx, hb, hml, hown, hts⟩ hK hP hN hS (c_X9_hasMan l D cA ad hI σ0 τ0 hR 2 a2 ⟨by omega, by omega⟩) (cwV 1 hts gX11_accuse_X9_hasMan rfl rfl rfl (by decide +kernel) ⟨by decide, by decide⟩) (rv_Valley hK hP (by decide) (by decide)) rfl hl.1 rfl (Nat.le_of_ble_eq_true rfl) dX11_accuse_16 (Nat.zero_le _) (Nat.zero_le _) (fun r4 u4 H4 locs4 hp4 hP hS => ?_)
    obtain ⟨σ4, τ4⟩ := u4
    obtain ⟨hR, f4, fL4, hq4, hp4_0⟩ : P_X9_hasMan σ0 τ0 2 a2 r4 σ4 τ4 := hp4
    have hP : va_P D vwCl (gw cA ad σ4 τ4) H4 := hP
    obtain rfl := FrL.nil fL4
    obtain rfl := Fr.nil f4
    refine r_if_eq (tgt := 27) hx hb dX11_accuse_19 (by decide) (fun c5 => ?_) (fun c5 => ?_)
    · refine r_iconst hx hb dX11_accuse_27 (by decide) (fun z6 ez6 => ?_)
      exact r_iret hx hb hr hK hP hS hk dX11_accuse_28 (show P_X11_accuse σ0 τ0 a1 a2 z6 σ0 τ0 from ⟨hR, hF, hFL, by omega⟩)
    · refine lv_iload_n hx hb dX11_accuse_22 rfl (lv_at hl 1 rfl) ?_
      refine lv_iload_n hx hb dX11_accuse_23 rfl (lv_at hl 2 rfl) ?_
      refine r_icmp_ne (tgt := 29) hx hb dX11_accuse_24 (by decide) (fun c7 => ?_) (fun c7 => ?_)
      · refine lv_aload_n hx hb dX11_accuse_29 rfl (lv_at hl 0 rfl) ?_
        refine fg_11_5 (k := 0) hx hb hts in_X11_accuse_11 hown hK hP (by decide) (by decide) (hts _ lk_X11_accuse_42) dX11_accuse_30 ?_
        refine lv_aload_n hx hb dX11_accuse_33 rfl (lv_at hl 0 rfl) ?_
        refine fg_11_4 (k := 0) hx hb hts in_X11_accuse_11 hown hK hP (by decide) (by decide) (hts _ lk_X11_accuse_38) dX11_accuse_34 ?_
        refine r_cVv (k := 8) (As := [.ref (ad 7)]) (rest := []) ⟨hx, hb, hml, hown, hts⟩ hK hP hN hS (c_X2_copyFrom l D cA ad hI σ0 τ0 hR 8 7 ⟨by omega, by omega⟩ ⟨by omega, by omega⟩) (cwV 1 hts gX11_accuse_X2_copyFrom rfl rfl rfl (by decide +kernel) ⟨by decide, by decide⟩) (rv_Days hK hP (by decide) (by decide)) rfl hl.1 rfl (Nat.le_of_ble_eq_true rfl) dX11_accuse_37 (Nat.zero_le _) (Nat.zero_le _) (fun u8 H8 locs8 hp8 hP hS => ?_)
        obtain ⟨σ8, τ8⟩ := u8
        obtain ⟨hR, f8, fL8⟩ : P_X2_copyFrom σ0 τ0 8 7 σ8 τ8 := hp8
        have hP : va_P D vwCl (gw cA ad σ8 τ8) H8 := hP
        obtain rfl := FrL.nil fL8
        have hF := hF.step f8 (by decide)
        refine lv_aload_n hx hb dX11_accuse_40 rfl (lv_at hl 0 rfl) ?_
        refine lv_aload_n hx hb dX11_accuse_41 rfl (lv_at hl 0 rfl) ?_
        refine fg_11_9 (k := 0) hx hb hts in_X11_accuse_11 hown hK hP (by decide) (by decide) (hts _ lk_X11_accuse_69) dX11_accuse_42 ?_
        refine lv_aload_n hx hb dX11_accuse_45 rfl (lv_at hl 0 rfl) ?_
        refine fg_11_4 (k := 0) hx hb hts in_X11_accuse_11 hown hK hP (by decide) (by decide) (hts _ lk_X11_accuse_38) dX11_accuse_46 ?_
        refine lv_iload_n hx hb dX11_accuse_49 rfl (lv_at hl 1 rfl) ?_
        refine lv_iload_n hx hb dX11_accuse_50 rfl (lv_at hl 2 rfl) ?_
        refine r_cVi (k := 22) (As := [.ref (ad 7), .int a1, .int a2]) (rest := [.ref (ad 0)]) ⟨hx, hb, hml, hown, hts⟩ hK hP hN hS (c_X0_callOath l D cA ad hI σ8 τ0 hR 7 a1 a2 ⟨by omega, by omega⟩ (by omega) (by omega)) (cwV 3 hts gX11_accuse_X0_callOath rfl rfl rfl (by decide +kernel) ⟨by decide, by decide⟩) (rv_Acts hK hP (by decide) (by decide)) rfl hl.1 rfl (Nat.le_of_ble_eq_true rfl) dX11_accuse_51 (Nat.zero_le _) (Nat.zero_le _) (fun r9 u9 H9 locs9 hp9 hP hS => ?_)
        obtain ⟨σ9, τ9⟩ := u9
        obtain ⟨hR, f9, fL9, hq9⟩ : P_X0_callOath σ8 τ0 7 a1 a2 r9 σ9 τ9 := hp9
        have hP : va_P D vwCl (gw cA ad σ9 τ9) H9 := hP
        obtain rfl := FrL.nil fL9
        have hF := hF.step f9 (by decide)
        refine r_cVi (k := 0) (As := [.int r9]) (rest := []) ⟨hx, hb, hml, hown, hts⟩ hK hP hN hS (c_X11_keptIfDone l D cA ad hI σ9 τ0 hR r9 (by omega)) (cwV 1 hts gX11_accuse_X11_keptIfDone rfl rfl rfl (by decide +kernel) ⟨by decide, by decide⟩) (rv_X hK hP (by decide) (by decide)) rfl hl.1 rfl (Nat.le_of_ble_eq_true rfl) dX11_accuse_54 (Nat.zero_le _) (Nat.zero_le _) (fun r10 u10 H10 locs10 hp10 hP hS => ?_)
        obtain ⟨σ10, τ10⟩ := u10
        obtain ⟨hR, f10, fL10, hq10⟩ : P_X11_keptIfDone σ9 τ0 r9 r10 σ10 τ10 := hp10
        have hP : va_P D vwCl (gw cA ad σ10 τ10) H10 := hP
        obtain rfl := FrL.nil fL10
        have hF := hF.step f10 (by decide)
        exact r_iret hx hb hr hK hP hS hk dX11_accuse_57 (show P_X11_accuse σ0 τ0 a1 a2 r10 σ10 τ0 from ⟨hR, hF, hFL, by omega⟩)
      · refine r_iconst hx hb dX11_accuse_27 (by decide) (fun z11 ez11 => ?_)
        exact r_iret hx hb hr hK hP hS hk dX11_accuse_28 (show P_X11_accuse σ0 τ0 a1 a2 z11 σ0 τ0 from ⟨hR, hF, hFL, by omega⟩)
theorem in_X11_share_11 : ∀ w ∈ u_ws RX11 TX11 19, w ∈ wsX11_share := by decide +kernel
theorem lk_X11_share_38 : Cond.fieldLink RX11 38 "CuckooShares" "days" "LCuckooShares$Days;" ∈ wsX11_share := by decide +kernel
theorem lk_X11_share_42 : Cond.fieldLink RX11 42 "CuckooShares" "before" "LCuckooShares$Days;" ∈ wsX11_share := by decide +kernel
theorem lk_X11_share_69 : Cond.fieldLink RX11 69 "CuckooShares" "acts" "LCuckooShares$Acts;" ∈ wsX11_share := by decide +kernel
abbrev L_X11_share : List Rc := [(20, 20, 1, 2), (360, 360, 0, 7), (361, 361, 0, 7), (362, 362, 0, 7), (365, 365, 0, 1), (366, 366, 0, 1), (367, 367, 0, 1), (7, 19, 0, 2), (308, 320, 0, 8), (321, 333, 0, 8), (334, 346, 0, 8), (347, 359, 0, 8)]
abbrev LL_X11_share : List Rc := []
def P_X11_share (σ0 : Nat → Nat → Int32) (τ0 : Nat → Nat → Int64)  (r : Int32) (σ : Nat → Nat → Int32) (τ : Nat → Nat → Int64) : Prop := Rg σ ∧ Fr L_X11_share σ0 σ ∧ FrL LL_X11_share τ0 τ ∧ (0 ≤ r.toInt ∧ r.toInt ≤ 4)
set_option maxHeartbeats 4000000 in
theorem c_X11_share (l : Launch) (D : va_G) (cA : Nat → ClassId) (ad : Nat → Nat) (hI : Inj ad) (σ0 : Nat → Nat → Int32) (τ0 : Nat → Nat → Int64) (hR : Rg σ0)   : Met l yX11_share wsX11_share ({ frames := 4, cells := 0, slots := 0, locals := 123 } : Room) (WQc D cA ad [.ref (ad 0)] σ0 τ0) (va_Qi (fun (r : Int32) (u : SS) => P_X11_share σ0 τ0 r u.1 u.2) (WB D cA ad) (AA ad)) 0 0 (AA ad) := by
  refine Met.ofW (cc := cX11_share) (maxL := 1) (ret := (some .int)) (by decide) rfl ?_
  intro p e s m args below meth c s₁ B hml hv
  obtain ⟨rfl, hP, hK, hN⟩ := hv
  have C : Cy p s m _ meth c cX11_share 1 wsX11_share RX11 D cA ad (some .int) := ⟨B.exec, B.bytes, hml, findClass_of_methodNamed B.named, atoms_spec (ws := wsX11_share) B.pre, hK, B.notSynchronized, B.returns, hI, hN⟩
  have hl := lv_entry ([.ref (ad 0)]) (n := 1) (Nat.le_of_ble_eq_true rfl)
  rw [lg_entry_eq]
  generalize (lg_sl ([.ref (ad 0)]) ++ List.replicate (1 - (lg_sl ([.ref (ad 0)])).length) Slot.unset).toArray = ls at hl ⊢
  have hl : lv_has ls 1 [(0, .ref (ad 0))] := hl
  have hS : va_S (AA ad) s.heap s.heap [] := va_S.rf
  have hF : Fr L_X11_share σ0 σ0 := Fr.rf
  have hFL : FrL LL_X11_share τ0 τ0 := FrL.rf
  obtain ⟨hx, hb, _, hown, hts, _, hk, hr, _, _⟩ := C
  refine lv_aload_n hx hb dX11_share_0 rfl (lv_at hl 0 rfl) ?_
  refine fg_11_5 (k := 0) hx hb hts in_X11_share_11 hown hK hP (by decide) (by decide) (hts _ lk_X11_share_42) dX11_share_1 ?_
  refine lv_aload_n hx hb dX11_share_4 rfl (lv_at hl 0 rfl) ?_
  refine fg_11_4 (k := 0) hx hb hts in_X11_share_11 hown hK hP (by decide) (by decide) (hts _ lk_X11_share_38) dX11_share_5 ?_
  refine r_cVv (k := 8) (As := [.ref (ad 7)]) (rest := []) ⟨hx, hb, hml, hown, hts⟩ hK hP hN hS (c_X2_copyFrom l D cA ad hI σ0 τ0 hR 8 7 ⟨by omega, by omega⟩ ⟨by omega, by omega⟩) (cwV 1 hts gX11_share_X2_copyFrom rfl rfl rfl (by decide +kernel) ⟨by decide, by decide⟩) (rv_Days hK hP (by decide) (by decide)) rfl hl.1 rfl (Nat.le_of_ble_eq_true rfl) dX11_share_8 (Nat.zero_le _) (Nat.zero_le _) (fun u1 H1 locs1 hp1 hP hS => ?_)
  obtain ⟨σ1, τ1⟩ := u1
  obtain ⟨hR, f1, fL1⟩ : P_X2_copyFrom σ0 τ0 8 7 σ1 τ1 := hp1
  have hP : va_P D vwCl (gw cA ad σ1 τ1) H1 := hP
  obtain rfl := FrL.nil fL1
  have hF := hF.step f1 (by decide)
  refine lv_aload_n hx hb dX11_share_11 rfl (lv_at hl 0 rfl) ?_
  refine lv_aload_n hx hb dX11_share_12 rfl (lv_at hl 0 rfl) ?_
  refine fg_11_9 (k := 0) hx hb hts in_X11_share_11 hown hK hP (by decide) (by decide) (hts _ lk_X11_share_69) dX11_share_13 ?_
  refine lv_aload_n hx hb dX11_share_16 rfl (lv_at hl 0 rfl) ?_
  refine fg_11_4 (k := 0) hx hb hts in_X11_share_11 hown hK hP (by decide) (by decide) (hts _ lk_X11_share_38) dX11_share_17 ?_
  refine r_cVi (k := 22) (As := [.ref (ad 7)]) (rest := [.ref (ad 0)]) ⟨hx, hb, hml, hown, hts⟩ hK hP hN hS (c_X0_shareOut l D cA ad hI σ1 τ0 hR 7 ⟨by omega, by omega⟩) (cwV 1 hts gX11_share_X0_shareOut rfl rfl rfl (by decide +kernel) ⟨by decide, by decide⟩) (rv_Acts hK hP (by decide) (by decide)) rfl hl.1 rfl (Nat.le_of_ble_eq_true rfl) dX11_share_20 (Nat.zero_le _) (Nat.zero_le _) (fun r2 u2 H2 locs2 hp2 hP hS => ?_)
  obtain ⟨σ2, τ2⟩ := u2
  obtain ⟨hR, f2, fL2, hq2⟩ : P_X0_shareOut σ1 τ0 7 r2 σ2 τ2 := hp2
  have hP : va_P D vwCl (gw cA ad σ2 τ2) H2 := hP
  obtain rfl := FrL.nil fL2
  have hF := hF.step f2 (by decide)
  refine r_cVi (k := 0) (As := [.int r2]) (rest := []) ⟨hx, hb, hml, hown, hts⟩ hK hP hN hS (c_X11_keptIfDone l D cA ad hI σ2 τ0 hR r2 (by omega)) (cwV 1 hts gX11_share_X11_keptIfDone rfl rfl rfl (by decide +kernel) ⟨by decide, by decide⟩) (rv_X hK hP (by decide) (by decide)) rfl hl.1 rfl (Nat.le_of_ble_eq_true rfl) dX11_share_23 (Nat.zero_le _) (Nat.zero_le _) (fun r3 u3 H3 locs3 hp3 hP hS => ?_)
  obtain ⟨σ3, τ3⟩ := u3
  obtain ⟨hR, f3, fL3, hq3⟩ : P_X11_keptIfDone σ2 τ0 r2 r3 σ3 τ3 := hp3
  have hP : va_P D vwCl (gw cA ad σ3 τ3) H3 := hP
  obtain rfl := FrL.nil fL3
  have hF := hF.step f3 (by decide)
  exact r_iret hx hb hr hK hP hS hk dX11_share_26 (show P_X11_share σ0 τ0 r3 σ3 τ0 from ⟨hR, hF, hFL, by omega⟩)
theorem in_X11_undo_11 : ∀ w ∈ u_ws RX11 TX11 19, w ∈ wsX11_undo := by decide +kernel
theorem lk_X11_undo_38 : Cond.fieldLink RX11 38 "CuckooShares" "days" "LCuckooShares$Days;" ∈ wsX11_undo := by decide +kernel
theorem lk_X11_undo_51 : Cond.fieldLink RX11 51 "CuckooShares" "history" "LCuckooShares$History;" ∈ wsX11_undo := by decide +kernel
abbrev L_X11_undo : List Rc := [(20, 20, 2, 2), (7, 19, 0, 2), (308, 320, 0, 8), (321, 333, 0, 8), (334, 346, 0, 8), (347, 359, 0, 8)]
abbrev LL_X11_undo : List Rc := []
def P_X11_undo (σ0 : Nat → Nat → Int32) (τ0 : Nat → Nat → Int64)  (r : Int32) (σ : Nat → Nat → Int32) (τ : Nat → Nat → Int64) : Prop := Rg σ ∧ Fr L_X11_undo σ0 σ ∧ FrL LL_X11_undo τ0 τ ∧ (-1 ≤ r.toInt ∧ r.toInt ≤ 7)
set_option maxHeartbeats 4000000 in
theorem c_X11_undo (l : Launch) (D : va_G) (cA : Nat → ClassId) (ad : Nat → Nat) (hI : Inj ad) (σ0 : Nat → Nat → Int32) (τ0 : Nat → Nat → Int64) (hR : Rg σ0)   : Met l yX11_undo wsX11_undo ({ frames := 3, cells := 0, slots := 0, locals := 102 } : Room) (WQc D cA ad [.ref (ad 0)] σ0 τ0) (va_Qi (fun (r : Int32) (u : SS) => P_X11_undo σ0 τ0 r u.1 u.2) (WB D cA ad) (AA ad)) 0 0 (AA ad) := by
  refine Met.ofW (cc := cX11_undo) (maxL := 1) (ret := (some .int)) (by decide) rfl ?_
  intro p e s m args below meth c s₁ B hml hv
  obtain ⟨rfl, hP, hK, hN⟩ := hv
  have C : Cy p s m _ meth c cX11_undo 1 wsX11_undo RX11 D cA ad (some .int) := ⟨B.exec, B.bytes, hml, findClass_of_methodNamed B.named, atoms_spec (ws := wsX11_undo) B.pre, hK, B.notSynchronized, B.returns, hI, hN⟩
  have hl := lv_entry ([.ref (ad 0)]) (n := 1) (Nat.le_of_ble_eq_true rfl)
  rw [lg_entry_eq]
  generalize (lg_sl ([.ref (ad 0)]) ++ List.replicate (1 - (lg_sl ([.ref (ad 0)])).length) Slot.unset).toArray = ls at hl ⊢
  have hl : lv_has ls 1 [(0, .ref (ad 0))] := hl
  have hS : va_S (AA ad) s.heap s.heap [] := va_S.rf
  have hF : Fr L_X11_undo σ0 σ0 := Fr.rf
  have hFL : FrL LL_X11_undo τ0 τ0 := FrL.rf
  obtain ⟨hx, hb, _, hown, hts, _, hk, hr, _, _⟩ := C
  refine lv_aload_n hx hb dX11_undo_0 rfl (lv_at hl 0 rfl) ?_
  refine fg_11_7 (k := 0) hx hb hts in_X11_undo_11 hown hK hP (by decide) (by decide) (hts _ lk_X11_undo_51) dX11_undo_1 ?_
  refine lv_aload_n hx hb dX11_undo_4 rfl (lv_at hl 0 rfl) ?_
  refine fg_11_4 (k := 0) hx hb hts in_X11_undo_11 hown hK hP (by decide) (by decide) (hts _ lk_X11_undo_38) dX11_undo_5 ?_
  refine r_cVi (k := 20) (As := [.ref (ad 7)]) (rest := []) ⟨hx, hb, hml, hown, hts⟩ hK hP hN hS (c_X3_pop l D cA ad hI σ0 τ0 hR) (cwV 1 hts gX11_undo_X3_pop rfl rfl rfl (by decide +kernel) ⟨by decide, by decide⟩) (rv_Hist hK hP (by decide) (by decide)) rfl hl.1 rfl (Nat.le_of_ble_eq_true rfl) dX11_undo_8 (Nat.zero_le _) (Nat.zero_le _) (fun r1 u1 H1 locs1 hp1 hP hS => ?_)
  obtain ⟨σ1, τ1⟩ := u1
  obtain ⟨hR, f1, fL1, hq1⟩ : P_X3_pop σ0 τ0 r1 σ1 τ1 := hp1
  have hP : va_P D vwCl (gw cA ad σ1 τ1) H1 := hP
  obtain rfl := FrL.nil fL1
  have hF := hF.step f1 (by decide)
  exact r_iret hx hb hr hK hP hS hk dX11_undo_11 (show P_X11_undo σ0 τ0 r1 σ1 τ0 from ⟨hR, hF, hFL, by omega⟩)
theorem in_X11_far_11 : ∀ w ∈ u_ws RX11 TX11 19, w ∈ wsX11_far := by decide +kernel
theorem lk_X11_far_19 : Cond.fieldLink RX11 19 "CuckooShares" "valley" "LCuckooShares$Valley;" ∈ wsX11_far := by decide +kernel
theorem lk_X11_far_38 : Cond.fieldLink RX11 38 "CuckooShares" "days" "LCuckooShares$Days;" ∈ wsX11_far := by decide +kernel
theorem lk_X11_far_60 : Cond.fieldLink RX11 60 "CuckooShares" "camp" "LCuckooShares$Camp;" ∈ wsX11_far := by decide +kernel
abbrev L_X11_far : List Rc := [(360, 360, 0, 7), (361, 361, 0, 7), (362, 362, 0, 7)]
abbrev LL_X11_far : List Rc := []
def P_X11_far (σ0 : Nat → Nat → Int32) (τ0 : Nat → Nat → Int64) (a1 : Int32) (a2 : Int32) (a3 : Int32) (r : Int32) (σ : Nat → Nat → Int32) (τ : Nat → Nat → Int64) : Prop := Rg σ ∧ Fr L_X11_far σ0 σ ∧ FrL LL_X11_far τ0 τ
set_option maxHeartbeats 4000000 in
theorem c_X11_far (l : Launch) (D : va_G) (cA : Nat → ClassId) (ad : Nat → Nat) (hI : Inj ad) (σ0 : Nat → Nat → Int32) (τ0 : Nat → Nat → Int64) (hR : Rg σ0) (a1 : Int32) (a2 : Int32) (a3 : Int32)  : Met l yX11_far wsX11_far ({ frames := 3, cells := 0, slots := 0, locals := 68 } : Room) (WQc D cA ad [.ref (ad 0), .int a1, .int a2, .int a3] σ0 τ0) (va_Qi (fun (r : Int32) (u : SS) => P_X11_far σ0 τ0 a1 a2 a3 r u.1 u.2) (WB D cA ad) (AA ad)) 0 0 (AA ad) := by
  refine Met.ofW (cc := cX11_far) (maxL := 4) (ret := (some .int)) (by decide) rfl ?_
  intro p e s m args below meth c s₁ B hml hv
  obtain ⟨rfl, hP, hK, hN⟩ := hv
  have C : Cy p s m _ meth c cX11_far 4 wsX11_far RX11 D cA ad (some .int) := ⟨B.exec, B.bytes, hml, findClass_of_methodNamed B.named, atoms_spec (ws := wsX11_far) B.pre, hK, B.notSynchronized, B.returns, hI, hN⟩
  have hl := lv_entry ([.ref (ad 0), .int a1, .int a2, .int a3]) (n := 4) (Nat.le_of_ble_eq_true rfl)
  rw [lg_entry_eq]
  generalize (lg_sl ([.ref (ad 0), .int a1, .int a2, .int a3]) ++ List.replicate (4 - (lg_sl ([.ref (ad 0), .int a1, .int a2, .int a3])).length) Slot.unset).toArray = ls at hl ⊢
  have hl : lv_has ls 4 [(0, .ref (ad 0)), (1, .int a1), (2, .int a2), (3, .int a3)] := hl
  have hS : va_S (AA ad) s.heap s.heap [] := va_S.rf
  have hF : Fr L_X11_far σ0 σ0 := Fr.rf
  have hFL : FrL LL_X11_far τ0 τ0 := FrL.rf
  obtain ⟨hx, hb, _, hown, hts, _, hk, hr, _, _⟩ := C
  refine lv_aload_n hx hb dX11_far_0 rfl (lv_at hl 0 rfl) ?_
  refine fg_11_1 (k := 0) hx hb hts in_X11_far_11 hown hK hP (by decide) (by decide) (hts _ lk_X11_far_19) dX11_far_1 ?_
  refine lv_iload_n hx hb dX11_far_4 rfl (lv_at hl 1 rfl) ?_
  refine r_cVi (k := 2) (As := [.int a1]) (rest := []) ⟨hx, hb, hml, hown, hts⟩ hK hP hN hS (c_X9_hasMan l D cA ad hI σ0 τ0 hR 2 a1 ⟨by omega, by omega⟩) (cwV 1 hts gX11_far_X9_hasMan rfl rfl rfl (by decide +kernel) ⟨by decide, by decide⟩) (rv_Valley hK hP (by decide) (by decide)) rfl hl.1 rfl (Nat.le_of_ble_eq_true rfl) dX11_far_5 (Nat.zero_le _) (Nat.zero_le _) (fun r1 u1 H1 locs1 hp1 hP hS => ?_)
  obtain ⟨σ1, τ1⟩ := u1
  obtain ⟨hR, f1, fL1, hq1, hp1_0⟩ : P_X9_hasMan σ0 τ0 2 a1 r1 σ1 τ1 := hp1
  have hP : va_P D vwCl (gw cA ad σ1 τ1) H1 := hP
  obtain rfl := FrL.nil fL1
  obtain rfl := Fr.nil f1
  refine r_if_eq (tgt := 23) hx hb dX11_far_8 (by decide) (fun c2 => ?_) (fun c2 => ?_)
  · refine r_iconst hx hb dX11_far_23 (by decide) (fun z3 ez3 => ?_)
    exact r_iret hx hb hr hK hP hS hk dX11_far_24 (show P_X11_far σ0 τ0 a1 a2 a3 z3 σ0 τ0 from ⟨hR, hF, hFL⟩)
  · refine lv_aload_n hx hb dX11_far_11 rfl (lv_at hl 0 rfl) ?_
    refine fg_11_1 (k := 0) hx hb hts in_X11_far_11 hown hK hP (by decide) (by decide) (hts _ lk_X11_far_19) dX11_far_12 ?_
    refine lv_iload_n hx hb dX11_far_15 rfl (lv_at hl 2 rfl) ?_
    refine lv_iload_n hx hb dX11_far_16 rfl (lv_at hl 3 rfl) ?_
    refine r_cVi (k := 2) (As := [.int a2, .int a3]) (rest := []) ⟨hx, hb, hml, hown, hts⟩ hK hP hN hS (c_X9_hasCall l D cA ad hI σ0 τ0 hR 2 a2 a3 ⟨by omega, by omega⟩) (cwV 2 hts gX11_far_X9_hasCall rfl rfl rfl (by decide +kernel) ⟨by decide, by decide⟩) (rv_Valley hK hP (by decide) (by decide)) rfl hl.1 rfl (Nat.le_of_ble_eq_true rfl) dX11_far_17 (Nat.zero_le _) (Nat.zero_le _) (fun r4 u4 H4 locs4 hp4 hP hS => ?_)
    obtain ⟨σ4, τ4⟩ := u4
    obtain ⟨hR, f4, fL4, hq4, hp4_0⟩ : P_X9_hasCall σ0 τ0 2 a2 a3 r4 σ4 τ4 := hp4
    have hP : va_P D vwCl (gw cA ad σ4 τ4) H4 := hP
    obtain rfl := FrL.nil fL4
    obtain rfl := Fr.nil f4
    refine r_if_ne (tgt := 25) hx hb dX11_far_20 (by decide) (fun c5 => ?_) (fun c5 => ?_)
    · refine lv_aload_n hx hb dX11_far_25 rfl (lv_at hl 0 rfl) ?_
      refine fg_11_8 (k := 0) hx hb hts in_X11_far_11 hown hK hP (by decide) (by decide) (hts _ lk_X11_far_60) dX11_far_26 ?_
      refine lv_aload_n hx hb dX11_far_29 rfl (lv_at hl 0 rfl) ?_
      refine fg_11_4 (k := 0) hx hb hts in_X11_far_11 hown hK hP (by decide) (by decide) (hts _ lk_X11_far_38) dX11_far_30 ?_
      refine r_cVv (k := 21) (As := [.ref (ad 7)]) (rest := []) ⟨hx, hb, hml, hown, hts⟩ hK hP hN hS (c_X1_pitch l D cA ad hI σ0 τ0 hR 7 ⟨by omega, by omega⟩) (cwV 1 hts gX11_far_X1_pitch rfl rfl rfl (by decide +kernel) ⟨by decide, by decide⟩) (rv_Camp hK hP (by decide) (by decide)) rfl hl.1 rfl (Nat.le_of_ble_eq_true rfl) dX11_far_33 (Nat.zero_le _) (Nat.zero_le _) (fun u6 H6 locs6 hp6 hP hS => ?_)
      obtain ⟨σ6, τ6⟩ := u6
      obtain ⟨hR, f6, fL6⟩ : P_X1_pitch σ0 τ0 7 σ6 τ6 := hp6
      have hP : va_P D vwCl (gw cA ad σ6 τ6) H6 := hP
      obtain rfl := FrL.nil fL6
      have hF := hF.step f6 (by decide)
      refine lv_aload_n hx hb dX11_far_36 rfl (lv_at hl 0 rfl) ?_
      refine fg_11_8 (k := 0) hx hb hts in_X11_far_11 hown hK hP (by decide) (by decide) (hts _ lk_X11_far_60) dX11_far_37 ?_
      refine lv_iload_n hx hb dX11_far_40 rfl (lv_at hl 1 rfl) ?_
      refine lv_iload_n hx hb dX11_far_41 rfl (lv_at hl 2 rfl) ?_
      refine lv_iload_n hx hb dX11_far_42 rfl (lv_at hl 3 rfl) ?_
      refine r_cVi (k := 21) (As := [.int a1, .int a2, .int a3]) (rest := []) ⟨hx, hb, hml, hown, hts⟩ hK hP hN hS (c_X1_distance l D cA ad hI σ6 τ0 hR a1 a2 a3 (by omega) (by omega) (by omega)) (cwV 3 hts gX11_far_X1_distance rfl rfl rfl (by decide +kernel) ⟨by decide, by decide⟩) (rv_Camp hK hP (by decide) (by decide)) rfl hl.1 rfl (Nat.le_of_ble_eq_true rfl) dX11_far_43 (Nat.zero_le _) (Nat.zero_le _) (fun r7 u7 H7 locs7 hp7 hP hS => ?_)
      obtain ⟨σ7, τ7⟩ := u7
      obtain ⟨hR, f7, fL7⟩ : P_X1_distance σ6 τ0 a1 a2 a3 r7 σ7 τ7 := hp7
      have hP : va_P D vwCl (gw cA ad σ7 τ7) H7 := hP
      obtain rfl := FrL.nil fL7
      obtain rfl := Fr.nil f7
      exact r_iret hx hb hr hK hP hS hk dX11_far_46 (show P_X11_far σ0 τ0 a1 a2 a3 r7 σ6 τ0 from ⟨hR, hF, hFL⟩)
    · refine r_iconst hx hb dX11_far_23 (by decide) (fun z8 ez8 => ?_)
      exact r_iret hx hb hr hK hP hS hk dX11_far_24 (show P_X11_far σ0 τ0 a1 a2 a3 z8 σ0 τ0 from ⟨hR, hF, hFL⟩)
theorem in_X11_hears_11 : ∀ w ∈ u_ws RX11 TX11 19, w ∈ wsX11_hears := by decide +kernel
theorem lk_X11_hears_19 : Cond.fieldLink RX11 19 "CuckooShares" "valley" "LCuckooShares$Valley;" ∈ wsX11_hears := by decide +kernel
theorem lk_X11_hears_38 : Cond.fieldLink RX11 38 "CuckooShares" "days" "LCuckooShares$Days;" ∈ wsX11_hears := by decide +kernel
theorem lk_X11_hears_60 : Cond.fieldLink RX11 60 "CuckooShares" "camp" "LCuckooShares$Camp;" ∈ wsX11_hears := by decide +kernel
abbrev L_X11_hears : List Rc := [(360, 360, 0, 7), (361, 361, 0, 7), (362, 362, 0, 7)]
abbrev LL_X11_hears : List Rc := []
def P_X11_hears (σ0 : Nat → Nat → Int32) (τ0 : Nat → Nat → Int64) (a1 : Int32) (a2 : Int32) (a3 : Int32) (r : Int32) (σ : Nat → Nat → Int32) (τ : Nat → Nat → Int64) : Prop := Rg σ ∧ Fr L_X11_hears σ0 σ ∧ FrL LL_X11_hears τ0 τ ∧ (-1 ≤ r.toInt ∧ r.toInt ≤ 1)
set_option maxHeartbeats 4000000 in
theorem c_X11_hears (l : Launch) (D : va_G) (cA : Nat → ClassId) (ad : Nat → Nat) (hI : Inj ad) (σ0 : Nat → Nat → Int32) (τ0 : Nat → Nat → Int64) (hR : Rg σ0) (a1 : Int32) (a2 : Int32) (a3 : Int32)  : Met l yX11_hears wsX11_hears ({ frames := 4, cells := 0, slots := 0, locals := 95 } : Room) (WQc D cA ad [.ref (ad 0), .int a1, .int a2, .int a3] σ0 τ0) (va_Qi (fun (r : Int32) (u : SS) => P_X11_hears σ0 τ0 a1 a2 a3 r u.1 u.2) (WB D cA ad) (AA ad)) 0 0 (AA ad) := by
  refine Met.ofW (cc := cX11_hears) (maxL := 4) (ret := (some .int)) (by decide) rfl ?_
  intro p e s m args below meth c s₁ B hml hv
  obtain ⟨rfl, hP, hK, hN⟩ := hv
  have C : Cy p s m _ meth c cX11_hears 4 wsX11_hears RX11 D cA ad (some .int) := ⟨B.exec, B.bytes, hml, findClass_of_methodNamed B.named, atoms_spec (ws := wsX11_hears) B.pre, hK, B.notSynchronized, B.returns, hI, hN⟩
  have hl := lv_entry ([.ref (ad 0), .int a1, .int a2, .int a3]) (n := 4) (Nat.le_of_ble_eq_true rfl)
  rw [lg_entry_eq]
  generalize (lg_sl ([.ref (ad 0), .int a1, .int a2, .int a3]) ++ List.replicate (4 - (lg_sl ([.ref (ad 0), .int a1, .int a2, .int a3])).length) Slot.unset).toArray = ls at hl ⊢
  have hl : lv_has ls 4 [(0, .ref (ad 0)), (1, .int a1), (2, .int a2), (3, .int a3)] := hl
  have hS : va_S (AA ad) s.heap s.heap [] := va_S.rf
  have hF : Fr L_X11_hears σ0 σ0 := Fr.rf
  have hFL : FrL LL_X11_hears τ0 τ0 := FrL.rf
  obtain ⟨hx, hb, _, hown, hts, _, hk, hr, _, _⟩ := C
  refine lv_aload_n hx hb dX11_hears_0 rfl (lv_at hl 0 rfl) ?_
  refine fg_11_1 (k := 0) hx hb hts in_X11_hears_11 hown hK hP (by decide) (by decide) (hts _ lk_X11_hears_19) dX11_hears_1 ?_
  refine lv_iload_n hx hb dX11_hears_4 rfl (lv_at hl 1 rfl) ?_
  refine r_cVi (k := 2) (As := [.int a1]) (rest := []) ⟨hx, hb, hml, hown, hts⟩ hK hP hN hS (c_X9_hasMan l D cA ad hI σ0 τ0 hR 2 a1 ⟨by omega, by omega⟩) (cwV 1 hts gX11_hears_X9_hasMan rfl rfl rfl (by decide +kernel) ⟨by decide, by decide⟩) (rv_Valley hK hP (by decide) (by decide)) rfl hl.1 rfl (Nat.le_of_ble_eq_true rfl) dX11_hears_5 (Nat.zero_le _) (Nat.zero_le _) (fun r1 u1 H1 locs1 hp1 hP hS => ?_)
  obtain ⟨σ1, τ1⟩ := u1
  obtain ⟨hR, f1, fL1, hq1, hp1_0⟩ : P_X9_hasMan σ0 τ0 2 a1 r1 σ1 τ1 := hp1
  have hP : va_P D vwCl (gw cA ad σ1 τ1) H1 := hP
  obtain rfl := FrL.nil fL1
  obtain rfl := Fr.nil f1
  refine r_if_eq (tgt := 23) hx hb dX11_hears_8 (by decide) (fun c2 => ?_) (fun c2 => ?_)
  · refine r_iconst hx hb dX11_hears_23 (by decide) (fun z3 ez3 => ?_)
    exact r_iret hx hb hr hK hP hS hk dX11_hears_24 (show P_X11_hears σ0 τ0 a1 a2 a3 z3 σ0 τ0 from ⟨hR, hF, hFL, by omega⟩)
  · refine lv_aload_n hx hb dX11_hears_11 rfl (lv_at hl 0 rfl) ?_
    refine fg_11_1 (k := 0) hx hb hts in_X11_hears_11 hown hK hP (by decide) (by decide) (hts _ lk_X11_hears_19) dX11_hears_12 ?_
    refine lv_iload_n hx hb dX11_hears_15 rfl (lv_at hl 2 rfl) ?_
    refine lv_iload_n hx hb dX11_hears_16 rfl (lv_at hl 3 rfl) ?_
    refine r_cVi (k := 2) (As := [.int a2, .int a3]) (rest := []) ⟨hx, hb, hml, hown, hts⟩ hK hP hN hS (c_X9_hasCall l D cA ad hI σ0 τ0 hR 2 a2 a3 ⟨by omega, by omega⟩) (cwV 2 hts gX11_hears_X9_hasCall rfl rfl rfl (by decide +kernel) ⟨by decide, by decide⟩) (rv_Valley hK hP (by decide) (by decide)) rfl hl.1 rfl (Nat.le_of_ble_eq_true rfl) dX11_hears_17 (Nat.zero_le _) (Nat.zero_le _) (fun r4 u4 H4 locs4 hp4 hP hS => ?_)
    obtain ⟨σ4, τ4⟩ := u4
    obtain ⟨hR, f4, fL4, hq4, hp4_0⟩ : P_X9_hasCall σ0 τ0 2 a2 a3 r4 σ4 τ4 := hp4
    have hP : va_P D vwCl (gw cA ad σ4 τ4) H4 := hP
    obtain rfl := FrL.nil fL4
    obtain rfl := Fr.nil f4
    refine r_if_ne (tgt := 25) hx hb dX11_hears_20 (by decide) (fun c5 => ?_) (fun c5 => ?_)
    · refine lv_aload_n hx hb dX11_hears_25 rfl (lv_at hl 0 rfl) ?_
      refine fg_11_8 (k := 0) hx hb hts in_X11_hears_11 hown hK hP (by decide) (by decide) (hts _ lk_X11_hears_60) dX11_hears_26 ?_
      refine lv_aload_n hx hb dX11_hears_29 rfl (lv_at hl 0 rfl) ?_
      refine fg_11_4 (k := 0) hx hb hts in_X11_hears_11 hown hK hP (by decide) (by decide) (hts _ lk_X11_hears_38) dX11_hears_30 ?_
      refine r_cVv (k := 21) (As := [.ref (ad 7)]) (rest := []) ⟨hx, hb, hml, hown, hts⟩ hK hP hN hS (c_X1_pitch l D cA ad hI σ0 τ0 hR 7 ⟨by omega, by omega⟩) (cwV 1 hts gX11_hears_X1_pitch rfl rfl rfl (by decide +kernel) ⟨by decide, by decide⟩) (rv_Camp hK hP (by decide) (by decide)) rfl hl.1 rfl (Nat.le_of_ble_eq_true rfl) dX11_hears_33 (Nat.zero_le _) (Nat.zero_le _) (fun u6 H6 locs6 hp6 hP hS => ?_)
      obtain ⟨σ6, τ6⟩ := u6
      obtain ⟨hR, f6, fL6⟩ : P_X1_pitch σ0 τ0 7 σ6 τ6 := hp6
      have hP : va_P D vwCl (gw cA ad σ6 τ6) H6 := hP
      obtain rfl := FrL.nil fL6
      have hF := hF.step f6 (by decide)
      refine lv_aload_n hx hb dX11_hears_36 rfl (lv_at hl 0 rfl) ?_
      refine fg_11_8 (k := 0) hx hb hts in_X11_hears_11 hown hK hP (by decide) (by decide) (hts _ lk_X11_hears_60) dX11_hears_37 ?_
      refine lv_iload_n hx hb dX11_hears_40 rfl (lv_at hl 2 rfl) ?_
      refine lv_iload_n hx hb dX11_hears_41 rfl (lv_at hl 3 rfl) ?_
      refine r_cVi (k := 21) (As := [.int a2, .int a3]) (rest := []) ⟨hx, hb, hml, hown, hts⟩ hK hP hN hS (c_X1_hearers l D cA ad hI σ6 τ0 hR a2 a3 (by omega) (by omega)) (cwV 2 hts gX11_hears_X1_hearers rfl rfl rfl (by decide +kernel) ⟨by decide, by decide⟩) (rv_Camp hK hP (by decide) (by decide)) rfl hl.1 rfl (Nat.le_of_ble_eq_true rfl) dX11_hears_42 (Nat.zero_le _) (Nat.zero_le _) (fun r7 u7 H7 locs7 hp7 hP hS => ?_)
      obtain ⟨σ7, τ7⟩ := u7
      obtain ⟨hR, f7, fL7⟩ : P_X1_hearers σ6 τ0 a2 a3 r7 σ7 τ7 := hp7
      have hP : va_P D vwCl (gw cA ad σ7 τ7) H7 := hP
      obtain rfl := FrL.nil fL7
      obtain rfl := Fr.nil f7
      refine lv_iload_n hx hb dX11_hears_45 rfl (lv_at hl 1 rfl) ?_
      refine r_ishrU hx hb dX11_hears_46 (fun z8 => ?_)
      refine r_iconst hx hb dX11_hears_47 (by decide) (fun z9 ez9 => ?_)
      refine r_iand (w := 1) hx hb 1 dX11_hears_48 (by omega) (by decide) (fun z10 ez10 => ?_)
      exact r_iret hx hb hr hK hP hS hk dX11_hears_49 (show P_X11_hears σ0 τ0 a1 a2 a3 z10 σ6 τ0 from ⟨hR, hF, hFL, by omega⟩)
    · refine r_iconst hx hb dX11_hears_23 (by decide) (fun z11 ez11 => ?_)
      exact r_iret hx hb hr hK hP hS hk dX11_hears_24 (show P_X11_hears σ0 τ0 a1 a2 a3 z11 σ0 τ0 from ⟨hR, hF, hFL, by omega⟩)
theorem in_X11_who_11 : ∀ w ∈ u_ws RX11 TX11 19, w ∈ wsX11_who := by decide +kernel
theorem lk_X11_who_19 : Cond.fieldLink RX11 19 "CuckooShares" "valley" "LCuckooShares$Valley;" ∈ wsX11_who := by decide +kernel
theorem lk_X11_who_38 : Cond.fieldLink RX11 38 "CuckooShares" "days" "LCuckooShares$Days;" ∈ wsX11_who := by decide +kernel
theorem lk_X11_who_60 : Cond.fieldLink RX11 60 "CuckooShares" "camp" "LCuckooShares$Camp;" ∈ wsX11_who := by decide +kernel
abbrev L_X11_who : List Rc := [(360, 360, 0, 7), (361, 361, 0, 7), (362, 362, 0, 7)]
abbrev LL_X11_who : List Rc := []
def P_X11_who (σ0 : Nat → Nat → Int32) (τ0 : Nat → Nat → Int64) (a1 : Int32) (a2 : Int32) (r : Int32) (σ : Nat → Nat → Int32) (τ : Nat → Nat → Int64) : Prop := Rg σ ∧ Fr L_X11_who σ0 σ ∧ FrL LL_X11_who τ0 τ
set_option maxHeartbeats 4000000 in
theorem c_X11_who (l : Launch) (D : va_G) (cA : Nat → ClassId) (ad : Nat → Nat) (hI : Inj ad) (σ0 : Nat → Nat → Int32) (τ0 : Nat → Nat → Int64) (hR : Rg σ0) (a1 : Int32) (a2 : Int32)  : Met l yX11_who wsX11_who ({ frames := 4, cells := 0, slots := 0, locals := 95 } : Room) (WQc D cA ad [.ref (ad 0), .int a1, .int a2] σ0 τ0) (va_Qi (fun (r : Int32) (u : SS) => P_X11_who σ0 τ0 a1 a2 r u.1 u.2) (WB D cA ad) (AA ad)) 0 0 (AA ad) := by
  refine Met.ofW (cc := cX11_who) (maxL := 3) (ret := (some .int)) (by decide) rfl ?_
  intro p e s m args below meth c s₁ B hml hv
  obtain ⟨rfl, hP, hK, hN⟩ := hv
  have C : Cy p s m _ meth c cX11_who 3 wsX11_who RX11 D cA ad (some .int) := ⟨B.exec, B.bytes, hml, findClass_of_methodNamed B.named, atoms_spec (ws := wsX11_who) B.pre, hK, B.notSynchronized, B.returns, hI, hN⟩
  have hl := lv_entry ([.ref (ad 0), .int a1, .int a2]) (n := 3) (Nat.le_of_ble_eq_true rfl)
  rw [lg_entry_eq]
  generalize (lg_sl ([.ref (ad 0), .int a1, .int a2]) ++ List.replicate (3 - (lg_sl ([.ref (ad 0), .int a1, .int a2])).length) Slot.unset).toArray = ls at hl ⊢
  have hl : lv_has ls 3 [(0, .ref (ad 0)), (1, .int a1), (2, .int a2)] := hl
  have hS : va_S (AA ad) s.heap s.heap [] := va_S.rf
  have hF : Fr L_X11_who σ0 σ0 := Fr.rf
  have hFL : FrL LL_X11_who τ0 τ0 := FrL.rf
  obtain ⟨hx, hb, _, hown, hts, _, hk, hr, _, _⟩ := C
  refine lv_aload_n hx hb dX11_who_0 rfl (lv_at hl 0 rfl) ?_
  refine fg_11_1 (k := 0) hx hb hts in_X11_who_11 hown hK hP (by decide) (by decide) (hts _ lk_X11_who_19) dX11_who_1 ?_
  refine lv_iload_n hx hb dX11_who_4 rfl (lv_at hl 1 rfl) ?_
  refine lv_iload_n hx hb dX11_who_5 rfl (lv_at hl 2 rfl) ?_
  refine r_cVi (k := 2) (As := [.int a1, .int a2]) (rest := []) ⟨hx, hb, hml, hown, hts⟩ hK hP hN hS (c_X9_hasCall l D cA ad hI σ0 τ0 hR 2 a1 a2 ⟨by omega, by omega⟩) (cwV 2 hts gX11_who_X9_hasCall rfl rfl rfl (by decide +kernel) ⟨by decide, by decide⟩) (rv_Valley hK hP (by decide) (by decide)) rfl hl.1 rfl (Nat.le_of_ble_eq_true rfl) dX11_who_6 (Nat.zero_le _) (Nat.zero_le _) (fun r1 u1 H1 locs1 hp1 hP hS => ?_)
  obtain ⟨σ1, τ1⟩ := u1
  obtain ⟨hR, f1, fL1, hq1, hp1_0⟩ : P_X9_hasCall σ0 τ0 2 a1 a2 r1 σ1 τ1 := hp1
  have hP : va_P D vwCl (gw cA ad σ1 τ1) H1 := hP
  obtain rfl := FrL.nil fL1
  obtain rfl := Fr.nil f1
  refine r_if_ne (tgt := 14) hx hb dX11_who_9 (by decide) (fun c2 => ?_) (fun c2 => ?_)
  · refine lv_aload_n hx hb dX11_who_14 rfl (lv_at hl 0 rfl) ?_
    refine fg_11_8 (k := 0) hx hb hts in_X11_who_11 hown hK hP (by decide) (by decide) (hts _ lk_X11_who_60) dX11_who_15 ?_
    refine lv_aload_n hx hb dX11_who_18 rfl (lv_at hl 0 rfl) ?_
    refine fg_11_4 (k := 0) hx hb hts in_X11_who_11 hown hK hP (by decide) (by decide) (hts _ lk_X11_who_38) dX11_who_19 ?_
    refine r_cVv (k := 21) (As := [.ref (ad 7)]) (rest := []) ⟨hx, hb, hml, hown, hts⟩ hK hP hN hS (c_X1_pitch l D cA ad hI σ0 τ0 hR 7 ⟨by omega, by omega⟩) (cwV 1 hts gX11_who_X1_pitch rfl rfl rfl (by decide +kernel) ⟨by decide, by decide⟩) (rv_Camp hK hP (by decide) (by decide)) rfl hl.1 rfl (Nat.le_of_ble_eq_true rfl) dX11_who_22 (Nat.zero_le _) (Nat.zero_le _) (fun u3 H3 locs3 hp3 hP hS => ?_)
    obtain ⟨σ3, τ3⟩ := u3
    obtain ⟨hR, f3, fL3⟩ : P_X1_pitch σ0 τ0 7 σ3 τ3 := hp3
    have hP : va_P D vwCl (gw cA ad σ3 τ3) H3 := hP
    obtain rfl := FrL.nil fL3
    have hF := hF.step f3 (by decide)
    refine lv_aload_n hx hb dX11_who_25 rfl (lv_at hl 0 rfl) ?_
    refine fg_11_8 (k := 0) hx hb hts in_X11_who_11 hown hK hP (by decide) (by decide) (hts _ lk_X11_who_60) dX11_who_26 ?_
    refine lv_iload_n hx hb dX11_who_29 rfl (lv_at hl 1 rfl) ?_
    refine lv_iload_n hx hb dX11_who_30 rfl (lv_at hl 2 rfl) ?_
    refine r_cVi (k := 21) (As := [.int a1, .int a2]) (rest := []) ⟨hx, hb, hml, hown, hts⟩ hK hP hN hS (c_X1_hearers l D cA ad hI σ3 τ0 hR a1 a2 (by omega) (by omega)) (cwV 2 hts gX11_who_X1_hearers rfl rfl rfl (by decide +kernel) ⟨by decide, by decide⟩) (rv_Camp hK hP (by decide) (by decide)) rfl hl.1 rfl (Nat.le_of_ble_eq_true rfl) dX11_who_31 (Nat.zero_le _) (Nat.zero_le _) (fun r4 u4 H4 locs4 hp4 hP hS => ?_)
    obtain ⟨σ4, τ4⟩ := u4
    obtain ⟨hR, f4, fL4⟩ : P_X1_hearers σ3 τ0 a1 a2 r4 σ4 τ4 := hp4
    have hP : va_P D vwCl (gw cA ad σ4 τ4) H4 := hP
    obtain rfl := FrL.nil fL4
    obtain rfl := Fr.nil f4
    exact r_iret hx hb hr hK hP hS hk dX11_who_34 (show P_X11_who σ0 τ0 a1 a2 r4 σ3 τ0 from ⟨hR, hF, hFL⟩)
  · refine r_iconst hx hb dX11_who_12 (by decide) (fun z5 ez5 => ?_)
    exact r_iret hx hb hr hK hP hS hk dX11_who_13 (show P_X11_who σ0 τ0 a1 a2 z5 σ0 τ0 from ⟨hR, hF, hFL⟩)
theorem in_X11_first_11 : ∀ w ∈ u_ws RX11 TX11 19, w ∈ wsX11_first := by decide +kernel
theorem lk_X11_first_19 : Cond.fieldLink RX11 19 "CuckooShares" "valley" "LCuckooShares$Valley;" ∈ wsX11_first := by decide +kernel
theorem lk_X11_first_38 : Cond.fieldLink RX11 38 "CuckooShares" "days" "LCuckooShares$Days;" ∈ wsX11_first := by decide +kernel
theorem lk_X11_first_60 : Cond.fieldLink RX11 60 "CuckooShares" "camp" "LCuckooShares$Camp;" ∈ wsX11_first := by decide +kernel
abbrev L_X11_first : List Rc := [(363, 363, 0, 39), (360, 360, 0, 7), (361, 361, 0, 7), (362, 362, 0, 7)]
abbrev LL_X11_first : List Rc := []
def P_X11_first (σ0 : Nat → Nat → Int32) (τ0 : Nat → Nat → Int64) (a1 : Int32) (a2 : Int32) (r : Int32) (σ : Nat → Nat → Int32) (τ : Nat → Nat → Int64) : Prop := Rg σ ∧ Fr L_X11_first σ0 σ ∧ FrL LL_X11_first τ0 τ ∧ (-1 ≤ r.toInt ∧ r.toInt ≤ 9)
set_option maxHeartbeats 4000000 in
theorem c_X11_first (l : Launch) (D : va_G) (cA : Nat → ClassId) (ad : Nat → Nat) (hI : Inj ad) (σ0 : Nat → Nat → Int32) (τ0 : Nat → Nat → Int64) (hR : Rg σ0) (a1 : Int32) (a2 : Int32)  : Met l yX11_first wsX11_first ({ frames := 5, cells := 0, slots := 0, locals := 117 } : Room) (WQc D cA ad [.ref (ad 0), .int a1, .int a2] σ0 τ0) (va_Qi (fun (r : Int32) (u : SS) => P_X11_first σ0 τ0 a1 a2 r u.1 u.2) (WB D cA ad) (AA ad)) 0 0 (AA ad) := by
  refine Met.ofW (cc := cX11_first) (maxL := 3) (ret := (some .int)) (by decide) rfl ?_
  intro p e s m args below meth c s₁ B hml hv
  obtain ⟨rfl, hP, hK, hN⟩ := hv
  have C : Cy p s m _ meth c cX11_first 3 wsX11_first RX11 D cA ad (some .int) := ⟨B.exec, B.bytes, hml, findClass_of_methodNamed B.named, atoms_spec (ws := wsX11_first) B.pre, hK, B.notSynchronized, B.returns, hI, hN⟩
  have hl := lv_entry ([.ref (ad 0), .int a1, .int a2]) (n := 3) (Nat.le_of_ble_eq_true rfl)
  rw [lg_entry_eq]
  generalize (lg_sl ([.ref (ad 0), .int a1, .int a2]) ++ List.replicate (3 - (lg_sl ([.ref (ad 0), .int a1, .int a2])).length) Slot.unset).toArray = ls at hl ⊢
  have hl : lv_has ls 3 [(0, .ref (ad 0)), (1, .int a1), (2, .int a2)] := hl
  have hS : va_S (AA ad) s.heap s.heap [] := va_S.rf
  have hF : Fr L_X11_first σ0 σ0 := Fr.rf
  have hFL : FrL LL_X11_first τ0 τ0 := FrL.rf
  obtain ⟨hx, hb, _, hown, hts, _, hk, hr, _, _⟩ := C
  refine lv_aload_n hx hb dX11_first_0 rfl (lv_at hl 0 rfl) ?_
  refine fg_11_1 (k := 0) hx hb hts in_X11_first_11 hown hK hP (by decide) (by decide) (hts _ lk_X11_first_19) dX11_first_1 ?_
  refine lv_iload_n hx hb dX11_first_4 rfl (lv_at hl 1 rfl) ?_
  refine r_cVi (k := 2) (As := [.int a1]) (rest := []) ⟨hx, hb, hml, hown, hts⟩ hK hP hN hS (c_X9_hasFlight l D cA ad hI σ0 τ0 hR 2 a1 ⟨by omega, by omega⟩) (cwV 1 hts gX11_first_X9_hasFlight rfl rfl rfl (by decide +kernel) ⟨by decide, by decide⟩) (rv_Valley hK hP (by decide) (by decide)) rfl hl.1 rfl (Nat.le_of_ble_eq_true rfl) dX11_first_5 (Nat.zero_le _) (Nat.zero_le _) (fun r1 u1 H1 locs1 hp1 hP hS => ?_)
  obtain ⟨σ1, τ1⟩ := u1
  obtain ⟨hR, f1, fL1, hq1, hp1_0, hp1_1⟩ : P_X9_hasFlight σ0 τ0 2 a1 r1 σ1 τ1 := hp1
  have hP : va_P D vwCl (gw cA ad σ1 τ1) H1 := hP
  obtain rfl := FrL.nil fL1
  obtain rfl := Fr.nil f1
  refine r_if_eq (tgt := 20) hx hb dX11_first_8 (by decide) (fun c2 => ?_) (fun c2 => ?_)
  · refine r_iconst hx hb dX11_first_20 (by decide) (fun z3 ez3 => ?_)
    exact r_iret hx hb hr hK hP hS hk dX11_first_21 (show P_X11_first σ0 τ0 a1 a2 z3 σ0 τ0 from ⟨hR, hF, hFL, by omega⟩)
  · refine lv_iload_n hx hb dX11_first_11 rfl (lv_at hl 2 rfl) ?_
    refine r_if_lt (tgt := 20) hx hb dX11_first_12 (by decide) (fun c4 => ?_) (fun c4 => ?_)
    · refine r_iconst hx hb dX11_first_20 (by decide) (fun z5 ez5 => ?_)
      exact r_iret hx hb hr hK hP hS hk dX11_first_21 (show P_X11_first σ0 τ0 a1 a2 z5 σ0 τ0 from ⟨hR, hF, hFL, by omega⟩)
    · refine lv_iload_n hx hb dX11_first_15 rfl (lv_at hl 2 rfl) ?_
      refine r_iconst hx hb dX11_first_16 (by decide) (fun z6 ez6 => ?_)
      refine r_icmp_le (tgt := 22) hx hb dX11_first_17 (by decide) (fun c7 => ?_) (fun c7 => ?_)
      · refine lv_aload_n hx hb dX11_first_22 rfl (lv_at hl 0 rfl) ?_
        refine fg_11_8 (k := 0) hx hb hts in_X11_first_11 hown hK hP (by decide) (by decide) (hts _ lk_X11_first_60) dX11_first_23 ?_
        refine lv_aload_n hx hb dX11_first_26 rfl (lv_at hl 0 rfl) ?_
        refine fg_11_4 (k := 0) hx hb hts in_X11_first_11 hown hK hP (by decide) (by decide) (hts _ lk_X11_first_38) dX11_first_27 ?_
        refine r_cVv (k := 21) (As := [.ref (ad 7)]) (rest := []) ⟨hx, hb, hml, hown, hts⟩ hK hP hN hS (c_X1_pitch l D cA ad hI σ0 τ0 hR 7 ⟨by omega, by omega⟩) (cwV 1 hts gX11_first_X1_pitch rfl rfl rfl (by decide +kernel) ⟨by decide, by decide⟩) (rv_Camp hK hP (by decide) (by decide)) rfl hl.1 rfl (Nat.le_of_ble_eq_true rfl) dX11_first_30 (Nat.zero_le _) (Nat.zero_le _) (fun u8 H8 locs8 hp8 hP hS => ?_)
        obtain ⟨σ8, τ8⟩ := u8
        obtain ⟨hR, f8, fL8⟩ : P_X1_pitch σ0 τ0 7 σ8 τ8 := hp8
        have hP : va_P D vwCl (gw cA ad σ8 τ8) H8 := hP
        obtain rfl := FrL.nil fL8
        have hF := hF.step f8 (by decide)
        refine lv_aload_n hx hb dX11_first_33 rfl (lv_at hl 0 rfl) ?_
        refine fg_11_8 (k := 0) hx hb hts in_X11_first_11 hown hK hP (by decide) (by decide) (hts _ lk_X11_first_60) dX11_first_34 ?_
        refine lv_iload_n hx hb dX11_first_37 rfl (lv_at hl 1 rfl) ?_
        refine r_cVv (k := 21) (As := [.int a1]) (rest := []) ⟨hx, hb, hml, hown, hts⟩ hK hP hN hS (c_X1_listen l D cA ad hI σ8 τ0 hR a1 (by omega)) (cwV 1 hts gX11_first_X1_listen rfl rfl rfl (by decide +kernel) ⟨by decide, by decide⟩) (rv_Camp hK hP (by decide) (by decide)) rfl hl.1 rfl (Nat.le_of_ble_eq_true rfl) dX11_first_38 (Nat.zero_le _) (Nat.zero_le _) (fun u9 H9 locs9 hp9 hP hS => ?_)
        obtain ⟨σ9, τ9⟩ := u9
        obtain ⟨hR, f9, fL9⟩ : P_X1_listen σ8 τ0 a1 σ9 τ9 := hp9
        have hP : va_P D vwCl (gw cA ad σ9 τ9) H9 := hP
        obtain rfl := FrL.nil fL9
        have hF := hF.step f9 (by decide)
        refine lv_aload_n hx hb dX11_first_41 rfl (lv_at hl 0 rfl) ?_
        refine fg_11_8 (k := 0) hx hb hts in_X11_first_11 hown hK hP (by decide) (by decide) (hts _ lk_X11_first_60) dX11_first_42 ?_
        refine lv_iload_n hx hb dX11_first_45 rfl (lv_at hl 1 rfl) ?_
        refine lv_iload_n hx hb dX11_first_46 rfl (lv_at hl 2 rfl) ?_
        refine r_cVi (k := 21) (As := [.int a1, .int a2]) (rest := []) ⟨hx, hb, hml, hown, hts⟩ hK hP hN hS (c_X1_firstHeard l D cA ad hI σ9 τ0 hR a1 a2 (by omega) (by omega)) (cwV 2 hts gX11_first_X1_firstHeard rfl rfl rfl (by decide +kernel) ⟨by decide, by decide⟩) (rv_Camp hK hP (by decide) (by decide)) rfl hl.1 rfl (Nat.le_of_ble_eq_true rfl) dX11_first_47 (Nat.zero_le _) (Nat.zero_le _) (fun r10 u10 H10 locs10 hp10 hP hS => ?_)
        obtain ⟨σ10, τ10⟩ := u10
        obtain ⟨hR, f10, fL10, hq10⟩ : P_X1_firstHeard σ9 τ0 a1 a2 r10 σ10 τ10 := hp10
        have hP : va_P D vwCl (gw cA ad σ10 τ10) H10 := hP
        obtain rfl := FrL.nil fL10
        obtain rfl := Fr.nil f10
        exact r_iret hx hb hr hK hP hS hk dX11_first_50 (show P_X11_first σ0 τ0 a1 a2 r10 σ9 τ0 from ⟨hR, hF, hFL, by omega⟩)
      · refine r_iconst hx hb dX11_first_20 (by decide) (fun z11 ez11 => ?_)
        exact r_iret hx hb hr hK hP hS hk dX11_first_21 (show P_X11_first σ0 τ0 a1 a2 z11 σ0 τ0 from ⟨hR, hF, hFL, by omega⟩)
theorem in_X11_lied_11 : ∀ w ∈ u_ws RX11 TX11 19, w ∈ wsX11_lied := by decide +kernel
theorem lk_X11_lied_38 : Cond.fieldLink RX11 38 "CuckooShares" "days" "LCuckooShares$Days;" ∈ wsX11_lied := by decide +kernel
theorem lk_X11_lied_69 : Cond.fieldLink RX11 69 "CuckooShares" "acts" "LCuckooShares$Acts;" ∈ wsX11_lied := by decide +kernel
abbrev L_X11_lied : List Rc := [(360, 360, 0, 7), (361, 361, 0, 7), (362, 362, 0, 7)]
abbrev LL_X11_lied : List Rc := []
def P_X11_lied (σ0 : Nat → Nat → Int32) (τ0 : Nat → Nat → Int64)  (r : Int32) (σ : Nat → Nat → Int32) (τ : Nat → Nat → Int64) : Prop := Rg σ ∧ Fr L_X11_lied σ0 σ ∧ FrL LL_X11_lied τ0 τ
set_option maxHeartbeats 4000000 in
theorem c_X11_lied (l : Launch) (D : va_G) (cA : Nat → ClassId) (ad : Nat → Nat) (hI : Inj ad) (σ0 : Nat → Nat → Int32) (τ0 : Nat → Nat → Int64) (hR : Rg σ0)   : Met l yX11_lied wsX11_lied ({ frames := 5, cells := 0, slots := 0, locals := 119 } : Room) (WQc D cA ad [.ref (ad 0)] σ0 τ0) (va_Qi (fun (r : Int32) (u : SS) => P_X11_lied σ0 τ0 r u.1 u.2) (WB D cA ad) (AA ad)) 0 0 (AA ad) := by
  refine Met.ofW (cc := cX11_lied) (maxL := 1) (ret := (some .int)) (by decide) rfl ?_
  intro p e s m args below meth c s₁ B hml hv
  obtain ⟨rfl, hP, hK, hN⟩ := hv
  have C : Cy p s m _ meth c cX11_lied 1 wsX11_lied RX11 D cA ad (some .int) := ⟨B.exec, B.bytes, hml, findClass_of_methodNamed B.named, atoms_spec (ws := wsX11_lied) B.pre, hK, B.notSynchronized, B.returns, hI, hN⟩
  have hl := lv_entry ([.ref (ad 0)]) (n := 1) (Nat.le_of_ble_eq_true rfl)
  rw [lg_entry_eq]
  generalize (lg_sl ([.ref (ad 0)]) ++ List.replicate (1 - (lg_sl ([.ref (ad 0)])).length) Slot.unset).toArray = ls at hl ⊢
  have hl : lv_has ls 1 [(0, .ref (ad 0))] := hl
  have hS : va_S (AA ad) s.heap s.heap [] := va_S.rf
  have hF : Fr L_X11_lied σ0 σ0 := Fr.rf
  have hFL : FrL LL_X11_lied τ0 τ0 := FrL.rf
  obtain ⟨hx, hb, _, hown, hts, _, hk, hr, _, _⟩ := C
  refine lv_aload_n hx hb dX11_lied_0 rfl (lv_at hl 0 rfl) ?_
  refine fg_11_9 (k := 0) hx hb hts in_X11_lied_11 hown hK hP (by decide) (by decide) (hts _ lk_X11_lied_69) dX11_lied_1 ?_
  refine lv_aload_n hx hb dX11_lied_4 rfl (lv_at hl 0 rfl) ?_
  refine fg_11_4 (k := 0) hx hb hts in_X11_lied_11 hown hK hP (by decide) (by decide) (hts _ lk_X11_lied_38) dX11_lied_5 ?_
  refine r_cVi (k := 22) (As := [.ref (ad 7)]) (rest := []) ⟨hx, hb, hml, hown, hts⟩ hK hP hN hS (c_X0_liars l D cA ad hI σ0 τ0 hR) (cwV 1 hts gX11_lied_X0_liars rfl rfl rfl (by decide +kernel) ⟨by decide, by decide⟩) (rv_Acts hK hP (by decide) (by decide)) rfl hl.1 rfl (Nat.le_of_ble_eq_true rfl) dX11_lied_8 (Nat.zero_le _) (Nat.zero_le _) (fun r1 u1 H1 locs1 hp1 hP hS => ?_)
  obtain ⟨σ1, τ1⟩ := u1
  obtain ⟨hR, f1, fL1⟩ : P_X0_liars σ0 τ0 r1 σ1 τ1 := hp1
  have hP : va_P D vwCl (gw cA ad σ1 τ1) H1 := hP
  obtain rfl := FrL.nil fL1
  have hF := hF.step f1 (by decide)
  exact r_iret hx hb hr hK hP hS hk dX11_lied_11 (show P_X11_lied σ0 τ0 r1 σ1 τ0 from ⟨hR, hF, hFL⟩)
theorem in_X11_nearer_11 : ∀ w ∈ u_ws RX11 TX11 19, w ∈ wsX11_nearer := by decide +kernel
theorem lk_X11_nearer_19 : Cond.fieldLink RX11 19 "CuckooShares" "valley" "LCuckooShares$Valley;" ∈ wsX11_nearer := by decide +kernel
theorem lk_X11_nearer_38 : Cond.fieldLink RX11 38 "CuckooShares" "days" "LCuckooShares$Days;" ∈ wsX11_nearer := by decide +kernel
theorem lk_X11_nearer_69 : Cond.fieldLink RX11 69 "CuckooShares" "acts" "LCuckooShares$Acts;" ∈ wsX11_nearer := by decide +kernel
abbrev L_X11_nearer : List Rc := [(360, 360, 0, 7), (361, 361, 0, 7), (362, 362, 0, 7)]
abbrev LL_X11_nearer : List Rc := []
def P_X11_nearer (σ0 : Nat → Nat → Int32) (τ0 : Nat → Nat → Int64) (a1 : Int32) (r : Int32) (σ : Nat → Nat → Int32) (τ : Nat → Nat → Int64) : Prop := Rg σ ∧ Fr L_X11_nearer σ0 σ ∧ FrL LL_X11_nearer τ0 τ
set_option maxHeartbeats 4000000 in
theorem c_X11_nearer (l : Launch) (D : va_G) (cA : Nat → ClassId) (ad : Nat → Nat) (hI : Inj ad) (σ0 : Nat → Nat → Int32) (τ0 : Nat → Nat → Int64) (hR : Rg σ0) (a1 : Int32)  : Met l yX11_nearer wsX11_nearer ({ frames := 6, cells := 0, slots := 0, locals := 143 } : Room) (WQc D cA ad [.ref (ad 0), .int a1] σ0 τ0) (va_Qi (fun (r : Int32) (u : SS) => P_X11_nearer σ0 τ0 a1 r u.1 u.2) (WB D cA ad) (AA ad)) 0 0 (AA ad) := by
  refine Met.ofW (cc := cX11_nearer) (maxL := 2) (ret := (some .int)) (by decide) rfl ?_
  intro p e s m args below meth c s₁ B hml hv
  obtain ⟨rfl, hP, hK, hN⟩ := hv
  have C : Cy p s m _ meth c cX11_nearer 2 wsX11_nearer RX11 D cA ad (some .int) := ⟨B.exec, B.bytes, hml, findClass_of_methodNamed B.named, atoms_spec (ws := wsX11_nearer) B.pre, hK, B.notSynchronized, B.returns, hI, hN⟩
  have hl := lv_entry ([.ref (ad 0), .int a1]) (n := 2) (Nat.le_of_ble_eq_true rfl)
  rw [lg_entry_eq]
  generalize (lg_sl ([.ref (ad 0), .int a1]) ++ List.replicate (2 - (lg_sl ([.ref (ad 0), .int a1])).length) Slot.unset).toArray = ls at hl ⊢
  have hl : lv_has ls 2 [(0, .ref (ad 0)), (1, .int a1)] := hl
  have hS : va_S (AA ad) s.heap s.heap [] := va_S.rf
  have hF : Fr L_X11_nearer σ0 σ0 := Fr.rf
  have hFL : FrL LL_X11_nearer τ0 τ0 := FrL.rf
  obtain ⟨hx, hb, _, hown, hts, _, hk, hr, _, _⟩ := C
  refine lv_aload_n hx hb dX11_nearer_0 rfl (lv_at hl 0 rfl) ?_
  refine fg_11_1 (k := 0) hx hb hts in_X11_nearer_11 hown hK hP (by decide) (by decide) (hts _ lk_X11_nearer_19) dX11_nearer_1 ?_
  refine lv_iload_n hx hb dX11_nearer_4 rfl (lv_at hl 1 rfl) ?_
  refine r_cVi (k := 2) (As := [.int a1]) (rest := []) ⟨hx, hb, hml, hown, hts⟩ hK hP hN hS (c_X9_hasMan l D cA ad hI σ0 τ0 hR 2 a1 ⟨by omega, by omega⟩) (cwV 1 hts gX11_nearer_X9_hasMan rfl rfl rfl (by decide +kernel) ⟨by decide, by decide⟩) (rv_Valley hK hP (by decide) (by decide)) rfl hl.1 rfl (Nat.le_of_ble_eq_true rfl) dX11_nearer_5 (Nat.zero_le _) (Nat.zero_le _) (fun r1 u1 H1 locs1 hp1 hP hS => ?_)
  obtain ⟨σ1, τ1⟩ := u1
  obtain ⟨hR, f1, fL1, hq1, hp1_0⟩ : P_X9_hasMan σ0 τ0 2 a1 r1 σ1 τ1 := hp1
  have hP : va_P D vwCl (gw cA ad σ1 τ1) H1 := hP
  obtain rfl := FrL.nil fL1
  obtain rfl := Fr.nil f1
  refine r_if_ne (tgt := 13) hx hb dX11_nearer_8 (by decide) (fun c2 => ?_) (fun c2 => ?_)
  · refine lv_aload_n hx hb dX11_nearer_13 rfl (lv_at hl 0 rfl) ?_
    refine fg_11_9 (k := 0) hx hb hts in_X11_nearer_11 hown hK hP (by decide) (by decide) (hts _ lk_X11_nearer_69) dX11_nearer_14 ?_
    refine lv_aload_n hx hb dX11_nearer_17 rfl (lv_at hl 0 rfl) ?_
    refine fg_11_4 (k := 0) hx hb hts in_X11_nearer_11 hown hK hP (by decide) (by decide) (hts _ lk_X11_nearer_38) dX11_nearer_18 ?_
    refine lv_iload_n hx hb dX11_nearer_21 rfl (lv_at hl 1 rfl) ?_
    refine r_cVi (k := 22) (As := [.ref (ad 7), .int a1]) (rest := []) ⟨hx, hb, hml, hown, hts⟩ hK hP hN hS (c_X0_strikers l D cA ad hI σ0 τ0 hR a1 (by omega)) (cwV 2 hts gX11_nearer_X0_strikers rfl rfl rfl (by decide +kernel) ⟨by decide, by decide⟩) (rv_Acts hK hP (by decide) (by decide)) rfl hl.1 rfl (Nat.le_of_ble_eq_true rfl) dX11_nearer_22 (Nat.zero_le _) (Nat.zero_le _) (fun r3 u3 H3 locs3 hp3 hP hS => ?_)
    obtain ⟨σ3, τ3⟩ := u3
    obtain ⟨hR, f3, fL3⟩ : P_X0_strikers σ0 τ0 a1 r3 σ3 τ3 := hp3
    have hP : va_P D vwCl (gw cA ad σ3 τ3) H3 := hP
    obtain rfl := FrL.nil fL3
    have hF := hF.step f3 (by decide)
    exact r_iret hx hb hr hK hP hS hk dX11_nearer_25 (show P_X11_nearer σ0 τ0 a1 r3 σ3 τ0 from ⟨hR, hF, hFL⟩)
  · refine r_iconst hx hb dX11_nearer_11 (by decide) (fun z4 ez4 => ?_)
    exact r_iret hx hb hr hK hP hS hk dX11_nearer_12 (show P_X11_nearer σ0 τ0 a1 z4 σ0 τ0 from ⟨hR, hF, hFL⟩)
theorem in_X11_due_11 : ∀ w ∈ u_ws RX11 TX11 19, w ∈ wsX11_due := by decide +kernel
theorem in_X11_due_2 : ∀ w ∈ u_ws RX2 TX2 7, w ∈ wsX11_due := by decide +kernel
theorem in_X11_due_9 : ∀ w ∈ u_ws RX9 TX9 14, w ∈ wsX11_due := by decide +kernel
theorem lk_X11_due_19 : Cond.fieldLink RX11 19 "CuckooShares" "valley" "LCuckooShares$Valley;" ∈ wsX11_due := by decide +kernel
theorem lk_X11_due_38 : Cond.fieldLink RX11 38 "CuckooShares" "days" "LCuckooShares$Days;" ∈ wsX11_due := by decide +kernel
theorem lk_X11_due_60 : Cond.fieldLink RX11 60 "CuckooShares" "camp" "LCuckooShares$Camp;" ∈ wsX11_due := by decide +kernel
abbrev L_X11_due : List Rc := [(360, 360, 0, 7), (361, 361, 0, 7), (362, 362, 0, 7), (365, 365, 0, 1), (366, 366, 0, 1), (367, 367, 0, 1)]
abbrev LL_X11_due : List Rc := []
def P_X11_due (σ0 : Nat → Nat → Int32) (τ0 : Nat → Nat → Int64) (a1 : Int32) (r : Int32) (σ : Nat → Nat → Int32) (τ : Nat → Nat → Int64) : Prop := Rg σ ∧ Fr L_X11_due σ0 σ ∧ FrL LL_X11_due τ0 τ
set_option maxHeartbeats 4000000 in
theorem c_X11_due (l : Launch) (D : va_G) (cA : Nat → ClassId) (ad : Nat → Nat) (hI : Inj ad) (σ0 : Nat → Nat → Int32) (τ0 : Nat → Nat → Int64) (hR : Rg σ0) (a1 : Int32)  : Met l yX11_due wsX11_due ({ frames := 3, cells := 0, slots := 0, locals := 72 } : Room) (WQc D cA ad [.ref (ad 0), .int a1] σ0 τ0) (va_Qi (fun (r : Int32) (u : SS) => P_X11_due σ0 τ0 a1 r u.1 u.2) (WB D cA ad) (AA ad)) 0 0 (AA ad) := by
  refine Met.ofW (cc := cX11_due) (maxL := 2) (ret := (some .int)) (by decide) rfl ?_
  intro p e s m args below meth c s₁ B hml hv
  obtain ⟨rfl, hP, hK, hN⟩ := hv
  have C : Cy p s m _ meth c cX11_due 2 wsX11_due RX11 D cA ad (some .int) := ⟨B.exec, B.bytes, hml, findClass_of_methodNamed B.named, atoms_spec (ws := wsX11_due) B.pre, hK, B.notSynchronized, B.returns, hI, hN⟩
  have hl := lv_entry ([.ref (ad 0), .int a1]) (n := 2) (Nat.le_of_ble_eq_true rfl)
  rw [lg_entry_eq]
  generalize (lg_sl ([.ref (ad 0), .int a1]) ++ List.replicate (2 - (lg_sl ([.ref (ad 0), .int a1])).length) Slot.unset).toArray = ls at hl ⊢
  have hl : lv_has ls 2 [(0, .ref (ad 0)), (1, .int a1)] := hl
  have hS : va_S (AA ad) s.heap s.heap [] := va_S.rf
  have hF : Fr L_X11_due σ0 σ0 := Fr.rf
  have hFL : FrL LL_X11_due τ0 τ0 := FrL.rf
  obtain ⟨hx, hb, _, hown, hts, _, hk, hr, _, _⟩ := C
  refine lv_aload_n hx hb dX11_due_0 rfl (lv_at hl 0 rfl) ?_
  refine fg_11_1 (k := 0) hx hb hts in_X11_due_11 hown hK hP (by decide) (by decide) (hts _ lk_X11_due_19) dX11_due_1 ?_
  refine lv_iload_n hx hb dX11_due_4 rfl (lv_at hl 1 rfl) ?_
  refine r_cVi (k := 2) (As := [.int a1]) (rest := []) ⟨hx, hb, hml, hown, hts⟩ hK hP hN hS (c_X9_hasMan l D cA ad hI σ0 τ0 hR 2 a1 ⟨by omega, by omega⟩) (cwV 1 hts gX11_due_X9_hasMan rfl rfl rfl (by decide +kernel) ⟨by decide, by decide⟩) (rv_Valley hK hP (by decide) (by decide)) rfl hl.1 rfl (Nat.le_of_ble_eq_true rfl) dX11_due_5 (Nat.zero_le _) (Nat.zero_le _) (fun r1 u1 H1 locs1 hp1 hP hS => ?_)
  obtain ⟨σ1, τ1⟩ := u1
  obtain ⟨hR, f1, fL1, hq1, hp1_0⟩ : P_X9_hasMan σ0 τ0 2 a1 r1 σ1 τ1 := hp1
  have hP : va_P D vwCl (gw cA ad σ1 τ1) H1 := hP
  obtain rfl := FrL.nil fL1
  obtain rfl := Fr.nil f1
  refine r_if_eq (tgt := 28) hx hb dX11_due_8 (by decide) (fun c2 => ?_) (fun c2 => ?_)
  · refine r_iconst hx hb dX11_due_28 (by decide) (fun z3 ez3 => ?_)
    exact r_iret hx hb hr hK hP hS hk dX11_due_29 (show P_X11_due σ0 τ0 a1 z3 σ0 τ0 from ⟨hR, hF, hFL⟩)
  · refine lv_aload_n hx hb dX11_due_11 rfl (lv_at hl 0 rfl) ?_
    refine fg_11_1 (k := 0) hx hb hts in_X11_due_11 hown hK hP (by decide) (by decide) (hts _ lk_X11_due_19) dX11_due_12 ?_
    refine lv_aload_n hx hb dX11_due_15 rfl (lv_at hl 0 rfl) ?_
    refine fg_11_4 (k := 0) hx hb hts in_X11_due_11 hown hK hP (by decide) (by decide) (hts _ lk_X11_due_38) dX11_due_16 ?_
    refine fgN_2_1 (k := 7) hx hb hts in_X11_due_2 hown hK hP (by decide) (by decide) (hN.use nw_11_217) dX11_due_19 ?_
    refine r_cVi (k := 2) (As := [.int (σ0 7 1)]) (rest := []) ⟨hx, hb, hml, hown, hts⟩ hK hP hN hS (c_X9_hasFlight l D cA ad hI σ0 τ0 hR 2 (σ0 7 1) ⟨by omega, by omega⟩) (cwV 1 hts gX11_due_X9_hasFlight rfl rfl rfl (by decide +kernel) ⟨by decide, by decide⟩) (rv_Valley hK hP (by decide) (by decide)) rfl hl.1 rfl (Nat.le_of_ble_eq_true rfl) dX11_due_22 (Nat.zero_le _) (Nat.zero_le _) (fun r4 u4 H4 locs4 hp4 hP hS => ?_)
    obtain ⟨σ4, τ4⟩ := u4
    obtain ⟨hR, f4, fL4, hq4, hp4_0, hp4_1⟩ : P_X9_hasFlight σ0 τ0 2 (σ0 7 1) r4 σ4 τ4 := hp4
    have hP : va_P D vwCl (gw cA ad σ4 τ4) H4 := hP
    obtain rfl := FrL.nil fL4
    obtain rfl := Fr.nil f4
    refine r_if_ne (tgt := 30) hx hb dX11_due_25 (by decide) (fun c5 => ?_) (fun c5 => ?_)
    · refine lv_aload_n hx hb dX11_due_30 rfl (lv_at hl 0 rfl) ?_
      refine fg_11_8 (k := 0) hx hb hts in_X11_due_11 hown hK hP (by decide) (by decide) (hts _ lk_X11_due_60) dX11_due_31 ?_
      refine lv_aload_n hx hb dX11_due_34 rfl (lv_at hl 0 rfl) ?_
      refine fg_11_4 (k := 0) hx hb hts in_X11_due_11 hown hK hP (by decide) (by decide) (hts _ lk_X11_due_38) dX11_due_35 ?_
      refine r_cVv (k := 21) (As := [.ref (ad 7)]) (rest := []) ⟨hx, hb, hml, hown, hts⟩ hK hP hN hS (c_X1_pitch l D cA ad hI σ0 τ0 hR 7 ⟨by omega, by omega⟩) (cwV 1 hts gX11_due_X1_pitch rfl rfl rfl (by decide +kernel) ⟨by decide, by decide⟩) (rv_Camp hK hP (by decide) (by decide)) rfl hl.1 rfl (Nat.le_of_ble_eq_true rfl) dX11_due_38 (Nat.zero_le _) (Nat.zero_le _) (fun u6 H6 locs6 hp6 hP hS => ?_)
      obtain ⟨σ6, τ6⟩ := u6
      obtain ⟨hR, f6, fL6⟩ : P_X1_pitch σ0 τ0 7 σ6 τ6 := hp6
      have hP : va_P D vwCl (gw cA ad σ6 τ6) H6 := hP
      obtain rfl := FrL.nil fL6
      have hF := hF.step f6 (by decide)
      refine lv_aload_n hx hb dX11_due_41 rfl (lv_at hl 0 rfl) ?_
      refine fg_11_8 (k := 0) hx hb hts in_X11_due_11 hown hK hP (by decide) (by decide) (hts _ lk_X11_due_60) dX11_due_42 ?_
      refine lv_aload_n hx hb dX11_due_45 rfl (lv_at hl 0 rfl) ?_
      refine fg_11_4 (k := 0) hx hb hts in_X11_due_11 hown hK hP (by decide) (by decide) (hts _ lk_X11_due_38) dX11_due_46 ?_
      refine r_cVv (k := 21) (As := [.ref (ad 7)]) (rest := []) ⟨hx, hb, hml, hown, hts⟩ hK hP hN hS (c_X1_countOaths l D cA ad hI σ6 τ0 hR 7 ⟨by omega, by omega⟩) (cwV 1 hts gX11_due_X1_countOaths rfl rfl rfl (by decide +kernel) ⟨by decide, by decide⟩) (rv_Camp hK hP (by decide) (by decide)) rfl hl.1 rfl (Nat.le_of_ble_eq_true rfl) dX11_due_49 (Nat.zero_le _) (Nat.zero_le _) (fun u7 H7 locs7 hp7 hP hS => ?_)
      obtain ⟨σ7, τ7⟩ := u7
      obtain ⟨hR, f7, fL7⟩ : P_X1_countOaths σ6 τ0 7 σ7 τ7 := hp7
      have hP : va_P D vwCl (gw cA ad σ7 τ7) H7 := hP
      obtain rfl := FrL.nil fL7
      have hF := hF.step f7 (by decide)
      refine lv_aload_n hx hb dX11_due_52 rfl (lv_at hl 0 rfl) ?_
      refine fg_11_8 (k := 0) hx hb hts in_X11_due_11 hown hK hP (by decide) (by decide) (hts _ lk_X11_due_60) dX11_due_53 ?_
      refine lv_iload_n hx hb dX11_due_56 rfl (lv_at hl 1 rfl) ?_
      refine lv_aload_n hx hb dX11_due_57 rfl (lv_at hl 0 rfl) ?_
      refine fg_11_1 (k := 0) hx hb hts in_X11_due_11 hown hK hP (by decide) (by decide) (hts _ lk_X11_due_19) dX11_due_58 ?_
      refine fgN_9_1 (k := 2) hx hb hts in_X11_due_9 hown hK hP (by decide) (by decide) (hN.use nw_11_245) dX11_due_61 ?_
      refine r_cVi (k := 21) (As := [.int a1, .int (σ7 2 1)]) (rest := []) ⟨hx, hb, hml, hown, hts⟩ hK hP hN hS (c_X1_portion l D cA ad hI σ7 τ0 hR a1 (σ7 2 1) (by omega)) (cwV 2 hts gX11_due_X1_portion rfl rfl rfl (by decide +kernel) ⟨by decide, by decide⟩) (rv_Camp hK hP (by decide) (by decide)) rfl hl.1 rfl (Nat.le_of_ble_eq_true rfl) dX11_due_64 (Nat.zero_le _) (Nat.zero_le _) (fun r8 u8 H8 locs8 hp8 hP hS => ?_)
      obtain ⟨σ8, τ8⟩ := u8
      obtain ⟨hR, f8, fL8⟩ : P_X1_portion σ7 τ0 a1 (σ7 2 1) r8 σ8 τ8 := hp8
      have hP : va_P D vwCl (gw cA ad σ8 τ8) H8 := hP
      obtain rfl := FrL.nil fL8
      obtain rfl := Fr.nil f8
      exact r_iret hx hb hr hK hP hS hk dX11_due_67 (show P_X11_due σ0 τ0 a1 r8 σ7 τ0 from ⟨hR, hF, hFL⟩)
    · refine r_iconst hx hb dX11_due_28 (by decide) (fun z9 ez9 => ?_)
      exact r_iret hx hb hr hK hP hS hk dX11_due_29 (show P_X11_due σ0 τ0 a1 z9 σ0 τ0 from ⟨hR, hF, hFL⟩)
theorem in_X11_countHonest_11 : ∀ w ∈ u_ws RX11 TX11 19, w ∈ wsX11_countHonest := by decide +kernel
theorem lk_X11_countHonest_38 : Cond.fieldLink RX11 38 "CuckooShares" "days" "LCuckooShares$Days;" ∈ wsX11_countHonest := by decide +kernel
theorem lk_X11_countHonest_60 : Cond.fieldLink RX11 60 "CuckooShares" "camp" "LCuckooShares$Camp;" ∈ wsX11_countHonest := by decide +kernel
abbrev L_X11_countHonest : List Rc := [(363, 363, 0, 39), (360, 360, 0, 7), (361, 361, 0, 7), (362, 362, 0, 7), (365, 365, 0, 1), (366, 366, 0, 1), (367, 367, 0, 1)]
abbrev LL_X11_countHonest : List Rc := []
def P_X11_countHonest (σ0 : Nat → Nat → Int32) (τ0 : Nat → Nat → Int64) (a1 : Int32) (σ : Nat → Nat → Int32) (τ : Nat → Nat → Int64) : Prop := Rg σ ∧ Fr L_X11_countHonest σ0 σ ∧ FrL LL_X11_countHonest τ0 τ
set_option maxHeartbeats 4000000 in
theorem c_X11_countHonest (l : Launch) (D : va_G) (cA : Nat → ClassId) (ad : Nat → Nat) (hI : Inj ad) (σ0 : Nat → Nat → Int32) (τ0 : Nat → Nat → Int64) (hR : Rg σ0) (a1 : Int32) (ha1 : 0 ≤ a1.toInt ∧ a1.toInt ≤ 3) : Met l yX11_countHonest wsX11_countHonest ({ frames := 5, cells := 0, slots := 0, locals := 117 } : Room) (WQc D cA ad [.ref (ad 0), .int a1] σ0 τ0) (va_Qv (fun u : SS => P_X11_countHonest σ0 τ0 a1 u.1 u.2) (WB D cA ad) (AA ad)) 0 0 (AA ad) := by
  refine Met.ofW (cc := cX11_countHonest) (maxL := 2) (ret := none) (by decide) rfl ?_
  intro p e s m args below meth c s₁ B hml hv
  obtain ⟨rfl, hP, hK, hN⟩ := hv
  have C : Cy p s m _ meth c cX11_countHonest 2 wsX11_countHonest RX11 D cA ad none := ⟨B.exec, B.bytes, hml, findClass_of_methodNamed B.named, atoms_spec (ws := wsX11_countHonest) B.pre, hK, B.notSynchronized, B.returns, hI, hN⟩
  have hl := lv_entry ([.ref (ad 0), .int a1]) (n := 2) (Nat.le_of_ble_eq_true rfl)
  rw [lg_entry_eq]
  generalize (lg_sl ([.ref (ad 0), .int a1]) ++ List.replicate (2 - (lg_sl ([.ref (ad 0), .int a1])).length) Slot.unset).toArray = ls at hl ⊢
  have hl : lv_has ls 2 [(0, .ref (ad 0)), (1, .int a1)] := hl
  have hS : va_S (AA ad) s.heap s.heap [] := va_S.rf
  have hF : Fr L_X11_countHonest σ0 σ0 := Fr.rf
  have hFL : FrL LL_X11_countHonest τ0 τ0 := FrL.rf
  obtain ⟨hx, hb, _, hown, hts, _, hk, hr, _, _⟩ := C
  refine lv_aload_n hx hb dX11_countHonest_0 rfl (lv_at hl 0 rfl) ?_
  refine fg_11_8 (k := 0) hx hb hts in_X11_countHonest_11 hown hK hP (by decide) (by decide) (hts _ lk_X11_countHonest_60) dX11_countHonest_1 ?_
  refine lv_aload_n hx hb dX11_countHonest_4 rfl (lv_at hl 0 rfl) ?_
  refine fg_11_4 (k := 0) hx hb hts in_X11_countHonest_11 hown hK hP (by decide) (by decide) (hts _ lk_X11_countHonest_38) dX11_countHonest_5 ?_
  refine r_cVv (k := 21) (As := [.ref (ad 7)]) (rest := []) ⟨hx, hb, hml, hown, hts⟩ hK hP hN hS (c_X1_pitch l D cA ad hI σ0 τ0 hR 7 ⟨by omega, by omega⟩) (cwV 1 hts gX11_countHonest_X1_pitch rfl rfl rfl (by decide +kernel) ⟨by decide, by decide⟩) (rv_Camp hK hP (by decide) (by decide)) rfl hl.1 rfl (Nat.le_of_ble_eq_true rfl) dX11_countHonest_8 (Nat.zero_le _) (Nat.zero_le _) (fun u1 H1 locs1 hp1 hP hS => ?_)
  obtain ⟨σ1, τ1⟩ := u1
  obtain ⟨hR, f1, fL1⟩ : P_X1_pitch σ0 τ0 7 σ1 τ1 := hp1
  have hP : va_P D vwCl (gw cA ad σ1 τ1) H1 := hP
  obtain rfl := FrL.nil fL1
  have hF := hF.step f1 (by decide)
  refine lv_aload_n hx hb dX11_countHonest_11 rfl (lv_at hl 0 rfl) ?_
  refine fg_11_8 (k := 0) hx hb hts in_X11_countHonest_11 hown hK hP (by decide) (by decide) (hts _ lk_X11_countHonest_60) dX11_countHonest_12 ?_
  refine lv_iload_n hx hb dX11_countHonest_15 rfl (lv_at hl 1 rfl) ?_
  refine r_cVv (k := 21) (As := [.int a1]) (rest := []) ⟨hx, hb, hml, hown, hts⟩ hK hP hN hS (c_X1_listen l D cA ad hI σ1 τ0 hR a1 (by omega)) (cwV 1 hts gX11_countHonest_X1_listen rfl rfl rfl (by decide +kernel) ⟨by decide, by decide⟩) (rv_Camp hK hP (by decide) (by decide)) rfl hl.1 rfl (Nat.le_of_ble_eq_true rfl) dX11_countHonest_16 (Nat.zero_le _) (Nat.zero_le _) (fun u2 H2 locs2 hp2 hP hS => ?_)
  obtain ⟨σ2, τ2⟩ := u2
  obtain ⟨hR, f2, fL2⟩ : P_X1_listen σ1 τ0 a1 σ2 τ2 := hp2
  have hP : va_P D vwCl (gw cA ad σ2 τ2) H2 := hP
  obtain rfl := FrL.nil fL2
  have hF := hF.step f2 (by decide)
  refine lv_aload_n hx hb dX11_countHonest_19 rfl (lv_at hl 0 rfl) ?_
  refine fg_11_8 (k := 0) hx hb hts in_X11_countHonest_11 hown hK hP (by decide) (by decide) (hts _ lk_X11_countHonest_60) dX11_countHonest_20 ?_
  refine lv_iload_n hx hb dX11_countHonest_23 rfl (lv_at hl 1 rfl) ?_
  refine r_cVv (k := 21) (As := [.int a1]) (rest := []) ⟨hx, hb, hml, hown, hts⟩ hK hP hN hS (c_X1_countHonest l D cA ad hI σ2 τ0 hR a1 (by omega)) (cwV 1 hts gX11_countHonest_X1_countHonest rfl rfl rfl (by decide +kernel) ⟨by decide, by decide⟩) (rv_Camp hK hP (by decide) (by decide)) rfl hl.1 rfl (Nat.le_of_ble_eq_true rfl) dX11_countHonest_24 (Nat.zero_le _) (Nat.zero_le _) (fun u3 H3 locs3 hp3 hP hS => ?_)
  obtain ⟨σ3, τ3⟩ := u3
  obtain ⟨hR, f3, fL3⟩ : P_X1_countHonest σ2 τ0 a1 σ3 τ3 := hp3
  have hP : va_P D vwCl (gw cA ad σ3 τ3) H3 := hP
  obtain rfl := FrL.nil fL3
  have hF := hF.step f3 (by decide)
  exact r_vret hx hb hr hK hP hS hk dX11_countHonest_27 (show P_X11_countHonest σ0 τ0 a1 σ3 τ0 from ⟨hR, hF, hFL⟩)
theorem in_X11_honest_11 : ∀ w ∈ u_ws RX11 TX11 19, w ∈ wsX11_honest := by decide +kernel
theorem in_X11_honest_9 : ∀ w ∈ u_ws RX9 TX9 14, w ∈ wsX11_honest := by decide +kernel
theorem lk_X11_honest_19 : Cond.fieldLink RX11 19 "CuckooShares" "valley" "LCuckooShares$Valley;" ∈ wsX11_honest := by decide +kernel
theorem lk_X11_honest_60 : Cond.fieldLink RX11 60 "CuckooShares" "camp" "LCuckooShares$Camp;" ∈ wsX11_honest := by decide +kernel
abbrev L_X11_honest : List Rc := [(363, 363, 0, 39), (360, 360, 0, 7), (361, 361, 0, 7), (362, 362, 0, 7), (365, 365, 0, 1), (366, 366, 0, 1), (367, 367, 0, 1)]
abbrev LL_X11_honest : List Rc := []
def P_X11_honest (σ0 : Nat → Nat → Int32) (τ0 : Nat → Nat → Int64) (a1 : Int32) (a2 : Int32) (r : Int32) (σ : Nat → Nat → Int32) (τ : Nat → Nat → Int64) : Prop := Rg σ ∧ Fr L_X11_honest σ0 σ ∧ FrL LL_X11_honest τ0 τ
set_option maxHeartbeats 4000000 in
theorem c_X11_honest (l : Launch) (D : va_G) (cA : Nat → ClassId) (ad : Nat → Nat) (hI : Inj ad) (σ0 : Nat → Nat → Int32) (τ0 : Nat → Nat → Int64) (hR : Rg σ0) (a1 : Int32) (a2 : Int32)  : Met l yX11_honest wsX11_honest ({ frames := 6, cells := 0, slots := 0, locals := 138 } : Room) (WQc D cA ad [.ref (ad 0), .int a1, .int a2] σ0 τ0) (va_Qi (fun (r : Int32) (u : SS) => P_X11_honest σ0 τ0 a1 a2 r u.1 u.2) (WB D cA ad) (AA ad)) 0 0 (AA ad) := by
  refine Met.ofW (cc := cX11_honest) (maxL := 3) (ret := (some .int)) (by decide) rfl ?_
  intro p e s m args below meth c s₁ B hml hv
  obtain ⟨rfl, hP, hK, hN⟩ := hv
  have C : Cy p s m _ meth c cX11_honest 3 wsX11_honest RX11 D cA ad (some .int) := ⟨B.exec, B.bytes, hml, findClass_of_methodNamed B.named, atoms_spec (ws := wsX11_honest) B.pre, hK, B.notSynchronized, B.returns, hI, hN⟩
  have hl := lv_entry ([.ref (ad 0), .int a1, .int a2]) (n := 3) (Nat.le_of_ble_eq_true rfl)
  rw [lg_entry_eq]
  generalize (lg_sl ([.ref (ad 0), .int a1, .int a2]) ++ List.replicate (3 - (lg_sl ([.ref (ad 0), .int a1, .int a2])).length) Slot.unset).toArray = ls at hl ⊢
  have hl : lv_has ls 3 [(0, .ref (ad 0)), (1, .int a1), (2, .int a2)] := hl
  have hS : va_S (AA ad) s.heap s.heap [] := va_S.rf
  have hF : Fr L_X11_honest σ0 σ0 := Fr.rf
  have hFL : FrL LL_X11_honest τ0 τ0 := FrL.rf
  obtain ⟨hx, hb, _, hown, hts, _, hk, hr, _, _⟩ := C
  refine lv_aload_n hx hb dX11_honest_0 rfl (lv_at hl 0 rfl) ?_
  refine fg_11_1 (k := 0) hx hb hts in_X11_honest_11 hown hK hP (by decide) (by decide) (hts _ lk_X11_honest_19) dX11_honest_1 ?_
  refine lv_iload_n hx hb dX11_honest_4 rfl (lv_at hl 1 rfl) ?_
  refine r_cVi (k := 2) (As := [.int a1]) (rest := []) ⟨hx, hb, hml, hown, hts⟩ hK hP hN hS (c_X9_hasMan l D cA ad hI σ0 τ0 hR 2 a1 ⟨by omega, by omega⟩) (cwV 1 hts gX11_honest_X9_hasMan rfl rfl rfl (by decide +kernel) ⟨by decide, by decide⟩) (rv_Valley hK hP (by decide) (by decide)) rfl hl.1 rfl (Nat.le_of_ble_eq_true rfl) dX11_honest_5 (Nat.zero_le _) (Nat.zero_le _) (fun r1 u1 H1 locs1 hp1 hP hS => ?_)
  obtain ⟨σ1, τ1⟩ := u1
  obtain ⟨hR, f1, fL1, hq1, hp1_0⟩ : P_X9_hasMan σ0 τ0 2 a1 r1 σ1 τ1 := hp1
  have hP : va_P D vwCl (gw cA ad σ1 τ1) H1 := hP
  obtain rfl := FrL.nil fL1
  obtain rfl := Fr.nil f1
  refine r_if_eq (tgt := 22) hx hb dX11_honest_8 (by decide) (fun c2 => ?_) (fun c2 => ?_)
  · refine r_iconst hx hb dX11_honest_22 (by decide) (fun z3 ez3 => ?_)
    exact r_iret hx hb hr hK hP hS hk dX11_honest_23 (show P_X11_honest σ0 τ0 a1 a2 z3 σ0 τ0 from ⟨hR, hF, hFL⟩)
  · refine lv_aload_n hx hb dX11_honest_11 rfl (lv_at hl 0 rfl) ?_
    refine fg_11_1 (k := 0) hx hb hts in_X11_honest_11 hown hK hP (by decide) (by decide) (hts _ lk_X11_honest_19) dX11_honest_12 ?_
    refine lv_iload_n hx hb dX11_honest_15 rfl (lv_at hl 2 rfl) ?_
    refine r_cVi (k := 2) (As := [.int a2]) (rest := []) ⟨hx, hb, hml, hown, hts⟩ hK hP hN hS (c_X9_hasFlight l D cA ad hI σ0 τ0 hR 2 a2 ⟨by omega, by omega⟩) (cwV 1 hts gX11_honest_X9_hasFlight rfl rfl rfl (by decide +kernel) ⟨by decide, by decide⟩) (rv_Valley hK hP (by decide) (by decide)) rfl hl.1 rfl (Nat.le_of_ble_eq_true rfl) dX11_honest_16 (Nat.zero_le _) (Nat.zero_le _) (fun r4 u4 H4 locs4 hp4 hP hS => ?_)
    obtain ⟨σ4, τ4⟩ := u4
    obtain ⟨hR, f4, fL4, hq4, hp4_0, hp4_1⟩ : P_X9_hasFlight σ0 τ0 2 a2 r4 σ4 τ4 := hp4
    have hP : va_P D vwCl (gw cA ad σ4 τ4) H4 := hP
    obtain rfl := FrL.nil fL4
    obtain rfl := Fr.nil f4
    refine r_if_ne (tgt := 24) hx hb dX11_honest_19 (by decide) (fun c5 => ?_) (fun c5 => ?_)
    · refine lv_aload_n hx hb dX11_honest_24 rfl (lv_at hl 0 rfl) ?_
      refine lv_iload_n hx hb dX11_honest_25 rfl (lv_at hl 2 rfl) ?_
      refine r_cVv (k := 0) (As := [.int a2]) (rest := []) ⟨hx, hb, hml, hown, hts⟩ hK hP hN hS (c_X11_countHonest l D cA ad hI σ0 τ0 hR a2 (by omega)) (cwV 1 hts gX11_honest_X11_countHonest rfl rfl rfl (by decide +kernel) ⟨by decide, by decide⟩) (rv_X hK hP (by decide) (by decide)) rfl hl.1 rfl (Nat.le_of_ble_eq_true rfl) dX11_honest_26 (Nat.zero_le _) (Nat.zero_le _) (fun u6 H6 locs6 hp6 hP hS => ?_)
      obtain ⟨σ6, τ6⟩ := u6
      obtain ⟨hR, f6, fL6⟩ : P_X11_countHonest σ0 τ0 a2 σ6 τ6 := hp6
      have hP : va_P D vwCl (gw cA ad σ6 τ6) H6 := hP
      obtain rfl := FrL.nil fL6
      have hF := hF.step f6 (by decide)
      refine lv_aload_n hx hb dX11_honest_29 rfl (lv_at hl 0 rfl) ?_
      refine fg_11_8 (k := 0) hx hb hts in_X11_honest_11 hown hK hP (by decide) (by decide) (hts _ lk_X11_honest_60) dX11_honest_30 ?_
      refine lv_iload_n hx hb dX11_honest_33 rfl (lv_at hl 1 rfl) ?_
      refine lv_aload_n hx hb dX11_honest_34 rfl (lv_at hl 0 rfl) ?_
      refine fg_11_1 (k := 0) hx hb hts in_X11_honest_11 hown hK hP (by decide) (by decide) (hts _ lk_X11_honest_19) dX11_honest_35 ?_
      refine fgN_9_1 (k := 2) hx hb hts in_X11_honest_9 hown hK hP (by decide) (by decide) (hN.use nw_11_245) dX11_honest_38 ?_
      refine r_cVi (k := 21) (As := [.int a1, .int (σ6 2 1)]) (rest := []) ⟨hx, hb, hml, hown, hts⟩ hK hP hN hS (c_X1_portion l D cA ad hI σ6 τ0 hR a1 (σ6 2 1) (by omega)) (cwV 2 hts gX11_honest_X1_portion rfl rfl rfl (by decide +kernel) ⟨by decide, by decide⟩) (rv_Camp hK hP (by decide) (by decide)) rfl hl.1 rfl (Nat.le_of_ble_eq_true rfl) dX11_honest_41 (Nat.zero_le _) (Nat.zero_le _) (fun r7 u7 H7 locs7 hp7 hP hS => ?_)
      obtain ⟨σ7, τ7⟩ := u7
      obtain ⟨hR, f7, fL7⟩ : P_X1_portion σ6 τ0 a1 (σ6 2 1) r7 σ7 τ7 := hp7
      have hP : va_P D vwCl (gw cA ad σ7 τ7) H7 := hP
      obtain rfl := FrL.nil fL7
      obtain rfl := Fr.nil f7
      exact r_iret hx hb hr hK hP hS hk dX11_honest_44 (show P_X11_honest σ0 τ0 a1 a2 r7 σ6 τ0 from ⟨hR, hF, hFL⟩)
    · refine r_iconst hx hb dX11_honest_22 (by decide) (fun z8 ez8 => ?_)
      exact r_iret hx hb hr hK hP hS hk dX11_honest_23 (show P_X11_honest σ0 τ0 a1 a2 z8 σ0 τ0 from ⟨hR, hF, hFL⟩)
